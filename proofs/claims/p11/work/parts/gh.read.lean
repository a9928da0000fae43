/-! the class's reader: a law, as the machine reads it -/
/-- a law was read; it is not counted yet -/
def OL (Y : yx) (q : Nat) (c0 : cf) (K : List tq) (z : Int) (H : hp) : Prop := (z = 1 ∧ ∃ X, rch Y c0 ((15, 0, 0, 0) :: K, X) ∧ RB Y q H X ∧ AB X ∧ (0 ≤ X 0 7 ∧ X 0 7 < 16) ∧ H.1 (265 + 6 * (X 0 7).toNat) 5 = X 12 (X 0 7).toNat ∧ SD H (265 + 6 * (X 0 7).toNat + 1) X (4 * (X 0 7).toNat + 102) ∧ SD H (265 + 6 * (X 0 7).toNat + 3) (xsd X (4 * (X 0 7).toNat + 103)) (4 * (X 0 7).toNat + 103) ∧ LVS H (X 0 7).toNat (xsd X (4 * (X 0 7).toNat + 103))) ∨ (z = 0 ∧ FB Y c0 H)

/-! Reader.readLaw -/
set_option maxRecDepth 100000 in
set_option maxHeartbeats 4000000 in
theorem q_Reader_readLaw {Y : yx} {q : Nat} {c0 : cf} {K : List tq} {X : rx} {n9 : Int} {d : Nat} (hd : 41 ≤ d) {H : hp} (hI : Inv H)   (hB : RB Y q H X) (hX : rch Y c0 ((6, n9, 0, 0) :: K, X)) (h4 : tk Y (xi X) = 7) (hA : AB X) : hG (zs zK) d mt_69 0 (zargs 0 [.inr (.inr 361)]) [] H (fun r9 H9 => ∃ z : Int, r9 = some (.inl z) ∧ ((0 ≤ z ∧ z ≤ 1)) ∧ Inv H9 ∧ fq [(361, 3), (361, 4), (361, 5), (361, 6), (361, 7), (361, 8), (361, 9)] [362] true H H9 ∧ ((OL Y q c0 ((1, 59, 0, 0) :: (6, n9 + 1, 0, 0) :: K) z H9) ∧ NE (265 + 6 * (X 0 7).toNat) H H9)) := by
  have hpa := RB_pa hB
  have htk := RB_tk hB
  obtain ⟨Q9, hQ9⟩ : ∃ Q9 : Option zv → hp → Prop, Q9 = (fun r9 H9 => ∃ z : Int, r9 = some (.inl z) ∧ ((0 ≤ z ∧ z ≤ 1)) ∧ Inv H9 ∧ fq [(361, 3), (361, 4), (361, 5), (361, 6), (361, 7), (361, 8), (361, 9)] [362] true H H9 ∧ ((OL Y q c0 ((1, 59, 0, 0) :: (6, n9 + 1, 0, 0) :: K) z H9) ∧ NE (265 + 6 * (X 0 7).toNat) H H9)) := ⟨_, rfl⟩
  rw [← hQ9]
  refine k_run 0 (pc' := 0) (l' := [(0, .inr (.inr 361))]) (st' := []) rfl ?_
  refine k_run 3 (pc' := 5) (l' := [(0, .inr (.inr 361))]) (st' := [.inl (H.1 361 3), .inr (.inr 361)]) rfl ?_
  have g1 : -2147483648 ≤ (H.1 361 3) ∧ (H.1 361 3) ≤ 2147483647 := kn (x := kx_361) hI rfl 3
  refine k_run 2 (pc' := 7) (l' := [(0, .inr (.inr 361))]) (st' := [.inl ((H.1 361 3) + 1), .inr (.inr 361)]) rfl ?_
  refine k_puti (z := ((H.1 361 3) + 1)) (a := 361) (x := kx_361) rfl rfl rfl (by decide) (by decide) rfl rfl rfl rfl hI (by omega) (show -2147483648 ≤ ((H.1 361 3) + 1) ∧ ((H.1 361 3) + 1) ≤ 2147483647 by omega) (fun H2 hI3 hw4 hv5 => ?_)
  have hf6 : fq [(361, 3), (361, 4), (361, 5), (361, 6), (361, 7), (361, 8), (361, 9)] [362] true H H2 := fq_w (fq_rf _ _ _ _) hw4 (fpo (by decide) rfl)
  refine k_run 0 (pc' := 10) (l' := [(0, .inr (.inr 361))]) (st' := []) rfl ?_
  have hw10 := hw4
  have hB1 : RB Y q H2 (adv X) := RB_adv hB (fw_w (fw_rf [(361, 3)] _) hw4 (by simp)) nB3 hv5 (RB_lt hB (by omega) (by omega))
  have hpa1 := RB_pa hB1
  have htk1 := RB_tk hB1
  have hA1 := AB_adv hA
  have hlc : H2.1 7 6 = X 0 7 := hB1.2.1.1.2.2.2.2.trans (adv_0 X (by decide))
  have hlb : 0 ≤ H2.1 7 6 ∧ H2.1 7 6 ≤ 16 := kn (x := kx_7) hI3 rfl 6
  refine k_run 1 (pc' := 11) (l' := [(0, .inr (.inr 361))]) (st' := [.inr (.inr 361)]) rfl ?_
  have g7 : -2147483648 ≤ (H2.1 361 3) ∧ (H2.1 361 3) ≤ 2147483647 := kn (x := kx_361) hI3 rfl 3
  have g8 : 0 ≤ (H2.1 2 5) ∧ (H2.1 2 5) ≤ 1001 := kn (x := kx_2) hI3 rfl 5
  have e9 : (H2.1 2 5) = (H.1 2 5) := hw4.2 _ _ (fun q => absurd q.1 (by decide))
  refine h_cv (i := 72) (j := 83) (b := 361) (M' := mt_83) (xs := []) (rest := []) rfl rfl rfl rfl (zs_K (x := kx_361) rfl (by decide)) rfl (Nat.le_of_ble_eq_true rfl) (Nat.le_of_ble_eq_true rfl) (by omega) (q_Reader_token (by omega) hI3 (by omega)) ?_
  rintro _ _ ⟨z16, rfl, g10, hx15, rfl⟩
  refine k_run 0 (pc' := 14) (l' := [(0, .inr (.inr 361))]) (st' := [.inl z16]) rfl ?_
  rw [htk1] at hx15
  refine k_run 1 (pc' := 15) (l' := [(0, .inr (.inr 361))]) (st' := [.inl 2, .inl z16]) rfl ?_
  refine h_ieq (off := 8) (t := 23) rfl rfl (by omega) (by decide) (fun c17 => ?_) (fun c17 => ?_)
  · refine k_run 0 (pc' := 23) (l' := [(0, .inr (.inr 361))]) (st' := []) rfl ?_
    refine k_run 3 (pc' := 28) (l' := [(0, .inr (.inr 361))]) (st' := [.inr (.inr 361), .inr (.inr 7)]) rfl ?_
    refine h_cv (i := 120) (j := 84) (b := 361) (M' := mt_84) (xs := []) (rest := [.inr (.inr 7)]) rfl rfl rfl rfl (zs_K (x := kx_361) rfl (by decide)) rfl (Nat.le_of_ble_eq_true rfl) (Nat.le_of_ble_eq_true rfl) (by omega) (q_Reader_name (by omega) hI3 (by omega)) ?_
    rintro _ _ ⟨z24, rfl, g18, hx23, rfl⟩
    refine k_run 0 (pc' := 31) (l' := [(0, .inr (.inr 361))]) (st' := [.inr (.inl z24), .inr (.inr 7)]) rfl ?_
    refine h_cv (i := 175) (j := 36) (b := 7) (M' := mt_36) (xs := [.inr (.inl z24)]) (rest := []) rfl rfl rfl rfl (zs_K (x := kx_7) rfl (by decide)) rfl (Nat.le_of_ble_eq_true rfl) (Nat.le_of_ble_eq_true rfl) (by omega) (q_Program_hasLawNamed (by omega) hI3 (by omega) hB1.2.2.2) ?_
    rintro _ _ ⟨z31, rfl, g25, hx30, rfl⟩
    refine k_run 0 (pc' := 34) (l' := [(0, .inr (.inr 361))]) (st' := [.inl z31]) rfl ?_
    have hnm := RB_tn hB1 (by omega) (by omega)
    have hlf : z31 = 1 ↔ 0 ≤ lfd Y (adv X) := by rw [hx30, hx23, RB_lf hB1 (by omega) (by omega) hlb.2]
    refine h_zeq (off := 9) (t := 43) rfl rfl (by omega) (fun c32 => ?_) (fun c32 => ?_)
    · refine k_run 0 (pc' := 43) (l' := [(0, .inr (.inr 361))]) (st' := []) rfl ?_
      refine k_run 3 (pc' := 50) (l' := [(0, .inr (.inr 361))]) (st' := [.inl (H2.1 7 6)]) rfl ?_
      have g33 : 0 ≤ (H2.1 7 6) ∧ (H2.1 7 6) ≤ 16 := kn (x := kx_7) hI3 rfl 6
      have e34 : (H2.1 7 6) = (H.1 7 6) := hw4.2 _ _ (fun q => absurd q.1 (by decide))
      refine k_run 1 (pc' := 52) (l' := [(0, .inr (.inr 361))]) (st' := [.inl 16, .inl (H2.1 7 6)]) rfl ?_
      refine h_ilt (off := 9) (t := 61) rfl rfl (by omega) (by decide) (fun c35 => ?_) (fun c35 => ?_)
      · refine k_run 0 (pc' := 61) (l' := [(0, .inr (.inr 361))]) (st' := []) rfl ?_
        refine k_run 7 (pc' := 76) (l' := [(0, .inr (.inr 361))]) (st' := [.inl (H2.1 7 6), .inr (.inr 24), .inr (.inr 361)]) rfl ?_
        refine k_ald (c := 24) (j := ((H2.1 7 6)).toNat) (i := (H2.1 7 6)) (x := kx_24) rfl rfl (by decide) rfl (by decide) (by omega) (by omega) hI3 (fun h36 => ?_)
        obtain ⟨t37, et39⟩ : ∃ t9, t9 = H2.2 24 ((H2.1 7 6)).toNat := ⟨_, rfl⟩
        rw [← et39] at h36 ⊢
        have k38 : isE t37 := h36
        refine k_run 0 (pc' := 77) (l' := [(0, .inr (.inr 361))]) (st' := [.inr (.inr t37), .inr (.inr 361)]) rfl ?_
        have hteL : t37 = 265 + 6 * (H2.1 7 6).toNat := et39.trans (hB1.2.2.2.2 _ (by omega))
        have hEL : t37 = 265 + 6 * (X 0 7).toNat := by rw [hteL, hlc]
        have he9 : ∃ k : Nat, k < 56 ∧ t37 = 25 + 6 * k := ⟨40 + (H2.1 7 6).toNat, by omega, by omega⟩
        refine k_run 1 (pc' := 78) (l' := [(0, .inr (.inr 361))]) (st' := [.inl 1, .inr (.inr t37), .inr (.inr 361)]) rfl ?_
        refine h_cv (i := 141) (j := 80) (b := 361) (M' := mt_80) (xs := [.inl 1, .inr (.inr t37)]) (rest := []) rfl rfl rfl rfl (zs_K (x := kx_361) rfl (by decide)) rfl (Nat.le_of_ble_eq_true rfl) (Nat.le_of_ble_eq_true rfl) (by omega) (q_Reader_startEquation (by omega) hI3 k38 (by decide) he9) ?_
        rintro _ H41 ⟨rfl, hI42, hq43, hx45⟩
        have hf46 : fq [(361, 3), (361, 4), (361, 5), (361, 6), (361, 7), (361, 8), (361, 9)] [362] true H H41 := fq_t hf6 hq43 rfl rfl rfl
        refine k_run 0 (pc' := 81) (l' := [(0, .inr (.inr 361))]) (st' := []) rfl ?_
        have hNb : NE (265 + 6 * (X 0 7).toNat) H2 H41 := by rw [← hEL]; exact NE_Q hx45
        have hR2 : RT Y q H41 (xst (adv X) 1) := RT_start hB1 he9 hx45
        have hpa2 := RB_pa hR2.1
        have hn2 : H41.1 6 (H41.1 361 3).toNat = tn Y (xi (adv X)) := by rw [hx45.1 361 3 (fun q9 => by have := q9.1; omega) (fun q9 => by have := q9.2; omega), hx45.1 6 _ (fun q9 => by have := q9.1; omega) (fun q9 => absurd q9.1 (by decide))]; exact hnm
        have h27 : xst (adv X) 1 0 7 = X 0 7 := (xst_0 _ _ (by decide) (by decide) (by decide)).trans (adv_0 X (by decide))
        refine k_run 1 (pc' := 82) (l' := [(0, .inr (.inr 361))]) (st' := [.inr (.inr 361)]) rfl ?_
        refine k_getr (a := 361) (x := kx_361) rfl rfl rfl (by decide) rfl rfl rfl hI42 (fun h47 => ?_)
        obtain ⟨t48, et50⟩ : ∃ t9, t9 = H41.2 361 7 := ⟨_, rfl⟩
        rw [← et50] at h47 ⊢
        have k49 : isE t48 := h47
        refine k_run 0 (pc' := 85) (l' := [(0, .inr (.inr 361))]) (st' := [.inr (.inr t48)]) rfl ?_
        refine k_run 1 (pc' := 86) (l' := [(0, .inr (.inr 361))]) (st' := [.inr (.inr 361), .inr (.inr t48)]) rfl ?_
        have g51 : -2147483648 ≤ (H41.1 361 3) ∧ (H41.1 361 3) ≤ 2147483647 := kn (x := kx_361) hI42 rfl 3
        have e52 : (H41.1 361 3) = (H2.1 361 3) := (hq43.1 361 3 rfl (by decide) (by decide)).1
        have g53 : 0 ≤ (H41.1 2 5) ∧ (H41.1 2 5) ≤ 1001 := kn (x := kx_2) hI42 rfl 5
        have e54 : (H41.1 2 5) = (H2.1 2 5) := (hq43.1 2 5 rfl (by decide) (by decide)).1
        refine h_cv (i := 120) (j := 84) (b := 361) (M' := mt_84) (xs := []) (rest := [.inr (.inr t48)]) rfl rfl rfl rfl (zs_K (x := kx_361) rfl (by decide)) rfl (Nat.le_of_ble_eq_true rfl) (Nat.le_of_ble_eq_true rfl) (by omega) (q_Reader_name (by omega) hI42 (by omega)) ?_
        rintro _ _ ⟨z61, rfl, g55, hx60, rfl⟩
        refine k_run 0 (pc' := 89) (l' := [(0, .inr (.inr 361))]) (st' := [.inr (.inl z61), .inr (.inr t48)]) rfl ?_
        refine k_putlx (z := z61) (a := t48) (x := (kEo t48)) rfl rfl k49.1 (iE0 k49) k49.2.2.2.2.1 rfl rfl rfl rfl hI42 rfl (by omega) (fun H62 hI63 hw64 hv65 => ?_)
        have hf66 : fq [(361, 3), (361, 4), (361, 5), (361, 6), (361, 7), (361, 8), (361, 9)] [362] true H H62 := fq_w hf46 hw64 (fpg (iEf k49))
        refine k_run 0 (pc' := 92) (l' := [(0, .inr (.inr 361))]) (st' := []) rfl ?_
        have het2 : t48 = 265 + 6 * (X 0 7).toNat := et50.trans ((hx45.2.2.2.2.2.1).trans (hteL.trans (by rw [hlc])))
        have hR3 := RT_name (x := tn Y (xi (adv X))) hR2 (show t48 = 265 + 6 * (xst (adv X) 1 0 7).toNat by rw [h27]; exact het2) (by omega) hw64
        have hNc := NE_tr (NE_tr (NE_w (e := 265 + 6 * (X 0 7).toNat) hw10 (sc_no (by omega))) hNb) (NE_w hw64 (fun _ => by omega))
        rw [h27] at hR3
        have hv3 : H62.1 (265 + 6 * (X 0 7).toNat) 5 = tn Y (xi (adv X)) := by rw [← het2]; exact hv65.trans (hx60.trans hn2)
        refine k_run 1 (pc' := 93) (l' := [(0, .inr (.inr 361))]) (st' := [.inr (.inr 361)]) rfl ?_
        refine k_getr (a := 361) (x := kx_361) rfl rfl rfl (by decide) rfl rfl rfl hI63 (fun h67 => ?_)
        obtain ⟨t68, et70⟩ : ∃ t9, t9 = H62.2 361 7 := ⟨_, rfl⟩
        rw [← et70] at h67 ⊢
        have k69 : isE t68 := h67
        refine k_run 0 (pc' := 96) (l' := [(0, .inr (.inr 361))]) (st' := [.inr (.inr t68)]) rfl ?_
        refine k_run 1 (pc' := 97) (l' := [(0, .inr (.inr 361))]) (st' := [.inl 0, .inr (.inr t68)]) rfl ?_
        refine k_puti (z := 0) (a := t68) (x := (kEo t68)) rfl rfl k69.1 (iE0 k69) k69.2.2.2.2.1 rfl rfl rfl rfl hI63 (by decide) (show -2147483648 ≤ (0 : Int) ∧ (0 : Int) ≤ 2147483647 by omega) (fun H71 hI72 hw73 hv74 => ?_)
        have hf75 : fq [(361, 3), (361, 4), (361, 5), (361, 6), (361, 7), (361, 8), (361, 9)] [362] true H H71 := fq_w hf66 hw73 (fpg (iEf k69))
        refine k_run 0 (pc' := 100) (l' := [(0, .inr (.inr 361))]) (st' := []) rfl ?_
        have het3 : t68 = 265 + 6 * (X 0 7).toNat := et70.trans ((congrFun (congrFun hw64.1 361) 7).trans ((hx45.2.2.2.2.2.1).trans (hteL.trans (by rw [hlc]))))
        have hR4 : RT Y q H71 (xu (xst (adv X) 1) 12 (X 0 7).toNat (tn Y (xi (adv X)))) := RT_eq hR3 ⟨40 + (X 0 7).toNat, by omega, by omega⟩ (by decide) hw73
        have hv4 : H71.1 (265 + 6 * (X 0 7).toNat) 5 = tn Y (xi (adv X)) := (hw73.2 _ _ (fun q9 => absurd q9.2 (by decide))).trans hv3
        have hpa4 := RB_pa hR4.1
        have hNd := NE_tr hNc (NE_w hw73 (fun _ => by omega))
        refine k_run 3 (pc' := 105) (l' := [(0, .inr (.inr 361))]) (st' := [.inl (H71.1 361 3), .inr (.inr 361)]) rfl ?_
        have g76 : -2147483648 ≤ (H71.1 361 3) ∧ (H71.1 361 3) ≤ 2147483647 := kn (x := kx_361) hI72 rfl 3
        have e77 : (H71.1 361 3) = (H62.1 361 3) := hw73.2 _ _ (fun q => by have h9 := (iEf k69); rw [← q.1] at h9; exact absurd h9 (by decide))
        have e78 : (H62.1 361 3) = (H41.1 361 3) := hw64.2 _ _ (fun q => by have h9 := (iEf k49); rw [← q.1] at h9; exact absurd h9 (by decide))
        refine k_run 2 (pc' := 107) (l' := [(0, .inr (.inr 361))]) (st' := [.inl ((H71.1 361 3) + 1), .inr (.inr 361)]) rfl ?_
        refine k_puti (z := ((H71.1 361 3) + 1)) (a := 361) (x := kx_361) rfl rfl rfl (by decide) (by decide) rfl rfl rfl rfl hI72 (by omega) (show -2147483648 ≤ ((H71.1 361 3) + 1) ∧ ((H71.1 361 3) + 1) ≤ 2147483647 by omega) (fun H79 hI80 hw81 hv82 => ?_)
        have hf83 : fq [(361, 3), (361, 4), (361, 5), (361, 6), (361, 7), (361, 8), (361, 9)] [362] true H H79 := fq_w hf75 hw81 (fpo (by decide) rfl)
        refine k_run 0 (pc' := 110) (l' := [(0, .inr (.inr 361))]) (st' := []) rfl ?_
        have hN5 := NE_tr hNd (NE_w hw81 (sc_no (by omega)))
        have n00 : (xu (xst (adv X) 1) 12 (X 0 7).toNat (tn Y (xi (adv X)))) 0 0 = adv X 0 0 := (congrFun (xu_ne _ _ _ (by decide)) 0).trans (xst_0 _ _ (by decide) (by decide) (by decide))
        have hR5 : RT Y q H79 (adv (xu (xst (adv X) 1) 12 (X 0 7).toNat (tn Y (xi (adv X))))) := RT_adv hR4 (fw_w (fw_rf [(361, 3)] _) hw81 (by simp)) n3 hv82 (by rw [n00]; exact RB_lt hB1 (by omega) (by omega))
        have hX5 : rch Y c0 ((1, 58, 0, 0) :: (2, -2, 0, 0) :: (1, 61, 0, 0) :: (14, 0, 0, 0) :: (15, 0, 0, 0) :: (1, 59, 0, 0) :: (6, n9 + 1, 0, 0) :: K, adv (xu (xst (adv X) 1) 12 (X 0 7).toNat (tn Y (xi (adv X))))) := by rw [← xst_12]; exact (rch_st hX (by show stDec Y n9 K X = _; unfold stDec; (repeat (first | rw [if_pos (by omega)] | rw [if_neg (by omega)])); try rfl))
        have hpa5 := RB_pa hR5.1
        have htk5 := RB_tk hR5.1
        have hv5 : H79.1 (265 + 6 * (X 0 7).toNat) 5 = tn Y (xi (adv X)) := (hw81.2 _ _ (fun q9 => by have := q9.1; omega)).trans hv4
        have hr5 : H79.2 361 7 = 265 + 6 * (X 0 7).toNat ∧ H79.2 361 8 = 265 + 6 * (X 0 7).toNat + 1 := ⟨(congrFun (congrFun hw81.1 361) 7).trans ((congrFun (congrFun hw73.1 361) 7).trans ((congrFun (congrFun hw64.1 361) 7).trans ((hx45.2.2.2.2.2.1).trans (hteL.trans (by rw [hlc]))))), (congrFun (congrFun hw81.1 361) 8).trans ((congrFun (congrFun hw73.1 361) 8).trans ((congrFun (congrFun hw64.1 361) 8).trans ((hx45.2.2.2.2.2.2).trans (by rw [hteL, hlc]))))⟩
        have hA5 : AB (adv (xu (xst (adv X) 1) 12 (X 0 7).toNat (tn Y (xi (adv X))))) := AB_adv (by rw [← xst_12]; exact AB_st (by have q9 := hA1; unfold AB at q9 ⊢; rw [show xu (adv X) 12 (X 0 7).toNat (tn Y (xi (adv X))) 0 = adv X 0 from xu_ne _ _ _ (by decide), show xu (adv X) 12 (X 0 7).toNat (tn Y (xi (adv X))) 4 = adv X 4 from xu_ne _ _ _ (by decide), show xu (adv X) 12 (X 0 7).toNat (tn Y (xi (adv X))) 8 = adv X 8 from xu_ne _ _ _ (by decide)]; exact q9))
        refine k_run 2 (pc' := 113) (l' := [(0, .inr (.inr 361))]) (st' := [.inl 58, .inr (.inr 361)]) rfl ?_
        have g84 : -2147483648 ≤ (H79.1 361 3) ∧ (H79.1 361 3) ≤ 2147483647 := kn (x := kx_361) hI80 rfl 3
        have g85 : 0 ≤ (H79.1 2 5) ∧ (H79.1 2 5) ≤ 1001 := kn (x := kx_2) hI80 rfl 5
        have e86 : (H79.1 2 5) = (H71.1 2 5) := hw81.2 _ _ (fun q => absurd q.1 (by decide))
        have e87 : (H71.1 2 5) = (H62.1 2 5) := hw73.2 _ _ (fun q => by have h9 := (iEf k69); rw [← q.1] at h9; exact absurd h9 (by decide))
        have e88 : (H62.1 2 5) = (H41.1 2 5) := hw64.2 _ _ (fun q => by have h9 := (iEf k49); rw [← q.1] at h9; exact absurd h9 (by decide))
        refine h_cv (i := 92) (j := 82) (b := 361) (M' := mt_82) (xs := [.inl 58]) (rest := []) rfl rfl rfl rfl (zs_K (x := kx_361) rfl (by decide)) rfl (Nat.le_of_ble_eq_true rfl) (Nat.le_of_ble_eq_true rfl) (by omega) (q_Reader_take (by omega) hI80 (by decide) (by omega)) ?_
        rintro _ H90 ⟨z95, rfl, g89, hI91, hq92, hp93, hx94⟩
        have hf96 : fq [(361, 3), (361, 4), (361, 5), (361, 6), (361, 7), (361, 8), (361, 9)] [362] true H H90 := fq_t hf83 hq92 rfl rfl rfl
        refine k_run 0 (pc' := 116) (l' := [(0, .inr (.inr 361))]) (st' := [.inl z95]) rfl ?_
        refine h_zeq (off := 23) (t := 139) rfl rfl (by omega) (fun c97 => ?_) (fun c97 => ?_)
        · refine k_run 0 (pc' := 139) (l' := [(0, .inr (.inr 361))]) (st' := []) rfl ?_
          refine k_run 1 (pc' := 140) (l' := [(0, .inr (.inr 361))]) (st' := [.inl 0]) rfl ?_
          refine h_retz (x := 0) rfl rfl (by decide) ?_
          rw [hQ9]
          rw [htk5] at hx94
          exact ⟨_, rfl, (by omega), hI91, hf96, (by first | (exfalso; omega) | exact ⟨Or.elim hx94 (fun e => absurd e.1 (by omega)) (fun e => Or.inr ⟨rfl, FB_mk hR5.1 hp93 nT345 (rch_st hX5 (by show (if tk Y (xi (adv (xu (xst (adv X) 1) 12 (X 0 7).toNat (tn Y (xi (adv X)))))) = 58 then _ else _) = _; rw [if_neg e.2.1]; rfl)) e.2.2.2.1 e.2.2.2.2⟩), NE_tr hN5 (NE_fwo hp93 (by simp))⟩)⟩
        · refine k_run 0 (pc' := 119) (l' := [(0, .inr (.inr 361))]) (st' := []) rfl ?_
          have hN6 := NE_tr hN5 (NE_fwo hp93 (by simp))
          rw [htk5] at hx94
          obtain ⟨t11, t12, t13⟩ := Or.resolve_right hx94 (fun q9 => by have := q9.1; omega)
          have hR6 : RT Y q H90 (adv (adv (xu (xst (adv X) 1) 12 (X 0 7).toNat (tn Y (xi (adv X)))))) := RT_adv hR5 hp93 n345 t13 (RB_lt hR5.1 (by omega) (by omega))
          have hX6 : rch Y c0 ((2, -2, 0, 0) :: (1, 61, 0, 0) :: (14, 0, 0, 0) :: (15, 0, 0, 0) :: (1, 59, 0, 0) :: (6, n9 + 1, 0, 0) :: K, adv (adv (xu (xst (adv X) 1) 12 (X 0 7).toNat (tn Y (xi (adv X)))))) := rch_st hX5 (show step Y _ = _ from if_pos t12)
          have hpa6 := RB_pa hR6.1
          have hv6 : H90.1 (265 + 6 * (X 0 7).toNat) 5 = tn Y (xi (adv X)) := (hp93.2 _ _ (by simp; omega)).trans hv5
          have hr6 : H90.2 361 7 = 265 + 6 * (X 0 7).toNat ∧ H90.2 361 8 = 265 + 6 * (X 0 7).toNat + 1 := by rw [hp93.1]; exact hr5
          refine k_run 4 (pc' := 124) (l' := [(0, .inr (.inr 361))]) (st' := [.inl 0, .inl 0, .inl (-2), .inr (.inr 361)]) rfl ?_
          refine h_cv (i := 109) (j := 73) (b := 361) (M' := mt_73) (xs := [.inl 0, .inl 0, .inl (-2)]) (rest := []) rfl rfl rfl rfl (zs_K (x := kx_361) rfl (by decide)) rfl (Nat.le_of_ble_eq_true rfl) (Nat.le_of_ble_eq_true rfl) (by omega) (q_Reader_readTerm (by omega) hI91 (by decide) (by decide) (by decide) (by omega) hR6 hX6) ?_
          rintro _ H99 ⟨z104, rfl, g98, hI100, hq101, hx103⟩
          have hf105 : fq [(361, 3), (361, 4), (361, 5), (361, 6), (361, 7), (361, 8), (361, 9)] [362] true H H99 := fq_t hf96 hq101 rfl rfl rfl
          refine k_run 0 (pc' := 127) (l' := [(0, .inr (.inr 361))]) (st' := [.inl z104]) rfl ?_
          refine h_zeq (off := 12) (t := 139) rfl rfl (by omega) (fun c106 => ?_) (fun c106 => ?_)
          · refine k_run 0 (pc' := 139) (l' := [(0, .inr (.inr 361))]) (st' := []) rfl ?_
            refine k_run 1 (pc' := 140) (l' := [(0, .inr (.inr 361))]) (st' := [.inl 0]) rfl ?_
            refine h_retz (x := 0) rfl rfl (by decide) ?_
            rw [hQ9]
            exact ⟨_, rfl, (by omega), hI100, hf105, (by first | (exfalso; omega) | exact ⟨(Or.inr ⟨rfl, (Or.resolve_left hx103.1 (fun q9 => by have := q9.1; omega)).2⟩), NE_tr hN6 (NE_NL hx103.2 (by omega) (by omega) (by omega))⟩)⟩
          · refine k_run 0 (pc' := 130) (l' := [(0, .inr (.inr 361))]) (st' := []) rfl ?_
            have hN7 := NE_tr hN6 (NE_NL hx103.2 (by omega) (by omega) (by omega))
            obtain ⟨X7, m1, m2, m3⟩ := (Or.resolve_right hx103.1 (fun q9 => by have := q9.1; omega)).2
            have hpa7 := RB_pa m2.1
            have htk7 := RB_tk m2.1
            have hA7 : AB X7 := AB_cg (AB_adv hA5) hR6.1 m2.1 (fun c j h => (hq101.1 c j (by rcases h with rfl | rfl | rfl | rfl <;> rfl) (by rcases h with rfl | rfl | rfl | rfl <;> decide) (by rcases h with rfl | rfl | rfl | rfl <;> simp)).1)
            have hr7 : H99.2 361 7 = 265 + 6 * (X 0 7).toNat ∧ H99.2 361 8 = 265 + 6 * (X 0 7).toNat + 1 := ⟨((hq101.1 361 7 rfl (by decide) (by decide)).2).trans hr6.1, ((hq101.1 361 8 rfl (by decide) (by decide)).2).trans hr6.2⟩
            have hv7 : H99.1 (265 + 6 * (X 0 7).toNat) 5 = tn Y (xi (adv X)) := (NL_nm hx103.2 (RT_TQ hR6) hR6.2.1.2.1 (by omega)).trans hv6
            refine k_run 2 (pc' := 133) (l' := [(0, .inr (.inr 361))]) (st' := [.inl 61, .inr (.inr 361)]) rfl ?_
            have g107 : -2147483648 ≤ (H99.1 361 3) ∧ (H99.1 361 3) ≤ 2147483647 := kn (x := kx_361) hI100 rfl 3
            have g108 : 0 ≤ (H99.1 2 5) ∧ (H99.1 2 5) ≤ 1001 := kn (x := kx_2) hI100 rfl 5
            have e109 : (H99.1 2 5) = (H90.1 2 5) := (hq101.1 2 5 rfl (by decide) (by decide)).1
            have e110 : (H90.1 2 5) = (H79.1 2 5) := (hq92.1 2 5 rfl (by decide) (by decide)).1
            refine h_cv (i := 92) (j := 82) (b := 361) (M' := mt_82) (xs := [.inl 61]) (rest := []) rfl rfl rfl rfl (zs_K (x := kx_361) rfl (by decide)) rfl (Nat.le_of_ble_eq_true rfl) (Nat.le_of_ble_eq_true rfl) (by omega) (q_Reader_take (by omega) hI100 (by decide) (by omega)) ?_
            rintro _ H112 ⟨z117, rfl, g111, hI113, hq114, hp115, hx116⟩
            have hf118 : fq [(361, 3), (361, 4), (361, 5), (361, 6), (361, 7), (361, 8), (361, 9)] [362] true H H112 := fq_t hf105 hq114 rfl rfl rfl
            refine k_run 0 (pc' := 136) (l' := [(0, .inr (.inr 361))]) (st' := [.inl z117]) rfl ?_
            refine h_zne (off := 5) (t := 141) rfl rfl (by omega) (fun c119 => ?_) (fun c119 => ?_)
            · refine k_run 0 (pc' := 141) (l' := [(0, .inr (.inr 361))]) (st' := []) rfl ?_
              have hN8 := NE_tr hN7 (NE_fwo hp115 (by simp))
              rw [htk7] at hx116
              obtain ⟨u11, u12, u13⟩ := Or.resolve_right hx116 (fun q9 => by have := q9.1; omega)
              have hR8 : RT Y q H112 (adv X7) := RT_adv m2 hp115 n345 u13 (RB_lt m2.1 (by omega) (by omega))
              have k8 : rch Y c0 ((14, 0, 0, 0) :: (15, 0, 0, 0) :: (1, 59, 0, 0) :: (6, n9 + 1, 0, 0) :: K, adv X7) := rch_st m1 (show step Y _ = _ from if_pos u12)
              have hr8 : H112.2 361 7 = 265 + 6 * (X 0 7).toNat ∧ H112.2 361 8 = 265 + 6 * (X 0 7).toNat + 1 := by rw [hp115.1]; exact hr7
              have hv8 : H112.1 (265 + 6 * (X 0 7).toNat) 5 = tn Y (xi (adv X)) := (hp115.2 _ _ (by simp; omega)).trans hv7
              have z02 : adv (adv (xu (xst (adv X) 1) 12 (X 0 7).toNat (tn Y (xi (adv X))))) 0 2 = 0 := (adv_0 _ (by decide)).trans ((adv_0 _ (by decide)).trans ((congrFun (xu_ne _ _ _ (by decide)) 2).trans (xst_s _ _).2.1))
              have z07 := m3.2.1
              have z08 := m3.2.2.2.2 rfl
              rw [z02] at z07 z08
              have e02 := adv_0 X7 (j := 2) (by decide)
              have hs8 : HS (adv X7) (adv X7 13 0) := by have q9 := z08; have q8 := m3.2.2.2.1.1.2.2 4 (by decide) (by decide); have q8b := m3.2.2.2.1.1.2.2 5 (by decide) (by decide); have q7 := adv_0 X7 (j := 4) (by decide); have q6 := adv_0 X7 (j := 5) (by decide); rw [show adv X7 13 = X7 13 from xu_ne _ _ _ (by decide)]; unfold HS at q9 ⊢; have q5 : (0 : Int).toNat = 0 := rfl; rw [q5] at q9; omega
              obtain ⟨k9, i9, a9, hd1, hd2, hd3, hd4⟩ := RT_hd hI113 hR8 (by omega) hs8
              rw [hr8.2] at hd1
              have hsz8 := hR8.2.2.2.1.1
              rw [hr8.2] at hsz8
              have h07 : adv X7 0 7 = X 0 7 := (adv_0 X7 (by decide)).trans ((m3.2.2.2.1.1.2.2 7 (by decide) (by decide)).trans ((adv_0 _ (by decide)).trans ((adv_0 _ (by decide)).trans ((congrFun (xu_ne _ _ _ (by decide)) 7).trans h27))))
              have hSL8 : SD H112 (265 + 6 * (X 0 7).toNat + 1) (xsd (adv X7) (4 * (X 0 7).toNat + 102)) (4 * (X 0 7).toNat + 102) := SD_mk hR8.2.2 hr8.2 (by omega)
              refine k_run 3 (pc' := 146) (l' := [(0, .inr (.inr 361))]) (st' := [.inr (.inr 361), .inr (.inr 7)]) rfl ?_
              refine k_getr (a := 361) (x := kx_361) rfl rfl rfl (by decide) rfl rfl rfl hI113 (fun h120 => ?_)
              obtain ⟨t121, et123⟩ : ∃ t9, t9 = H112.2 361 7 := ⟨_, rfl⟩
              rw [← et123] at h120 ⊢
              have k122 : isE t121 := h120
              refine k_run 0 (pc' := 149) (l' := [(0, .inr (.inr 361))]) (st' := [.inr (.inr t121), .inr (.inr 7)]) rfl ?_
              have het8 : t121 = 265 + 6 * (X 0 7).toNat := et123.trans hr8.1
              refine k_get (a := t121) (x := (kEo t121)) (v := .inr (.inr (t121 + 1))) rfl rfl k122.1 (iE0 k122) rfl rfl rfl ?_
              refine k_run 0 (pc' := 152) (l' := [(0, .inr (.inr 361))]) (st' := [.inr (.inr (t121 + 1)), .inr (.inr 7)]) rfl ?_
              have hsz9 : H112.1 (t121 + 1) 1 = adv X7 0 2 := by rw [het8]; exact hsz8
              refine k_run 1 (pc' := 153) (l' := [(0, .inr (.inr 361))]) (st' := [.inl 0, .inr (.inr (t121 + 1)), .inr (.inr 7)]) rfl ?_
              refine h_cv (i := 188) (j := 51) (b := (t121 + 1)) (M' := mt_51) (xs := [.inl 0]) (rest := [.inr (.inr 7)]) rfl rfl rfl rfl (by rw [zs_K (iEl k122).1 (iT0 (iEl k122))]; rfl) rfl (Nat.le_of_ble_eq_true rfl) (Nat.le_of_ble_eq_true rfl) (by omega) (q_Term_codeAt (by omega) hI113 (iEl k122) (by decide) (by omega)) ?_
              rintro _ _ ⟨z130, rfl, g124, hx129, rfl⟩
              refine k_run 0 (pc' := 156) (l' := [(0, .inr (.inr 361))]) (st' := [.inl z130, .inr (.inr 7)]) rfl ?_
              refine k_run 1 (pc' := 157) (l' := [(0, .inr (.inr 361))]) (st' := [.inr (.inr 361), .inl z130, .inr (.inr 7)]) rfl ?_
              refine k_getr (a := 361) (x := kx_361) rfl rfl rfl (by decide) rfl rfl rfl hI113 (fun h131 => ?_)
              rw [← et123]
              refine k_run 0 (pc' := 160) (l' := [(0, .inr (.inr 361))]) (st' := [.inr (.inr t121), .inl z130, .inr (.inr 7)]) rfl ?_
              refine k_get (a := t121) (x := (kEo t121)) (v := .inr (.inr (t121 + 5))) rfl rfl k122.1 (iE0 k122) rfl rfl rfl ?_
              refine k_run 0 (pc' := 163) (l' := [(0, .inr (.inr 361))]) (st' := [.inr (.inr (t121 + 5)), .inl z130, .inr (.inr 7)]) rfl ?_
              refine h_cv (i := 193) (j := 37) (b := 7) (M' := mt_37) (xs := [.inr (.inr (t121 + 5)), .inl z130]) (rest := []) rfl rfl rfl rfl (zs_K (x := kx_7) rfl (by decide)) rfl (Nat.le_of_ble_eq_true rfl) (Nat.le_of_ble_eq_true rfl) (by omega) (q_Program_typeOf (by omega) hI113 (by omega) (iEa k122) (hx129.trans (by rw [het8]; exact hd1)) hd2) ?_
              rintro _ _ ⟨z138, rfl, g132, hx137, rfl⟩
              refine k_run 0 (pc' := 166) (l' := [(0, .inr (.inr 361))]) (st' := [.inl z138]) rfl ?_
              refine k_run 1 (pc' := 167) (l' := [(0, .inr (.inr 361)), (1, .inl z138)]) (st' := []) rfl ?_
              have hth : z138 = thd (adv X7) := hd2.1.elim (fun q9 => (hx137.1 q9).trans (hd3 q9).symm) (fun q9 => (hx137.2 q9).trans (hd4 q9).symm)
              refine k_run 2 (pc' := 169) (l' := [(0, .inr (.inr 361)), (1, .inl z138)]) (st' := [.inr (.inr 361), .inr (.inr 361)]) rfl ?_
              refine k_getr (a := 361) (x := kx_361) rfl rfl rfl (by decide) rfl rfl rfl hI113 (fun h139 => ?_)
              rw [← et123]
              refine k_run 0 (pc' := 172) (l' := [(0, .inr (.inr 361)), (1, .inl z138)]) (st' := [.inr (.inr t121), .inr (.inr 361)]) rfl ?_
              refine k_get (a := t121) (x := (kEo t121)) (v := .inr (.inr (t121 + 3))) rfl rfl k122.1 (iE0 k122) rfl rfl rfl ?_
              refine k_run 0 (pc' := 175) (l' := [(0, .inr (.inr 361)), (1, .inl z138)]) (st' := [.inr (.inr (t121 + 3)), .inr (.inr 361)]) rfl ?_
              refine h_cv (i := 105) (j := 81) (b := 361) (M' := mt_81) (xs := [.inr (.inr (t121 + 3))]) (rest := []) rfl rfl rfl rfl (zs_K (x := kx_361) rfl (by decide)) rfl (Nat.le_of_ble_eq_true rfl) (Nat.le_of_ble_eq_true rfl) (by omega) (q_Reader_startTerm (by omega) hI113 (iEr k122)) ?_
              rintro _ H141 ⟨rfl, hI142, hq143, hx145⟩
              have hf146 : fq [(361, 3), (361, 4), (361, 5), (361, 6), (361, 7), (361, 8), (361, 9)] [362] true H H141 := fq_t hf118 hq143 rfl rfl rfl
              refine k_run 0 (pc' := 178) (l' := [(0, .inr (.inr 361)), (1, .inl z138)]) (st' := []) rfl ?_
              have hR9 : RT Y q H141 (xu (xsd (adv X7) (4 * (X 0 7).toNat + 102)) 0 2 0) := RT_side (RT_sd _ hR8) ⟨40 + (X 0 7).toNat, by omega, by omega⟩ hx145
              have k9c : rch Y c0 ((2, z138, 0, 0) :: (15, 0, 0, 0) :: (1, 59, 0, 0) :: (6, n9 + 1, 0, 0) :: K, xu (xsd (adv X7) (4 * (X 0 7).toNat + 102)) 0 2 0) := by rw [hth, ← h07]; exact rch_st k8 rfl
              have hA9 : AB (xu (xsd (adv X7) (4 * (X 0 7).toNat + 102)) 0 2 0) := AB_x0 (AB_sd _ (AB_adv hA7)) (by decide) (by decide)
              have h8i : H141.2 361 8 = 265 + 6 * (X 0 7).toNat + 3 := hx145.2.2.2.trans (by omega)
              have h7i : H141.2 361 7 = 265 + 6 * (X 0 7).toNat := (hx145.2.2.1 361 7 (fun q9 => absurd q9.2 (by decide))).trans hr8.1
              have hSL9 : SD H141 (265 + 6 * (X 0 7).toNat + 1) (xu (xsd (adv X7) (4 * (X 0 7).toNat + 102)) 0 2 0) (4 * (X 0 7).toNat + 102) := SD_cg hSL8 (fun c j hc => hx145.1 c j (fun q9 => by have q8 := q9.1; omega)) (xu_ne _ _ _ (by omega)) (xu_ne _ _ _ (by decide)) (xu_ne _ _ _ (by decide))
              have hN9 := NE_tr hN8 (NE_S hx145 (by omega))
              have hv9 : H141.1 (265 + 6 * (X 0 7).toNat) 5 = tn Y (xi (adv X)) := (hx145.1 _ _ (fun q9 => absurd q9.2 (by decide))).trans hv8
              refine k_run 4 (pc' := 182) (l' := [(0, .inr (.inr 361)), (1, .inl z138)]) (st' := [.inl 0, .inl 0, .inl z138, .inr (.inr 361)]) rfl ?_
              refine h_cv (i := 109) (j := 73) (b := 361) (M' := mt_73) (xs := [.inl 0, .inl 0, .inl z138]) (rest := []) rfl rfl rfl rfl (zs_K (x := kx_361) rfl (by decide)) rfl (Nat.le_of_ble_eq_true rfl) (Nat.le_of_ble_eq_true rfl) (by omega) (q_Reader_readTerm (by omega) hI142 (by omega) (by decide) (by decide) (by omega) hR9 k9c) ?_
              rintro _ H148 ⟨z153, rfl, g147, hI149, hq150, hx152⟩
              have hf154 : fq [(361, 3), (361, 4), (361, 5), (361, 6), (361, 7), (361, 8), (361, 9)] [362] true H H148 := fq_t hf146 hq150 rfl rfl rfl
              refine k_run 0 (pc' := 185) (l' := [(0, .inr (.inr 361)), (1, .inl z138)]) (st' := [.inl z153]) rfl ?_
              refine h_zne (off := 5) (t := 190) rfl rfl (by omega) (fun c155 => ?_) (fun c155 => ?_)
              · refine k_run 0 (pc' := 190) (l' := [(0, .inr (.inr 361)), (1, .inl z138)]) (st' := []) rfl ?_
                obtain ⟨X9, n1, n2, n3⟩ := (Or.resolve_right hx152.1 (fun q9 => by have := q9.1; omega)).2
                have hA10 : AB X9 := AB_cg hA9 hR9.1 n2.1 (fun c j h => (hq150.1 c j (by rcases h with rfl | rfl | rfl | rfl <;> rfl) (by rcases h with rfl | rfl | rfl | rfl <;> decide) (by rcases h with rfl | rfl | rfl | rfl <;> simp)).1)
                obtain ⟨kG, hkG, hEG⟩ := n2.2.1.2.1
                have hv10 : H148.1 (265 + 6 * (X 0 7).toNat) 5 = tn Y (xi (adv X)) := (NL_nm hx152.2 (RT_TQ hR9) hR9.2.1.2.1 (by omega)).trans hv9
                have c12 : X9 12 = up (xst (adv X) 1 12) (X 0 7).toNat (tn Y (xi (adv X))) := n3.2.2.2.1.1.2.1.trans ((show xu (xsd (adv X7) (4 * (X 0 7).toNat + 102)) 0 2 0 12 = X7 12 from rfl).trans (m3.2.2.2.1.1.2.1.trans ((xu_ne _ _ _ (by decide)).trans ((xu_ne _ _ _ (by decide)).trans (xu_eq _ _ _ _)))))
                have c07 : X9 0 7 = X 0 7 := (n3.2.2.2.1.1.2.2 7 (by decide) (by decide)).trans (show xu (xsd (adv X7) (4 * (X 0 7).toNat + 102)) 0 2 0 0 7 = X 0 7 from h07)
                have h8j : H148.2 361 8 = 265 + 6 * (X 0 7).toNat + 3 := hx152.2.1.1.trans h8i
                have h7j : H148.2 361 7 = 265 + 6 * (X 0 7).toNat := ((hq150.1 361 7 rfl (by decide) (by decide)).2).trans h7i
                have hSL10 : SD H148 (265 + 6 * (X 0 7).toNat + 1) X9 (4 * (X 0 7).toNat + 102) := SD_cg hSL9 (fun c j hc => hx152.2.2 c j (sc_side (k := 40 + (X 0 7).toNat) (by omega) (by omega)) (by omega) (by omega) (Or.inl (by omega))) (n3.2.2.2.1.2 _ (by omega)) (n3.2.2.2.1.1.1 4 (by decide) (by decide)) (n3.2.2.2.1.1.1 8 (by decide) (by decide))
                have hN10 := NE_tr hN9 (NE_NL hx152.2 (by omega) (by omega) (by omega))
                refine k_run 1 (pc' := 191) (l' := [(0, .inr (.inr 361)), (1, .inl z138)]) (st' := [.inr (.inr 361)]) rfl ?_
                refine k_getr (a := 361) (x := kx_361) rfl rfl rfl (by decide) rfl rfl rfl hI149 (fun h156 => ?_)
                obtain ⟨t157, et159⟩ : ∃ t9, t9 = H148.2 361 7 := ⟨_, rfl⟩
                rw [← et159] at h156 ⊢
                have k158 : isE t157 := h156
                refine k_run 0 (pc' := 194) (l' := [(0, .inr (.inr 361)), (1, .inl z138)]) (st' := [.inr (.inr t157)]) rfl ?_
                refine k_run 2 (pc' := 198) (l' := [(0, .inr (.inr 361)), (1, .inl z138)]) (st' := [.inl (H148.1 361 9), .inr (.inr t157)]) rfl ?_
                have g160 : 0 ≤ (H148.1 361 9) ∧ (H148.1 361 9) ≤ 40 := kn (x := kx_361) hI149 rfl 9
                refine k_puti (z := (H148.1 361 9)) (a := t157) (x := (kEo t157)) rfl rfl k158.1 (iE0 k158) k158.2.2.2.2.1 rfl rfl rfl rfl hI149 (by omega) (show 0 ≤ (H148.1 361 9) ∧ (H148.1 361 9) ≤ 40 by omega) (fun H161 hI162 hw163 hv164 => ?_)
                have hf165 : fq [(361, 3), (361, 4), (361, 5), (361, 6), (361, 7), (361, 8), (361, 9)] [362] true H H161 := fq_w hf154 hw163 (fpg (iEf k158))
                refine k_run 0 (pc' := 201) (l' := [(0, .inr (.inr 361)), (1, .inl z138)]) (st' := []) rfl ?_
                have hR11 : RT Y q H161 X9 := RT_eq n2 ⟨kG, hkG, et159.trans hEG⟩ (by decide) hw163
                have hv11 : H161.1 (265 + 6 * (X 0 7).toNat) 5 = tn Y (xi (adv X)) := (hw163.2 _ _ (fun q9 => absurd q9.2 (by decide))).trans hv10
                have hEk : t157 = 265 + 6 * (X 0 7).toNat := et159.trans h7j
                have h8k : H161.2 361 8 = 265 + 6 * (X 0 7).toNat + 3 := (congrFun (congrFun hw163.1 361) 8).trans h8j
                have hSL11 : SD H161 (265 + 6 * (X 0 7).toNat + 1) X9 (4 * (X 0 7).toNat + 102) := SD_cg hSL10 (fun c j hc => hw163.2 c j (fun q9 => by have q8 := q9.1; omega)) rfl rfl rfl
                have hSR11 : SD H161 (265 + 6 * (X 0 7).toNat + 3) (xsd X9 (4 * (X 0 7).toNat + 103)) (4 * (X 0 7).toNat + 103) := SD_mk hR11.2.2 h8k (by omega)
                have hN11 := NE_tr hN10 (NE_w hw163 (fun _ => by omega))
                have z81 : X9 0 8 = 1 := n3.1.trans ((show xu (xsd (adv X7) (4 * (X 0 7).toNat + 102)) 0 2 0 0 8 = X7 0 8 from rfl).trans (m3.1.trans ((adv_0 _ (by decide)).trans ((adv_0 _ (by decide)).trans ((congrFun (xu_ne _ _ _ (by decide)) 8).trans (xst_s _ _).2.2)))))
                have hV11 := hR11.2.1.2.2 (by omega)
                have h7l : H161.2 361 7 = 265 + 6 * (X 0 7).toNat := (congrFun (congrFun hw163.1 361) 7).trans h7j
                have h93 : H161.1 (265 + 6 * (X 0 7).toNat) 3 = X9 0 1 := by rw [← hEk, hv164, ← hw163.2 361 9 (fun q9 => absurd q9.2 (by decide))]; exact hV11.1.1
                have hLV : LVS H161 (X 0 7).toNat (xsd X9 (4 * (X 0 7).toNat + 103)) := by obtain ⟨y1, y2⟩ := xsd_vr X9 (s := 4 * (X 0 7).toNat + 103) (by omega); unfold LVS; rw [y1]; exact ⟨⟨h93, hV11.1.2.2⟩, fun v hv => by rw [y2 v, ← (hV11.2 v hv).2, h7l]⟩
                refine k_run 1 (pc' := 202) (l' := [(0, .inr (.inr 361)), (1, .inl z138)]) (st' := [.inl 1]) rfl ?_
                refine h_retz (x := 1) rfl rfl (by decide) ?_
                rw [hQ9]
                exact ⟨_, rfl, (by omega), hI162, hf165, (by first | (exfalso; omega) | exact ⟨(Or.inl ⟨rfl, X9, n1, hR11.1, hA10, by omega, by rw [c07, c12, up_eq]; exact hv11, by rw [c07]; exact hSL11, by rw [c07]; exact hSR11, by rw [c07]; exact hLV⟩), hN11⟩)⟩
              · refine k_run 0 (pc' := 188) (l' := [(0, .inr (.inr 361)), (1, .inl z138)]) (st' := []) rfl ?_
                refine k_run 1 (pc' := 189) (l' := [(0, .inr (.inr 361)), (1, .inl z138)]) (st' := [.inl 0]) rfl ?_
                refine h_retz (x := 0) rfl rfl (by decide) ?_
                rw [hQ9]
                exact ⟨_, rfl, (by omega), hI149, hf154, (by first | (exfalso; omega) | exact ⟨(Or.inr ⟨rfl, (Or.resolve_left hx152.1 (fun q9 => by have := q9.1; omega)).2⟩), NE_tr hN9 (NE_NL hx152.2 (by omega) (by omega) (by omega))⟩)⟩
            · refine k_run 0 (pc' := 139) (l' := [(0, .inr (.inr 361))]) (st' := []) rfl ?_
              refine k_run 1 (pc' := 140) (l' := [(0, .inr (.inr 361))]) (st' := [.inl 0]) rfl ?_
              refine h_retz (x := 0) rfl rfl (by decide) ?_
              rw [hQ9]
              rw [htk7] at hx116
              exact ⟨_, rfl, (by omega), hI113, hf118, (by first | (exfalso; omega) | exact ⟨Or.elim hx116 (fun e => absurd e.1 (by omega)) (fun e => Or.inr ⟨rfl, FB_mk m2.1 hp115 nT345 (rch_st m1 (by show (if tk Y (xi X7) = 61 then _ else _) = _; rw [if_neg e.2.1]; rfl)) e.2.2.2.1 e.2.2.2.2⟩), NE_tr hN7 (NE_fwo hp115 (by simp))⟩)⟩
      · refine k_run 0 (pc' := 55) (l' := [(0, .inr (.inr 361))]) (st' := []) rfl ?_
        refine k_run 2 (pc' := 57) (l' := [(0, .inr (.inr 361))]) (st' := [.inl 5, .inr (.inr 361)]) rfl ?_
        refine h_cv (i := 128) (j := 86) (b := 361) (M' := mt_86) (xs := [.inl 5]) (rest := []) rfl rfl rfl rfl (zs_K (x := kx_361) rfl (by decide)) rfl (Nat.le_of_ble_eq_true rfl) (Nat.le_of_ble_eq_true rfl) (by omega) (q_Reader_fails (by omega) hI3 (by decide) (by omega)) ?_
        rintro _ H167 ⟨z172, rfl, g166, hI168, hq169, hp170, hx171⟩
        have hf173 : fq [(361, 3), (361, 4), (361, 5), (361, 6), (361, 7), (361, 8), (361, 9)] [362] true H H167 := fq_t hf6 hq169 rfl rfl rfl
        refine k_run 0 (pc' := 60) (l' := [(0, .inr (.inr 361))]) (st' := [.inl z172]) rfl ?_
        refine h_retz (x := z172) rfl rfl (by omega) ?_
        rw [hQ9]
        exact ⟨_, rfl, (by omega), hI168, hf173, (by first | (exfalso; omega) | exact ⟨(Or.inr ⟨by omega, FB_mk hB1 hp170 nF45 (rch_st hX (by show stDec Y n9 K X = _; unfold stDec; (repeat (first | rw [if_pos (by omega)] | rw [if_neg (by omega)])); try rfl)) hx171.1 hx171.2⟩), NE_tr (NE_w hw10 (sc_no (by omega))) (NE_fwo hp170 (by simp))⟩)⟩
    · refine k_run 0 (pc' := 37) (l' := [(0, .inr (.inr 361))]) (st' := []) rfl ?_
      refine k_run 2 (pc' := 39) (l' := [(0, .inr (.inr 361))]) (st' := [.inl 3, .inr (.inr 361)]) rfl ?_
      refine h_cv (i := 128) (j := 86) (b := 361) (M' := mt_86) (xs := [.inl 3]) (rest := []) rfl rfl rfl rfl (zs_K (x := kx_361) rfl (by decide)) rfl (Nat.le_of_ble_eq_true rfl) (Nat.le_of_ble_eq_true rfl) (by omega) (q_Reader_fails (by omega) hI3 (by decide) (by omega)) ?_
      rintro _ H175 ⟨z180, rfl, g174, hI176, hq177, hp178, hx179⟩
      have hf181 : fq [(361, 3), (361, 4), (361, 5), (361, 6), (361, 7), (361, 8), (361, 9)] [362] true H H175 := fq_t hf6 hq177 rfl rfl rfl
      refine k_run 0 (pc' := 42) (l' := [(0, .inr (.inr 361))]) (st' := [.inl z180]) rfl ?_
      refine h_retz (x := z180) rfl rfl (by omega) ?_
      rw [hQ9]
      exact ⟨_, rfl, (by omega), hI176, hf181, (by first | (exfalso; omega) | exact ⟨(Or.inr ⟨by omega, FB_mk hB1 hp178 nF45 (rch_st hX (by show stDec Y n9 K X = _; unfold stDec; (repeat (first | rw [if_pos (by omega)] | rw [if_neg (by omega)])); try rfl)) hx179.1 hx179.2⟩), NE_tr (NE_w hw10 (sc_no (by omega))) (NE_fwo hp178 (by simp))⟩)⟩
  · refine k_run 0 (pc' := 18) (l' := [(0, .inr (.inr 361))]) (st' := []) rfl ?_
    refine k_run 1 (pc' := 19) (l' := [(0, .inr (.inr 361))]) (st' := [.inr (.inr 361)]) rfl ?_
    refine h_cv (i := 89) (j := 85) (b := 361) (M' := mt_85) (xs := []) (rest := []) rfl rfl rfl rfl (zs_K (x := kx_361) rfl (by decide)) rfl (Nat.le_of_ble_eq_true rfl) (Nat.le_of_ble_eq_true rfl) (by omega) (q_Reader_misplaced (by omega) hI3 (by omega)) ?_
    rintro _ H183 ⟨z188, rfl, g182, hI184, hq185, hp186, hx187⟩
    have hf189 : fq [(361, 3), (361, 4), (361, 5), (361, 6), (361, 7), (361, 8), (361, 9)] [362] true H H183 := fq_t hf6 hq185 rfl rfl rfl
    refine k_run 0 (pc' := 22) (l' := [(0, .inr (.inr 361))]) (st' := [.inl z188]) rfl ?_
    refine h_retz (x := z188) rfl rfl (by omega) ?_
    rw [hQ9]
    exact ⟨_, rfl, (by omega), hI184, hf189, (by first | (exfalso; omega) | exact ⟨(Or.inr ⟨by omega, FB_mk (k := if tk Y (xi (adv X)) = 1 then 1 else 2) hB1 hp186 nF45 (rch_st hX (by show stDec Y n9 K X = _; unfold stDec; (repeat (first | rw [if_pos (by omega)] | rw [if_neg (by omega)])); try rfl)) (hx187.1.trans (by rw [htk1])) hx187.2⟩), NE_tr (NE_w hw10 (sc_no (by omega))) (NE_fwo hp186 (by simp))⟩)⟩
