/-! the class's reader: rules, as the machine reads them -/
theorem AB_x0 {X : rx} {j : Nat} {z : Int} (h : AB X) (h4 : j ≠ 4) (h5 : j ≠ 5) : AB (xu X 0 j z) := by
  have er : ∀ c, c ≠ 0 → xu X 0 j z c = X c := fun c a => xu_ne _ _ _ a
  have e0 : ∀ i, i ≠ j → xu X 0 j z 0 i = X 0 i := fun i a => xu_0 _ _ (fun q => a q.2)
  unfold AB at h ⊢
  rw [e0 4 (fun q => h4 q.symm), e0 5 (fun q => h5 q.symm), er 4 (by decide), er 8 (by decide)]
  exact h
theorem AB_put {X : rx} {s : Int} (h : AB X) : AB (xput X s) := by
  unfold AB at h ⊢
  rw [xput_0 X s (by decide) (by decide), xput_0 X s (by decide) (by decide), xput_r X s (by decide) (by decide), xput_r X s (by decide) (by decide)]
  exact h
theorem AB_st {X : rx} {a : Int} (h : AB X) : AB (xst X a) := AB_x0 (AB_x0 (AB_x0 h (by decide) (by decide)) (by decide) (by decide)) (by decide) (by decide)
/-- one rule more -/
theorem RB_rul {Y : yx} {q : Nat} {H H1 : hp} {X : rx} (h : RB Y q H X) (w : wr 7 5 H H1) (v : H1.1 7 5 = H.1 7 5 + 1) : RB Y q H1 (xu X 0 6 (X 0 6 + 1)) := by
  have er : ∀ c, c ≠ 0 → xu X 0 6 (X 0 6 + 1) c = X c := fun c a => xu_ne _ _ _ a
  have e0 : ∀ i, i ≠ 6 → xu X 0 6 (X 0 6 + 1) 0 i = X 0 i := fun i a => xu_0 _ _ (fun q => a q.2)
  have e6 : xu X 0 6 (X 0 6 + 1) 0 6 = X 0 6 + 1 := xu_1 _ _ _ _
  have f : fw [(7, 5)] H H1 := fw_w (fw_rf _ _) w (by simp)
  have hc := h.2.1.1.2.2.2
  refine ⟨KC_fw h.1 f (by simp), TC_in (T1_fw (TC_1 h.2.1) f (by simp) (e0 _ (by decide)) (er _ (by decide))) (T2_fw (TC_2 h.2.1) f (by simp) (e0 _ (by decide)) (er _ (by decide)) (er _ (by decide)) (er _ (by decide)) (er _ (by decide))) (T3_fw (TC_3 h.2.1) f (by simp) (e0 _ (by decide)) (er _ (by decide)) (er _ (by decide)) (er _ (by decide)) (er _ (by decide))) ⟨⟨by rw [v, e6, hc.1], ?_⟩, fun l l1 hl => ?_⟩, ?_, ER_fw h.2.2.2 f⟩
  · rw [e0 7 (by decide), f.2 7 6 (by simp)]
    exact hc.2
  · rw [e0 7 (by decide)] at hl
    rw [er 12 (by decide), f.2 _ _ (by simp; omega)]
    exact h.2.1.2.2.2.2 l l1 hl
  · rw [e0 0 (by decide), f.2 361 3 (by simp)]
    exact h.2.2.1

/-! Reader.readRule -/
set_option maxRecDepth 100000 in
set_option maxHeartbeats 4000000 in
theorem q_Reader_readRule_cut {Y : yx} {q : Nat} {c0 : cf} {K : List tq} {X : rx} {n9 : Int} {d : Nat} (hd : 41 ≤ d) {H : hp} (hI : Inv H)   (hB : RB Y q H X) (hX : rch Y c0 ((6, n9, 0, 0) :: K, X)) (h4 : tk Y (xi X) = 6) (hA : AB X) : ∀ w : Nat, (∀ (H1 : hp), Inv H1 → fq [(7, 5), (361, 3), (361, 4), (361, 5), (361, 6), (361, 7), (361, 8), (361, 9)] [362] true H H1 → ∀ (x1 : Int) (x2 : Int) (x3 : Int) (x4 : Int) , (-2147483648 ≤ x1 ∧ x1 ≤ 2147483647) → (-2147483648 ≤ x2 ∧ x2 ≤ 2147483647) → (-2147483648 ≤ x3 ∧ x3 ≤ 2147483647) → (-2147483648 ≤ x4 ∧ x4 ≤ 2147483647) → (H1.1 7 5 < 40 ∧ H1.1 7 5 = X 0 6) → (x1 = ffd Y (adv X) ∧ 0 ≤ x1 ∧ x1 < H1.1 18 4 ∧ x1 < 16) → (x2 = H1.1 21 x1.toNat) → (0 ≤ x4) → (x2 ≤ 4) → (0 ≤ x3 ∧ x3 ≤ 1) → ((x3 = 1 ∧ x4 ≤ x2 ∧ ∃ X1 : rx, rch Y c0 ((5, 100 + x1, x4, 0) :: (1, 61, 0, 0) :: (12, x1, 0, 0) :: (13, 0, 0, 0) :: (1, 59, 0, 0) :: (6, n9 + 1, 0, 0) :: K, X1) ∧ RT Y q H1 X1 ∧ PP (100 + x1) X1 ∧ AB X1) ∨ (x3 = 0 ∧ FB Y c0 H1)) → (H1.2 361 7 = 25 + 6 * (X 0 6).toNat ∧ H1.2 361 8 = 25 + 6 * (X 0 6).toNat + 1) → (NE (25 + 6 * (X 0 6).toNat) H H1) → (H1.1 (25 + 6 * (X 0 6).toNat) 4 = x1) → (((100 - x4).toNat) < w) → hG (zs zK) d mt_68 121 [(0, .inr (.inr 361)), (1, .inl x1), (2, .inl x2), (3, .inl x3), (4, .inl x4)] [] H1 (fun r9 H9 => ∃ z : Int, r9 = some (.inl z) ∧ ((0 ≤ z ∧ z ≤ 1)) ∧ Inv H9 ∧ fq [(7, 5), (361, 3), (361, 4), (361, 5), (361, 6), (361, 7), (361, 8), (361, 9)] [362] true H H9 ∧ ((OB9 Y q c0 ((1, 59, 0, 0) :: (6, n9 + 1, 0, 0) :: K) (fun X9 => AB X9 ∧ X9 0 6 = X 0 6 + 1 ∧ SD H9 (25 + 6 * (X 0 6).toNat + 1) X9 (4 * (X 0 6).toNat + 100) ∧ SD H9 (25 + 6 * (X 0 6).toNat + 3) X9 (4 * (X 0 6).toNat + 101) ∧ H9.1 (25 + 6 * (X 0 6).toNat) 4 + 100 = X9 (4 * (X 0 6).toNat + 100) 1) z H9) ∧ NE (25 + 6 * (X 0 6).toNat) H H9 ∧ (40 ≤ X 0 6 → NE 0 H H9)))) := by
  intro w
  induction w with
  | zero => exact fun _ _ _ _ _ _ _ _ _ _ _ _ _ _ _ _ _ _ _ _ _ h => absurd h (Nat.not_lt_zero _)
  | succ w ih =>
    intro H1 hI1 hf1 x1 x2 x3 x4 hx1 hx2 hx3 hx4 hi0 hi1 hi2 hi3 hi4 hi5 hi6 hi7 hi8 hi9 hw
    obtain ⟨Q9, hQ9⟩ : ∃ Q9 : Option zv → hp → Prop, Q9 = (fun r9 H9 => ∃ z : Int, r9 = some (.inl z) ∧ ((0 ≤ z ∧ z ≤ 1)) ∧ Inv H9 ∧ fq [(7, 5), (361, 3), (361, 4), (361, 5), (361, 6), (361, 7), (361, 8), (361, 9)] [362] true H H9 ∧ ((OB9 Y q c0 ((1, 59, 0, 0) :: (6, n9 + 1, 0, 0) :: K) (fun X9 => AB X9 ∧ X9 0 6 = X 0 6 + 1 ∧ SD H9 (25 + 6 * (X 0 6).toNat + 1) X9 (4 * (X 0 6).toNat + 100) ∧ SD H9 (25 + 6 * (X 0 6).toNat + 3) X9 (4 * (X 0 6).toNat + 101) ∧ H9.1 (25 + 6 * (X 0 6).toNat) 4 + 100 = X9 (4 * (X 0 6).toNat + 100) 1) z H9) ∧ NE (25 + 6 * (X 0 6).toNat) H H9 ∧ (40 ≤ X 0 6 → NE 0 H H9))) := ⟨_, rfl⟩
    rw [← hQ9]
    have g118 : 0 ≤ (H1.1 7 5) ∧ (H1.1 7 5) ≤ 40 := kn (x := kx_7) hI1 rfl 5
    have g119 : 0 ≤ (H1.1 18 4) ∧ (H1.1 18 4) ≤ 16 := kn (x := kx_18) hI1 rfl 4
    have e120 : (H1.1 18 4) = (H.1 18 4) := (hf1.1 18 4 rfl (by decide) (by decide)).1
    refine k_run 1 (pc' := 122) (l' := [(0, .inr (.inr 361)), (1, .inl x1), (2, .inl x2), (3, .inl x3), (4, .inl x4)]) (st' := [.inl x3]) rfl ?_
    refine h_zeq (off := 34) (t := 156) rfl rfl (by omega) (fun c121 => ?_) (fun c121 => ?_)
    · refine k_run 0 (pc' := 156) (l' := [(0, .inr (.inr 361)), (1, .inl x1), (2, .inl x2), (3, .inl x3), (4, .inl x4)]) (st' := []) rfl ?_
      refine k_run 1 (pc' := 157) (l' := [(0, .inr (.inr 361)), (1, .inl x1), (2, .inl x2), (3, .inl x3), (4, .inl x4)]) (st' := [.inl x3]) rfl ?_
      refine h_zeq (off := 12) (t := 169) rfl rfl (by omega) (fun c122 => ?_) (fun c122 => ?_)
      · refine k_run 0 (pc' := 169) (l' := [(0, .inr (.inr 361)), (1, .inl x1), (2, .inl x2), (3, .inl x3), (4, .inl x4)]) (st' := []) rfl ?_
        refine k_run 1 (pc' := 170) (l' := [(0, .inr (.inr 361)), (1, .inl x1), (2, .inl x2), (3, .inl x3), (4, .inl x4)]) (st' := [.inl 0]) rfl ?_
        refine h_retz (x := 0) rfl rfl (by decide) ?_
        rw [hQ9]
        exact ⟨_, rfl, (by omega), hI1, hf1, (by first | (exfalso; omega) | exact ⟨(hi6.elim (fun e => absurd e.1 (by omega)) (fun e => Or.inr ⟨rfl, e.2⟩)), hi8, (fun q9 => absurd q9 (by omega))⟩)⟩
      · exfalso
        omega
    · refine k_run 0 (pc' := 125) (l' := [(0, .inr (.inr 361)), (1, .inl x1), (2, .inl x2), (3, .inl x3), (4, .inl x4)]) (st' := []) rfl ?_
      refine k_run 2 (pc' := 128) (l' := [(0, .inr (.inr 361)), (1, .inl x1), (2, .inl x2), (3, .inl x3), (4, .inl x4)]) (st' := [.inl x2, .inl x4]) rfl ?_
      refine h_ige (off := 28) (t := 156) rfl rfl (by omega) (by omega) (fun c123 => ?_) (fun c123 => ?_)
      · refine k_run 0 (pc' := 156) (l' := [(0, .inr (.inr 361)), (1, .inl x1), (2, .inl x2), (3, .inl x3), (4, .inl x4)]) (st' := []) rfl ?_
        refine k_run 1 (pc' := 157) (l' := [(0, .inr (.inr 361)), (1, .inl x1), (2, .inl x2), (3, .inl x3), (4, .inl x4)]) (st' := [.inl x3]) rfl ?_
        refine h_zeq (off := 12) (t := 169) rfl rfl (by omega) (fun c124 => ?_) (fun c124 => ?_)
        · exfalso
          omega
        · refine k_run 0 (pc' := 160) (l' := [(0, .inr (.inr 361)), (1, .inl x1), (2, .inl x2), (3, .inl x3), (4, .inl x4)]) (st' := []) rfl ?_
          obtain ⟨k0, k00, X1, k1, k2, k3, k4⟩ := hi6.resolve_right (fun q9 => by have := q9.1; omega)
          have hpa1 := RB_pa k2.1
          have htk1 := RB_tk k2.1
          have k5 : rch Y c0 ((1, 61, 0, 0) :: (12, x1, 0, 0) :: (13, 0, 0, 0) :: (1, 59, 0, 0) :: (6, n9 + 1, 0, 0) :: K, X1) := rch_st k1 (by show (if x4 < ar X1 (100 + x1) then _ else _) = _; rw [if_neg (by rw [(RB_f (x := x1) k2.1 (by omega) (by omega)).1]; omega)])
          refine k_run 2 (pc' := 163) (l' := [(0, .inr (.inr 361)), (1, .inl x1), (2, .inl x2), (3, .inl x3), (4, .inl x4)]) (st' := [.inl 61, .inr (.inr 361)]) rfl ?_
          have g125 : -2147483648 ≤ (H1.1 361 3) ∧ (H1.1 361 3) ≤ 2147483647 := kn (x := kx_361) hI1 rfl 3
          have g126 : 0 ≤ (H1.1 2 5) ∧ (H1.1 2 5) ≤ 1001 := kn (x := kx_2) hI1 rfl 5
          have e127 : (H1.1 2 5) = (H.1 2 5) := (hf1.1 2 5 rfl (by decide) (by decide)).1
          refine h_cv (i := 92) (j := 82) (b := 361) (M' := mt_82) (xs := [.inl 61]) (rest := []) rfl rfl rfl rfl (zs_K (x := kx_361) rfl (by decide)) rfl (Nat.le_of_ble_eq_true rfl) (Nat.le_of_ble_eq_true rfl) (by omega) (q_Reader_take (by omega) hI1 (by decide) (by omega)) ?_
          rintro _ H129 ⟨z134, rfl, g128, hI130, hq131, hp132, hx133⟩
          have hf135 : fq [(7, 5), (361, 3), (361, 4), (361, 5), (361, 6), (361, 7), (361, 8), (361, 9)] [362] true H H129 := fq_t hf1 hq131 rfl rfl rfl
          refine k_run 0 (pc' := 166) (l' := [(0, .inr (.inr 361)), (1, .inl x1), (2, .inl x2), (3, .inl x3), (4, .inl x4)]) (st' := [.inl z134]) rfl ?_
          refine h_zne (off := 5) (t := 171) rfl rfl (by omega) (fun c136 => ?_) (fun c136 => ?_)
          · refine k_run 0 (pc' := 171) (l' := [(0, .inr (.inr 361)), (1, .inl x1), (2, .inl x2), (3, .inl x3), (4, .inl x4)]) (st' := []) rfl ?_
            rw [htk1] at hx133
            obtain ⟨t11, t12, t13⟩ := Or.resolve_right hx133 (fun q9 => by have := q9.1; omega)
            have hR4 : RT Y q H129 (adv X1) := RT_adv k2 hp132 n345 t13 (RB_lt k2.1 (by omega) (by omega))
            have k6 : rch Y c0 ((12, x1, 0, 0) :: (13, 0, 0, 0) :: (1, 59, 0, 0) :: (6, n9 + 1, 0, 0) :: K, adv X1) := rch_st k5 (show step Y _ = _ from if_pos t12)
            have h06 : adv X1 0 6 = X 0 6 := by have q9 := k2.1.2.1.1.2.2.2.1; rw [adv_0 X1 (by decide)]; omega
            have k7 : rch Y c0 ((2, adv X1 7 x1.toNat, 0, 0) :: (13, 0, 0, 0) :: (1, 59, 0, 0) :: (6, n9 + 1, 0, 0) :: K, xu (xsd (adv X1) (4 * (X 0 6).toNat + 100)) 0 2 0) := by rw [← h06]; exact rch_st k6 rfl
            have hA4 : AB (xu (xsd (adv X1) (4 * (X 0 6).toNat + 100)) 0 2 0) := AB_x0 (AB_sd _ (AB_adv k4)) (by decide) (by decide)
            have h74 : H129.2 361 7 = 25 + 6 * (X 0 6).toNat := by rw [hp132.1]; exact hi7.1
            have h84 : H129.2 361 8 = 25 + 6 * (X 0 6).toNat + 1 := by rw [hp132.1]; exact hi7.2
            have hSL4 : SD H129 (25 + 6 * (X 0 6).toNat + 1) (xsd (adv X1) (4 * (X 0 6).toNat + 100)) (4 * (X 0 6).toNat + 100) := SD_mk hR4.2.2 h84 (by omega)
            have hN4 := NE_tr hi8 (NE_fwo hp132 (by simp))
            have hOw4 : H129.1 (25 + 6 * (X 0 6).toNat) 4 = x1 := (hp132.2 _ _ (by simp; omega)).trans hi9
            have hXs4 : (xsd (adv X1) (4 * (X 0 6).toNat + 100)) (4 * (X 0 6).toNat + 100) 1 = 100 + x1 := ((xsd_eq (adv X1) (by omega)).2 0 (by decide)).trans k3.2.2.2
            obtain ⟨kF, hkF, hEF⟩ := hR4.2.1.2.1
            have g18 : H129.1 18 4 = H1.1 18 4 := hp132.2 18 4 (by simp)
            have g75 : H129.1 7 5 = H1.1 7 5 := hp132.2 7 5 (by simp)
            refine k_run 2 (pc' := 173) (l' := [(0, .inr (.inr 361)), (1, .inl x1), (2, .inl x2), (3, .inl x3), (4, .inl x4)]) (st' := [.inr (.inr 361), .inr (.inr 361)]) rfl ?_
            refine k_getr (a := 361) (x := kx_361) rfl rfl rfl (by decide) rfl rfl rfl hI130 (fun h137 => ?_)
            obtain ⟨t138, et140⟩ : ∃ t9, t9 = H129.2 361 7 := ⟨_, rfl⟩
            rw [← et140] at h137 ⊢
            have k139 : isE t138 := h137
            refine k_run 0 (pc' := 176) (l' := [(0, .inr (.inr 361)), (1, .inl x1), (2, .inl x2), (3, .inl x3), (4, .inl x4)]) (st' := [.inr (.inr t138), .inr (.inr 361)]) rfl ?_
            refine k_get (a := t138) (x := (kEo t138)) (v := .inr (.inr (t138 + 3))) rfl rfl k139.1 (iE0 k139) rfl rfl rfl ?_
            refine k_run 0 (pc' := 179) (l' := [(0, .inr (.inr 361)), (1, .inl x1), (2, .inl x2), (3, .inl x3), (4, .inl x4)]) (st' := [.inr (.inr (t138 + 3)), .inr (.inr 361)]) rfl ?_
            refine h_cv (i := 105) (j := 81) (b := 361) (M' := mt_81) (xs := [.inr (.inr (t138 + 3))]) (rest := []) rfl rfl rfl rfl (zs_K (x := kx_361) rfl (by decide)) rfl (Nat.le_of_ble_eq_true rfl) (Nat.le_of_ble_eq_true rfl) (by omega) (q_Reader_startTerm (by omega) hI130 (iEr k139)) ?_
            rintro _ H142 ⟨rfl, hI143, hq144, hx146⟩
            have hf147 : fq [(7, 5), (361, 3), (361, 4), (361, 5), (361, 6), (361, 7), (361, 8), (361, 9)] [362] true H H142 := fq_t hf135 hq144 rfl rfl rfl
            refine k_run 0 (pc' := 182) (l' := [(0, .inr (.inr 361)), (1, .inl x1), (2, .inl x2), (3, .inl x3), (4, .inl x4)]) (st' := []) rfl ?_
            have hR5 : RT Y q H142 (xu (xsd (adv X1) (4 * (X 0 6).toNat + 100)) 0 2 0) := RT_side (RT_sd _ hR4) ⟨kF, hkF, by omega⟩ hx146
            have g18b : H142.1 18 4 = H1.1 18 4 := (hx146.1 18 4 (fun q9 => by have := q9.1; omega)).trans g18
            have g75b : H142.1 7 5 = H1.1 7 5 := (hx146.1 7 5 (fun q9 => by have := q9.1; omega)).trans g75
            obtain ⟨-, -, c3, -⟩ := RB_f (x := x1) hR5.1 (by omega) (by omega)
            rw [show xu (xsd (adv X1) (4 * (X 0 6).toNat + 100)) 0 2 0 7 = adv X1 7 from rfl] at c3
            have k8 : rch Y c0 ((2, H142.1 20 x1.toNat, 0, 0) :: (13, 0, 0, 0) :: (1, 59, 0, 0) :: (6, n9 + 1, 0, 0) :: K, xu (xsd (adv X1) (4 * (X 0 6).toNat + 100)) 0 2 0) := by rw [← c3]; exact k7
            have hE4 : t138 = 25 + 6 * (X 0 6).toNat := et140.trans h74
            have h75r : H142.2 361 7 = 25 + 6 * (X 0 6).toNat := (hx146.2.2.1 361 7 (fun q9 => absurd q9.2 (by decide))).trans h74
            have h85 : H142.2 361 8 = 25 + 6 * (X 0 6).toNat + 3 := hx146.2.2.2.trans (by omega)
            have hSL5 : SD H142 (25 + 6 * (X 0 6).toNat + 1) (xu (xsd (adv X1) (4 * (X 0 6).toNat + 100)) 0 2 0) (4 * (X 0 6).toNat + 100) := SD_cg hSL4 (fun c j hc => hx146.1 c j (fun q9 => by have q8 := q9.1; omega)) (xu_ne _ _ _ (by omega)) (xu_ne _ _ _ (by decide)) (xu_ne _ _ _ (by decide))
            have hOw5 : H142.1 (25 + 6 * (X 0 6).toNat) 4 = x1 := (hx146.1 _ _ (fun q9 => by have q8 := q9.1; omega)).trans hOw4
            have hN5 := NE_tr hN4 (NE_S hx146 (by omega))
            refine k_run 6 (pc' := 194) (l' := [(0, .inr (.inr 361)), (1, .inl x1), (2, .inl x2), (3, .inl x3), (4, .inl x4)]) (st' := [.inl x1, .inr (.inr 20), .inr (.inr 361)]) rfl ?_
            refine k_ild (c := 20) (j := (x1).toNat) (i := x1) (x := kx_20) rfl rfl (by decide) rfl (by decide) (by omega) (by omega) ?_
            have g148 : -2 ≤ (H142.1 20 (x1).toNat) ∧ (H142.1 20 (x1).toNat) ≤ 100 := kn (x := kx_20) hI143 rfl (x1).toNat
            have e149 : (H142.1 20 (x1).toNat) = (H129.1 20 (x1).toNat) := (hq144.1 20 (x1).toNat rfl (by decide) (fun q => by simp at q)).1
            have e150 : (H129.1 20 (x1).toNat) = (H1.1 20 (x1).toNat) := (hq131.1 20 (x1).toNat rfl (by decide) (fun q => by simp at q)).1
            have e151 : (H1.1 20 (x1).toNat) = (H.1 20 (x1).toNat) := (hf1.1 20 (x1).toNat rfl (by decide) (fun q => by simp at q)).1
            refine k_run 0 (pc' := 195) (l' := [(0, .inr (.inr 361)), (1, .inl x1), (2, .inl x2), (3, .inl x3), (4, .inl x4)]) (st' := [.inl (H142.1 20 (x1).toNat), .inr (.inr 361)]) rfl ?_
            refine k_run 2 (pc' := 197) (l' := [(0, .inr (.inr 361)), (1, .inl x1), (2, .inl x2), (3, .inl x3), (4, .inl x4)]) (st' := [.inl 0, .inl 0, .inl (H142.1 20 (x1).toNat), .inr (.inr 361)]) rfl ?_
            refine h_cv (i := 109) (j := 73) (b := 361) (M' := mt_73) (xs := [.inl 0, .inl 0, .inl (H142.1 20 (x1).toNat)]) (rest := []) rfl rfl rfl rfl (zs_K (x := kx_361) rfl (by decide)) rfl (Nat.le_of_ble_eq_true rfl) (Nat.le_of_ble_eq_true rfl) (by omega) (q_Reader_readTerm (by omega) hI143 (by omega) (by decide) (by decide) (by omega) hR5 k8) ?_
            rintro _ H153 ⟨z158, rfl, g152, hI154, hq155, hx157⟩
            have hf159 : fq [(7, 5), (361, 3), (361, 4), (361, 5), (361, 6), (361, 7), (361, 8), (361, 9)] [362] true H H153 := fq_t hf147 hq155 rfl rfl rfl
            refine k_run 0 (pc' := 200) (l' := [(0, .inr (.inr 361)), (1, .inl x1), (2, .inl x2), (3, .inl x3), (4, .inl x4)]) (st' := [.inl z158]) rfl ?_
            refine h_zne (off := 5) (t := 205) rfl rfl (by omega) (fun c160 => ?_) (fun c160 => ?_)
            · refine k_run 0 (pc' := 205) (l' := [(0, .inr (.inr 361)), (1, .inl x1), (2, .inl x2), (3, .inl x3), (4, .inl x4)]) (st' := []) rfl ?_
              obtain ⟨X6, m1, m2, m3⟩ := (Or.resolve_right hx157.1 (fun q9 => by have := q9.1; omega)).2
              have hA6 : AB X6 := AB_cg hA4 hR5.1 m2.1 (fun c j h => (hq155.1 c j (by rcases h with rfl | rfl | rfl | rfl <;> rfl) (by rcases h with rfl | rfl | rfl | rfl <;> decide) (by rcases h with rfl | rfl | rfl | rfl <;> simp)).1)
              obtain ⟨kG, hkG, hEG⟩ := m2.2.1.2.1
              have g75c : H153.1 7 5 = H1.1 7 5 := ((hq155.1 7 5 rfl (by decide) (by decide)).1).trans g75b
              have h76r : H153.2 361 7 = 25 + 6 * (X 0 6).toNat := ((hq155.1 361 7 rfl (by decide) (by decide)).2).trans h75r
              have h86 : H153.2 361 8 = 25 + 6 * (X 0 6).toNat + 3 := hx157.2.1.1.trans h85
              have h66 : X6 0 6 = X 0 6 := (m3.2.2.2.1.1.2.2 6 (by decide) (by decide)).trans (show xu (xsd (adv X1) (4 * (X 0 6).toNat + 100)) 0 2 0 0 6 = X 0 6 from h06)
              have hSL6 : SD H153 (25 + 6 * (X 0 6).toNat + 1) X6 (4 * (X 0 6).toNat + 100) := SD_cg hSL5 (fun c j hc => hx157.2.2 c j (sc_side (k := (X 0 6).toNat) (by omega) (by omega)) (by omega) (by omega) (Or.inl (by omega))) (m3.2.2.2.1.2 _ (by omega)) (m3.2.2.2.1.1.1 4 (by decide) (by decide)) (m3.2.2.2.1.1.1 8 (by decide) (by decide))
              have hOw6 : H153.1 (25 + 6 * (X 0 6).toNat) 4 = x1 := (hx157.2.2 _ _ (sc_ow (k := (X 0 6).toNat) (by omega)) (by omega) (by omega) (Or.inl (by omega))).trans hOw5
              have hXs6 : X6 (4 * (X 0 6).toNat + 100) 1 = 100 + x1 := (congrFun (m3.2.2.2.1.2 _ (by omega)) 1).trans ((congrFun (xu_ne _ _ _ (by omega)) 1).trans hXs4)
              have hN6 := NE_tr hN5 (NE_NL hx157.2 (by omega) (by omega) (by omega))
              refine k_run 1 (pc' := 206) (l' := [(0, .inr (.inr 361)), (1, .inl x1), (2, .inl x2), (3, .inl x3), (4, .inl x4)]) (st' := [.inr (.inr 361)]) rfl ?_
              refine k_getr (a := 361) (x := kx_361) rfl rfl rfl (by decide) rfl rfl rfl hI154 (fun h161 => ?_)
              obtain ⟨t162, et164⟩ : ∃ t9, t9 = H153.2 361 7 := ⟨_, rfl⟩
              rw [← et164] at h161 ⊢
              have k163 : isE t162 := h161
              refine k_run 0 (pc' := 209) (l' := [(0, .inr (.inr 361)), (1, .inl x1), (2, .inl x2), (3, .inl x3), (4, .inl x4)]) (st' := [.inr (.inr t162)]) rfl ?_
              refine k_run 2 (pc' := 213) (l' := [(0, .inr (.inr 361)), (1, .inl x1), (2, .inl x2), (3, .inl x3), (4, .inl x4)]) (st' := [.inl (H153.1 361 9), .inr (.inr t162)]) rfl ?_
              have g165 : 0 ≤ (H153.1 361 9) ∧ (H153.1 361 9) ≤ 40 := kn (x := kx_361) hI154 rfl 9
              refine k_puti (z := (H153.1 361 9)) (a := t162) (x := (kEo t162)) rfl rfl k163.1 (iE0 k163) k163.2.2.2.2.1 rfl rfl rfl rfl hI154 (by omega) (show 0 ≤ (H153.1 361 9) ∧ (H153.1 361 9) ≤ 40 by omega) (fun H166 hI167 hw168 hv169 => ?_)
              have hf170 : fq [(7, 5), (361, 3), (361, 4), (361, 5), (361, 6), (361, 7), (361, 8), (361, 9)] [362] true H H166 := fq_w hf159 hw168 (fpg (iEf k163))
              refine k_run 0 (pc' := 216) (l' := [(0, .inr (.inr 361)), (1, .inl x1), (2, .inl x2), (3, .inl x3), (4, .inl x4)]) (st' := []) rfl ?_
              have hR6 : RT Y q H166 X6 := RT_eq m2 ⟨kG, hkG, et164.trans hEG⟩ (by decide) hw168
              have g75d : H166.1 7 5 = H1.1 7 5 := (hw168.2 7 5 (fun q9 => by have := q9.1; omega)).trans g75c
              have hE7 : t162 = 25 + 6 * (X 0 6).toNat := et164.trans h76r
              have h87 : H166.2 361 8 = 25 + 6 * (X 0 6).toNat + 3 := (congrFun (congrFun hw168.1 361) 8).trans h86
              have hSL7 : SD H166 (25 + 6 * (X 0 6).toNat + 1) X6 (4 * (X 0 6).toNat + 100) := SD_cg hSL6 (fun c j hc => hw168.2 c j (fun q9 => by have q8 := q9.1; omega)) rfl rfl rfl
              have hSR7 : SD H166 (25 + 6 * (X 0 6).toNat + 3) (xsd X6 (4 * (X 0 6).toNat + 101)) (4 * (X 0 6).toNat + 101) := SD_mk hR6.2.2 h87 (by omega)
              have hOw7 : H166.1 (25 + 6 * (X 0 6).toNat) 4 = x1 := (hw168.2 _ _ (fun q9 => by have q8 := q9.2; omega)).trans hOw6
              have hN7 := NE_tr hN6 (NE_w hw168 (fun _ => by omega))
              have hm1 : rch Y c0 ((1, 59, 0, 0) :: (6, n9 + 1, 0, 0) :: K, xu (xsd X6 (4 * (X 0 6).toNat + 101)) 0 6 (X6 0 6 + 1)) := by rw [← h66]; exact rch_st m1 rfl
              refine k_run 4 (pc' := 224) (l' := [(0, .inr (.inr 361)), (1, .inl x1), (2, .inl x2), (3, .inl x3), (4, .inl x4)]) (st' := [.inl (H166.1 7 5), .inr (.inr 7)]) rfl ?_
              have g171 : 0 ≤ (H166.1 7 5) ∧ (H166.1 7 5) ≤ 40 := kn (x := kx_7) hI167 rfl 5
              have e172 : (H166.1 7 5) = (H153.1 7 5) := hw168.2 _ _ (fun q => by have h9 := (iEf k163); rw [← q.1] at h9; exact absurd h9 (by decide))
              have e173 : (H153.1 7 5) = (H142.1 7 5) := (hq155.1 7 5 rfl (by decide) (by decide)).1
              have e174 : (H142.1 7 5) = (H129.1 7 5) := (hq144.1 7 5 rfl (by decide) (by decide)).1
              have e175 : (H129.1 7 5) = (H1.1 7 5) := (hq131.1 7 5 rfl (by decide) (by decide)).1
              refine k_run 2 (pc' := 226) (l' := [(0, .inr (.inr 361)), (1, .inl x1), (2, .inl x2), (3, .inl x3), (4, .inl x4)]) (st' := [.inl ((H166.1 7 5) + 1), .inr (.inr 7)]) rfl ?_
              refine k_puti (z := ((H166.1 7 5) + 1)) (a := 7) (x := kx_7) rfl rfl rfl (by decide) (by decide) rfl rfl rfl rfl hI167 (by omega) (show 0 ≤ ((H166.1 7 5) + 1) ∧ ((H166.1 7 5) + 1) ≤ 40 by omega) (fun H176 hI177 hw178 hv179 => ?_)
              have hf180 : fq [(7, 5), (361, 3), (361, 4), (361, 5), (361, 6), (361, 7), (361, 8), (361, 9)] [362] true H H176 := fq_w hf170 hw178 (fpo (by decide) rfl)
              refine k_run 0 (pc' := 229) (l' := [(0, .inr (.inr 361)), (1, .inl x1), (2, .inl x2), (3, .inl x3), (4, .inl x4)]) (st' := []) rfl ?_
              refine k_run 1 (pc' := 230) (l' := [(0, .inr (.inr 361)), (1, .inl x1), (2, .inl x2), (3, .inl x3), (4, .inl x4)]) (st' := [.inl 1]) rfl ?_
              refine h_retz (x := 1) rfl rfl (by decide) ?_
              rw [hQ9]
              exact ⟨_, rfl, (by omega), hI177, hf180, (by first | (exfalso; omega) | exact ⟨Or.inl ⟨rfl, xu (xsd X6 (4 * (X 0 6).toNat + 101)) 0 6 (X6 0 6 + 1), hm1, RB_rul (X := (xsd X6 (4 * (X 0 6).toNat + 101))) (RB_sd _ hR6.1) hw178 hv179, AB_x0 (AB_sd _ hA6) (by decide) (by decide), (by rw [xu_1, h66]), SD_cg hSL7 (fun c j hc => hw178.2 c j (fun q9 => by have q8 := q9.1; omega)) ((xu_ne _ _ _ (by omega)).trans (xsd_ne _ (by omega))) rfl rfl, SD_cg hSR7 (fun c j hc => hw178.2 c j (fun q9 => by have q8 := q9.1; omega)) (xu_ne _ _ _ (by omega)) rfl rfl, (by rw [hw178.2 _ _ (fun q9 => by have q8 := q9.1; omega), hOw7, congrFun ((xu_ne _ _ _ (by omega)).trans (xsd_ne _ (by omega))) 1, hXs6]; omega)⟩, NE_tr hN7 (NE_w hw178 (sc_no (by omega))), (fun q9 => absurd q9 (by omega))⟩)⟩
            · refine k_run 0 (pc' := 203) (l' := [(0, .inr (.inr 361)), (1, .inl x1), (2, .inl x2), (3, .inl x3), (4, .inl x4)]) (st' := []) rfl ?_
              refine k_run 1 (pc' := 204) (l' := [(0, .inr (.inr 361)), (1, .inl x1), (2, .inl x2), (3, .inl x3), (4, .inl x4)]) (st' := [.inl 0]) rfl ?_
              refine h_retz (x := 0) rfl rfl (by decide) ?_
              rw [hQ9]
              exact ⟨_, rfl, (by omega), hI154, hf159, (by first | (exfalso; omega) | exact ⟨(Or.inr ⟨rfl, (Or.resolve_left hx157.1 (fun q9 => by have := q9.1; omega)).2⟩), NE_tr hN5 (NE_NL hx157.2 (by omega) (by omega) (by omega)), (fun q9 => absurd q9 (by omega))⟩)⟩
          · refine k_run 0 (pc' := 169) (l' := [(0, .inr (.inr 361)), (1, .inl x1), (2, .inl x2), (3, .inl x3), (4, .inl x4)]) (st' := []) rfl ?_
            refine k_run 1 (pc' := 170) (l' := [(0, .inr (.inr 361)), (1, .inl x1), (2, .inl x2), (3, .inl x3), (4, .inl x4)]) (st' := [.inl 0]) rfl ?_
            refine h_retz (x := 0) rfl rfl (by decide) ?_
            rw [hQ9]
            rw [htk1] at hx133
            exact ⟨_, rfl, (by omega), hI130, hf135, (by first | (exfalso; omega) | exact ⟨Or.elim hx133 (fun e => absurd e.1 (by omega)) (fun e => Or.inr ⟨rfl, FB_mk k2.1 hp132 nT345 (rch_st k5 (by show (if tk Y (xi X1) = 61 then _ else _) = _; rw [if_neg e.2.1]; rfl)) e.2.2.2.1 e.2.2.2.2⟩), NE_tr hi8 (NE_fwo hp132 (by simp)), (fun q9 => absurd q9 (by omega))⟩)⟩
      · refine k_run 0 (pc' := 131) (l' := [(0, .inr (.inr 361)), (1, .inl x1), (2, .inl x2), (3, .inl x3), (4, .inl x4)]) (st' := []) rfl ?_
        obtain ⟨k0, k00, X1, k1, k2, k3, k4⟩ := hi6.resolve_right (fun q9 => by have := q9.1; omega)
        have hpa1 := RB_pa k2.1
        obtain ⟨b1, -, -, b4⟩ := RB_f (x := x1) k2.1 (by omega) (by omega)
        refine k_run 6 (pc' := 142) (l' := [(0, .inr (.inr 361)), (1, .inl x1), (2, .inl x2), (3, .inl x3), (4, .inl x4)]) (st' := [.inl x4, .inl x1, .inr (.inr 18), .inr (.inr 361)]) rfl ?_
        refine h_cv (i := 160) (j := 45) (b := 18) (M' := mt_45) (xs := [.inl x4, .inl x1]) (rest := [.inr (.inr 361)]) rfl rfl rfl rfl (zs_K (x := kx_18) rfl (by decide)) rfl (Nat.le_of_ble_eq_true rfl) (Nat.le_of_ble_eq_true rfl) (by omega) (q_Symbols_argument_18 (by omega) hI1 (by omega) (by omega) (by omega)) ?_
        rintro _ _ ⟨z187, rfl, g181, hx186, rfl⟩
        refine k_run 0 (pc' := 145) (l' := [(0, .inr (.inr 361)), (1, .inl x1), (2, .inl x2), (3, .inl x3), (4, .inl x4)]) (st' := [.inl z187, .inr (.inr 361)]) rfl ?_
        have k6 : rch Y c0 ((4, z187, 0, 0) :: (5, 100 + x1, x4 + 1, 0) :: (1, 61, 0, 0) :: (12, x1, 0, 0) :: (13, 0, 0, 0) :: (1, 59, 0, 0) :: (6, n9 + 1, 0, 0) :: K, X1) := rch_st k1 (by show (if x4 < ar X1 (100 + x1) then _ else _) = _; rw [if_pos (by omega), b4 x4 (by omega) (by omega), ← hx186])
        refine k_run 1 (pc' := 146) (l' := [(0, .inr (.inr 361)), (1, .inl x1), (2, .inl x2), (3, .inl x3), (4, .inl x4)]) (st' := [.inl 0, .inl z187, .inr (.inr 361)]) rfl ?_
        refine h_cv (i := 164) (j := 70) (b := 361) (M' := mt_70) (xs := [.inl 0, .inl z187]) (rest := []) rfl rfl rfl rfl (zs_K (x := kx_361) rfl (by decide)) rfl (Nat.le_of_ble_eq_true rfl) (Nat.le_of_ble_eq_true rfl) (by omega) (q_Reader_readPattern (by omega) hI1 (by omega) (by decide) (by omega) k2 k6 k3) ?_
        rintro _ H189 ⟨z194, rfl, g188, hI190, hq191, hx193⟩
        have hf195 : fq [(7, 5), (361, 3), (361, 4), (361, 5), (361, 6), (361, 7), (361, 8), (361, 9)] [362] true H H189 := fq_t hf1 hq191 rfl rfl rfl
        refine k_run 0 (pc' := 149) (l' := [(0, .inr (.inr 361)), (1, .inl x1), (2, .inl x2), (3, .inl x3), (4, .inl x4)]) (st' := [.inl z194]) rfl ?_
        refine k_run 3 (pc' := 121) (l' := [(0, .inr (.inr 361)), (1, .inl x1), (2, .inl x2), (3, .inl z194), (4, .inl (x4 + 1))]) (st' := []) rfl ?_
        have g196 : 0 ≤ (H189.1 7 5) ∧ (H189.1 7 5) ≤ 40 := kn (x := kx_7) hI190 rfl 5
        have e197 : (H189.1 7 5) = (H1.1 7 5) := (hq191.1 7 5 rfl (by decide) (by decide)).1
        have g198 : 0 ≤ (H189.1 18 4) ∧ (H189.1 18 4) ≤ 16 := kn (x := kx_18) hI190 rfl 4
        have e199 : (H189.1 18 4) = (H1.1 18 4) := (hq191.1 18 4 rfl (by decide) (by decide)).1
        have e21a : H189.1 21 x1.toNat = H1.1 21 x1.toNat := (hq191.1 21 _ rfl (by decide) (fun q => by simp at q)).1
        rw [hQ9]
        exact ih H189 hI190 hf195 x1 x2 z194 (x4 + 1) (by omega) (by omega) (by omega) (by omega) (by omega) (by omega) (by omega) (by omega) (by omega) (by omega) (Or.elim hx193.1 (fun e => Or.inl ⟨e.1, by omega, e.2.imp (fun X2 g => ⟨g.1, g.2.1, g.2.2, AB_cg k4 k2.1 g.2.1.1 (fun c j h => (hq191.1 c j (by rcases h with rfl | rfl | rfl | rfl <;> rfl) (by rcases h with rfl | rfl | rfl | rfl <;> decide) (by rcases h with rfl | rfl | rfl | rfl <;> simp)).1)⟩)⟩) (fun e => Or.inr e)) ⟨((hq191.1 361 7 rfl (by decide) (by decide)).2).trans hi7.1, ((hq191.1 361 8 rfl (by decide) (by decide)).2).trans hi7.2⟩ (NE_tr hi8 (NE_NL hx193.2 (by omega) (by omega) (by omega))) ((hx193.2.2 _ _ (sc_ow (k := (X 0 6).toNat) (by omega)) (by have q9 := hi7.2; omega) (by have q9 := hi7.2; omega) (Or.inl (by have q9 := hi7.1; omega))).trans hi9) (by omega)
set_option maxRecDepth 100000 in
set_option maxHeartbeats 4000000 in
theorem q_Reader_readRule {Y : yx} {q : Nat} {c0 : cf} {K : List tq} {X : rx} {n9 : Int} {d : Nat} (hd : 41 ≤ d) {H : hp} (hI : Inv H)   (hB : RB Y q H X) (hX : rch Y c0 ((6, n9, 0, 0) :: K, X)) (h4 : tk Y (xi X) = 6) (hA : AB X) : hG (zs zK) d mt_68 0 (zargs 0 [.inr (.inr 361)]) [] H (fun r9 H9 => ∃ z : Int, r9 = some (.inl z) ∧ ((0 ≤ z ∧ z ≤ 1)) ∧ Inv H9 ∧ fq [(7, 5), (361, 3), (361, 4), (361, 5), (361, 6), (361, 7), (361, 8), (361, 9)] [362] true H H9 ∧ ((OB9 Y q c0 ((1, 59, 0, 0) :: (6, n9 + 1, 0, 0) :: K) (fun X9 => AB X9 ∧ X9 0 6 = X 0 6 + 1 ∧ SD H9 (25 + 6 * (X 0 6).toNat + 1) X9 (4 * (X 0 6).toNat + 100) ∧ SD H9 (25 + 6 * (X 0 6).toNat + 3) X9 (4 * (X 0 6).toNat + 101) ∧ H9.1 (25 + 6 * (X 0 6).toNat) 4 + 100 = X9 (4 * (X 0 6).toNat + 100) 1) z H9) ∧ NE (25 + 6 * (X 0 6).toNat) H H9 ∧ (40 ≤ X 0 6 → NE 0 H H9))) := by
  have hpa := RB_pa hB
  have htk := RB_tk hB
  have hru := hB.2.1.1.2.2.2.1
  obtain ⟨Q9, hQ9⟩ : ∃ Q9 : Option zv → hp → Prop, Q9 = (fun r9 H9 => ∃ z : Int, r9 = some (.inl z) ∧ ((0 ≤ z ∧ z ≤ 1)) ∧ Inv H9 ∧ fq [(7, 5), (361, 3), (361, 4), (361, 5), (361, 6), (361, 7), (361, 8), (361, 9)] [362] true H H9 ∧ ((OB9 Y q c0 ((1, 59, 0, 0) :: (6, n9 + 1, 0, 0) :: K) (fun X9 => AB X9 ∧ X9 0 6 = X 0 6 + 1 ∧ SD H9 (25 + 6 * (X 0 6).toNat + 1) X9 (4 * (X 0 6).toNat + 100) ∧ SD H9 (25 + 6 * (X 0 6).toNat + 3) X9 (4 * (X 0 6).toNat + 101) ∧ H9.1 (25 + 6 * (X 0 6).toNat) 4 + 100 = X9 (4 * (X 0 6).toNat + 100) 1) z H9) ∧ NE (25 + 6 * (X 0 6).toNat) H H9 ∧ (40 ≤ X 0 6 → NE 0 H H9))) := ⟨_, rfl⟩
  rw [← hQ9]
  refine k_run 0 (pc' := 0) (l' := [(0, .inr (.inr 361))]) (st' := []) rfl ?_
  refine k_run 3 (pc' := 7) (l' := [(0, .inr (.inr 361))]) (st' := [.inl (H.1 7 5)]) rfl ?_
  have g1 : 0 ≤ (H.1 7 5) ∧ (H.1 7 5) ≤ 40 := kn (x := kx_7) hI rfl 5
  refine k_run 1 (pc' := 9) (l' := [(0, .inr (.inr 361))]) (st' := [.inl 40, .inl (H.1 7 5)]) rfl ?_
  refine h_ilt (off := 9) (t := 18) rfl rfl (by omega) (by decide) (fun c2 => ?_) (fun c2 => ?_)
  · refine k_run 0 (pc' := 18) (l' := [(0, .inr (.inr 361))]) (st' := []) rfl ?_
    refine k_run 3 (pc' := 23) (l' := [(0, .inr (.inr 361))]) (st' := [.inl (H.1 361 3), .inr (.inr 361)]) rfl ?_
    have g3 : -2147483648 ≤ (H.1 361 3) ∧ (H.1 361 3) ≤ 2147483647 := kn (x := kx_361) hI rfl 3
    refine k_run 2 (pc' := 25) (l' := [(0, .inr (.inr 361))]) (st' := [.inl ((H.1 361 3) + 1), .inr (.inr 361)]) rfl ?_
    refine k_puti (z := ((H.1 361 3) + 1)) (a := 361) (x := kx_361) rfl rfl rfl (by decide) (by decide) rfl rfl rfl rfl hI (by omega) (show -2147483648 ≤ ((H.1 361 3) + 1) ∧ ((H.1 361 3) + 1) ≤ 2147483647 by omega) (fun H4 hI5 hw6 hv7 => ?_)
    have hf8 : fq [(7, 5), (361, 3), (361, 4), (361, 5), (361, 6), (361, 7), (361, 8), (361, 9)] [362] true H H4 := fq_w (fq_rf _ _ _ _) hw6 (fpo (by decide) rfl)
    refine k_run 0 (pc' := 28) (l' := [(0, .inr (.inr 361))]) (st' := []) rfl ?_
    have hw28 := hw6
    have hB1 : RB Y q H4 (adv X) := RB_adv hB (fw_w (fw_rf [(361, 3)] _) hw6 (by simp)) nB3 hv7 (RB_lt hB (by omega) (by omega))
    have hpa1 := RB_pa hB1
    have htk1 := RB_tk hB1
    have hA1 := AB_adv hA
    have hru1 : H4.1 7 5 = X 0 6 := hB1.2.1.1.2.2.2.1.trans (adv_0 X (by decide))
    refine k_run 1 (pc' := 29) (l' := [(0, .inr (.inr 361))]) (st' := [.inr (.inr 361)]) rfl ?_
    have g9 : -2147483648 ≤ (H4.1 361 3) ∧ (H4.1 361 3) ≤ 2147483647 := kn (x := kx_361) hI5 rfl 3
    have g10 : 0 ≤ (H4.1 2 5) ∧ (H4.1 2 5) ≤ 1001 := kn (x := kx_2) hI5 rfl 5
    have e11 : (H4.1 2 5) = (H.1 2 5) := hw6.2 _ _ (fun q => absurd q.1 (by decide))
    refine h_cv (i := 72) (j := 83) (b := 361) (M' := mt_83) (xs := []) (rest := []) rfl rfl rfl rfl (zs_K (x := kx_361) rfl (by decide)) rfl (Nat.le_of_ble_eq_true rfl) (Nat.le_of_ble_eq_true rfl) (by omega) (q_Reader_token (by omega) hI5 (by omega)) ?_
    rintro _ _ ⟨z18, rfl, g12, hx17, rfl⟩
    refine k_run 0 (pc' := 32) (l' := [(0, .inr (.inr 361))]) (st' := [.inl z18]) rfl ?_
    rw [htk1] at hx17
    refine k_run 1 (pc' := 33) (l' := [(0, .inr (.inr 361))]) (st' := [.inl 2, .inl z18]) rfl ?_
    refine h_ieq (off := 8) (t := 41) rfl rfl (by omega) (by decide) (fun c19 => ?_) (fun c19 => ?_)
    · refine k_run 0 (pc' := 41) (l' := [(0, .inr (.inr 361))]) (st' := []) rfl ?_
      refine k_run 4 (pc' := 49) (l' := [(0, .inr (.inr 361))]) (st' := [.inr (.inr 361), .inr (.inr 18)]) rfl ?_
      refine h_cv (i := 120) (j := 84) (b := 361) (M' := mt_84) (xs := []) (rest := [.inr (.inr 18)]) rfl rfl rfl rfl (zs_K (x := kx_361) rfl (by decide)) rfl (Nat.le_of_ble_eq_true rfl) (Nat.le_of_ble_eq_true rfl) (by omega) (q_Reader_name (by omega) hI5 (by omega)) ?_
      rintro _ _ ⟨z26, rfl, g20, hx25, rfl⟩
      refine k_run 0 (pc' := 52) (l' := [(0, .inr (.inr 361))]) (st' := [.inr (.inl z26), .inr (.inr 18)]) rfl ?_
      have g27 : 0 ≤ (H4.1 18 4) ∧ (H4.1 18 4) ≤ 16 := kn (x := kx_18) hI5 rfl 4
      have e28 : (H4.1 18 4) = (H.1 18 4) := hw6.2 _ _ (fun q => absurd q.1 (by decide))
      refine h_cv (i := 124) (j := 41) (b := 18) (M' := mt_41) (xs := [.inr (.inl z26)]) (rest := []) rfl rfl rfl rfl (zs_K (x := kx_18) rfl (by decide)) rfl (Nat.le_of_ble_eq_true rfl) (Nat.le_of_ble_eq_true rfl) (by omega) (q_Symbols_find_18 (by omega) hI5 (by omega)) ?_
      rintro _ _ ⟨z35, rfl, g29, hx34, rfl⟩
      refine k_run 0 (pc' := 55) (l' := [(0, .inr (.inr 361))]) (st' := [.inl z35]) rfl ?_
      refine k_run 1 (pc' := 56) (l' := [(0, .inr (.inr 361)), (1, .inl z35)]) (st' := []) rfl ?_
      have hff : z35 = ffd Y (adv X) := by rw [hx34, hx25]; exact RB_ff hB1 (by omega) (by omega)
      have hfb := ffd_b Y (adv X)
      have hc18 : H4.1 18 4 = adv X 0 5 := hB1.2.1.1.2.2.1
      have hc16 : 0 ≤ H4.1 18 4 ∧ H4.1 18 4 ≤ 16 := kn (x := kx_18) hI5 rfl 4
      refine k_run 1 (pc' := 57) (l' := [(0, .inr (.inr 361)), (1, .inl z35)]) (st' := [.inl z35]) rfl ?_
      refine h_zge (off := 9) (t := 66) rfl rfl (by omega) (fun c36 => ?_) (fun c36 => ?_)
      · refine k_run 0 (pc' := 66) (l' := [(0, .inr (.inr 361)), (1, .inl z35)]) (st' := []) rfl ?_
        refine k_run 7 (pc' := 81) (l' := [(0, .inr (.inr 361)), (1, .inl z35)]) (st' := [.inl (H4.1 7 5), .inr (.inr 23), .inr (.inr 361)]) rfl ?_
        have g37 : 0 ≤ (H4.1 7 5) ∧ (H4.1 7 5) ≤ 40 := kn (x := kx_7) hI5 rfl 5
        have e38 : (H4.1 7 5) = (H.1 7 5) := hw6.2 _ _ (fun q => absurd q.1 (by decide))
        refine k_ald (c := 23) (j := ((H4.1 7 5)).toNat) (i := (H4.1 7 5)) (x := kx_23) rfl rfl (by decide) rfl (by decide) (by omega) (by omega) hI5 (fun h39 => ?_)
        obtain ⟨t40, et42⟩ : ∃ t9, t9 = H4.2 23 ((H4.1 7 5)).toNat := ⟨_, rfl⟩
        rw [← et42] at h39 ⊢
        have k41 : isE t40 := h39
        refine k_run 0 (pc' := 82) (l' := [(0, .inr (.inr 361)), (1, .inl z35)]) (st' := [.inr (.inr t40), .inr (.inr 361)]) rfl ?_
        have he9 : ∃ k : Nat, k < 56 ∧ t40 = 25 + 6 * k := ⟨(H4.1 7 5).toNat, by omega, et42.trans (hB1.2.2.2.1 _ (by omega))⟩
        obtain ⟨k9, hk9, hte⟩ := id he9
        have hEE9 : t40 = 25 + 6 * (X 0 6).toNat := by rw [← hru1]; exact et42.trans (hB1.2.2.2.1 _ (by omega))
        refine k_run 1 (pc' := 83) (l' := [(0, .inr (.inr 361)), (1, .inl z35)]) (st' := [.inl 0, .inr (.inr t40), .inr (.inr 361)]) rfl ?_
        refine h_cv (i := 141) (j := 80) (b := 361) (M' := mt_80) (xs := [.inl 0, .inr (.inr t40)]) (rest := []) rfl rfl rfl rfl (zs_K (x := kx_361) rfl (by decide)) rfl (Nat.le_of_ble_eq_true rfl) (Nat.le_of_ble_eq_true rfl) (by omega) (q_Reader_startEquation (by omega) hI5 k41 (by decide) he9) ?_
        rintro _ H44 ⟨rfl, hI45, hq46, hx48⟩
        have hf49 : fq [(7, 5), (361, 3), (361, 4), (361, 5), (361, 6), (361, 7), (361, 8), (361, 9)] [362] true H H44 := fq_t hf8 hq46 rfl rfl rfl
        refine k_run 0 (pc' := 86) (l' := [(0, .inr (.inr 361)), (1, .inl z35)]) (st' := []) rfl ?_
        have hR2 : RT Y q H44 (xst (adv X) 0) := RT_start hB1 he9 hx48
        have hA2 : AB (xst (adv X) 0) := AB_st hA1
        refine k_run 1 (pc' := 87) (l' := [(0, .inr (.inr 361)), (1, .inl z35)]) (st' := [.inr (.inr 361)]) rfl ?_
        refine k_getr (a := 361) (x := kx_361) rfl rfl rfl (by decide) rfl rfl rfl hI45 (fun h50 => ?_)
        obtain ⟨t51, et53⟩ : ∃ t9, t9 = H44.2 361 7 := ⟨_, rfl⟩
        rw [← et53] at h50 ⊢
        have k52 : isE t51 := h50
        refine k_run 0 (pc' := 90) (l' := [(0, .inr (.inr 361)), (1, .inl z35)]) (st' := [.inr (.inr t51)]) rfl ?_
        refine k_run 1 (pc' := 91) (l' := [(0, .inr (.inr 361)), (1, .inl z35)]) (st' := [.inl z35, .inr (.inr t51)]) rfl ?_
        refine k_puti (z := z35) (a := t51) (x := (kEo t51)) rfl rfl k52.1 (iE0 k52) k52.2.2.2.2.1 rfl rfl rfl rfl hI45 (by omega) (show -2147483648 ≤ z35 ∧ z35 ≤ 2147483647 by omega) (fun H54 hI55 hw56 hv57 => ?_)
        have hf58 : fq [(7, 5), (361, 3), (361, 4), (361, 5), (361, 6), (361, 7), (361, 8), (361, 9)] [362] true H H54 := fq_w hf49 hw56 (fpg (iEf k52))
        refine k_run 0 (pc' := 94) (l' := [(0, .inr (.inr 361)), (1, .inl z35)]) (st' := []) rfl ?_
        have he2 : ∃ k : Nat, k < 56 ∧ t51 = 25 + 6 * k := ⟨k9, hk9, et53.trans ((hx48.2.2.2.2.2.1).trans hte)⟩
        have hR3 : RT Y q H54 (xst (adv X) 0) := RT_eq hR2 he2 (by decide) hw56
        have hOw3 : H54.1 (25 + 6 * (X 0 6).toNat) 4 = z35 := by rw [← et53.trans ((hx48.2.2.2.2.2.1).trans hEE9)]; exact hv57
        have hpa3 := RB_pa hR3.1
        have hc3 : H54.1 18 4 = adv X 0 5 := hR3.1.2.1.1.2.2.1.trans (xst_0 _ _ (by decide) (by decide) (by decide))
        obtain ⟨ha1, ha2, ha3, ha4⟩ := RB_f (x := z35) hR3.1 (by omega) (by omega)
        have hs3 := hR3.2.2.2.1.1
        have hs4 := xst_s (adv X) 0
        have hw94 := hw56
        have hEt : t51 = 25 + 6 * (X 0 6).toNat := et53.trans ((hx48.2.2.2.2.2.1).trans hEE9)
        have h7c : H54.2 361 7 = 25 + 6 * (X 0 6).toNat := (congrFun (congrFun hw56.1 361) 7).trans ((hx48.2.2.2.2.2.1).trans hEE9)
        have h8c : H54.2 361 8 = 25 + 6 * (X 0 6).toNat + 1 := (congrFun (congrFun hw56.1 361) 8).trans ((hx48.2.2.2.2.2.2).trans (by rw [hEE9]))
        have hNb : NE (25 + 6 * (X 0 6).toNat) H4 H44 := by rw [← hEE9]; exact NE_Q hx48
        have hNc := NE_tr (NE_tr (NE_w (e := 25 + 6 * (X 0 6).toNat) hw28 (sc_no (by omega))) hNb) (NE_w hw94 (fun _ => by omega))
        have hr3 : H54.1 7 5 = X 0 6 := hR3.1.2.1.1.2.2.2.1.trans ((xst_0 _ _ (by decide) (by decide) (by decide)).trans (adv_0 X (by decide)))
        refine k_run 5 (pc' := 105) (l' := [(0, .inr (.inr 361)), (1, .inl z35)]) (st' := [.inl z35, .inr (.inr 21)]) rfl ?_
        refine k_ild (c := 21) (j := (z35).toNat) (i := z35) (x := kx_21) rfl rfl (by decide) rfl (by decide) (by omega) (by omega) ?_
        have g59 : 0 ≤ (H54.1 21 (z35).toNat) ∧ (H54.1 21 (z35).toNat) ≤ 4 := kn (x := kx_21) hI55 rfl (z35).toNat
        have e60 : (H54.1 21 (z35).toNat) = (H44.1 21 (z35).toNat) := hw56.2 _ _ (fun q => by have h9 := (iEf k52); rw [← q.1] at h9; exact absurd h9 (by decide))
        have e61 : (H44.1 21 (z35).toNat) = (H4.1 21 (z35).toNat) := (hq46.1 21 (z35).toNat rfl (by decide) (fun q => by simp at q)).1
        have e62 : (H4.1 21 (z35).toNat) = (H.1 21 (z35).toNat) := hw6.2 _ _ (fun q => absurd q.1 (by decide))
        refine k_run 0 (pc' := 106) (l' := [(0, .inr (.inr 361)), (1, .inl z35)]) (st' := [.inl (H54.1 21 (z35).toNat)]) rfl ?_
        refine k_run 5 (pc' := 111) (l' := [(0, .inr (.inr 361)), (1, .inl z35), (2, .inl (H54.1 21 (z35).toNat))]) (st' := [.inl (H54.1 21 (z35).toNat), .inl z35, .inl 2, .inr (.inr 361)]) rfl ?_
        refine h_cs (i := 153) (j := 48) (M' := mt_48) (xs := [.inl (H54.1 21 (z35).toNat), .inl z35, .inl 2]) (rest := [.inr (.inr 361)]) rfl rfl rfl rfl rfl (Nat.le_of_ble_eq_true rfl) (Nat.le_of_ble_eq_true rfl) (by omega) (q_Term_codeOf (by omega)  (by decide) (by omega) (by omega)) ?_
        rintro _ _ ⟨z69, rfl, g63, hx68, rfl⟩
        refine k_run 0 (pc' := 114) (l' := [(0, .inr (.inr 361)), (1, .inl z35), (2, .inl (H54.1 21 (z35).toNat))]) (st' := [.inl z69, .inr (.inr 361)]) rfl ?_
        have g70 : -2147483648 ≤ (H54.1 361 3) ∧ (H54.1 361 3) ≤ 2147483647 := kn (x := kx_361) hI55 rfl 3
        have e71 : (H54.1 361 3) = (H44.1 361 3) := hw56.2 _ _ (fun q => by have h9 := (iEf k52); rw [← q.1] at h9; exact absurd h9 (by decide))
        have e72 : (H44.1 361 3) = (H4.1 361 3) := (hq46.1 361 3 rfl (by decide) (by decide)).1
        have g73 : 0 ≤ (H54.1 2 5) ∧ (H54.1 2 5) ≤ 1001 := kn (x := kx_2) hI55 rfl 5
        have e74 : (H54.1 2 5) = (H44.1 2 5) := hw56.2 _ _ (fun q => by have h9 := (iEf k52); rw [← q.1] at h9; exact absurd h9 (by decide))
        have e75 : (H44.1 2 5) = (H4.1 2 5) := (hq46.1 2 5 rfl (by decide) (by decide)).1
        refine h_cv (i := 157) (j := 77) (b := 361) (M' := mt_77) (xs := [.inl z69]) (rest := []) rfl rfl rfl rfl (zs_K (x := kx_361) rfl (by decide)) rfl (Nat.le_of_ble_eq_true rfl) (Nat.le_of_ble_eq_true rfl) (by omega) (q_Reader_addName (by omega) hI55 (by omega) (by omega) (RT_TQ hR3)) ?_
        rintro _ H77 ⟨z82, rfl, g76, hI78, hq79, hp80, hx81⟩
        have hf83 : fq [(7, 5), (361, 3), (361, 4), (361, 5), (361, 6), (361, 7), (361, 8), (361, 9)] [362] true H H77 := fq_t hf58 hq79 rfl rfl rfl
        refine k_run 0 (pc' := 117) (l' := [(0, .inr (.inr 361)), (1, .inl z35), (2, .inl (H54.1 21 (z35).toNat))]) (st' := [.inl z82]) rfl ?_
        refine k_run 3 (pc' := 121) (l' := [(0, .inr (.inr 361)), (1, .inl z35), (2, .inl (H54.1 21 (z35).toNat)), (3, .inl z82), (4, .inl 0)]) (st' := []) rfl ?_
        have g84 : 0 ≤ (H77.1 7 5) ∧ (H77.1 7 5) ≤ 40 := kn (x := kx_7) hI78 rfl 5
        have e85 : (H77.1 7 5) = (H54.1 7 5) := (hq79.1 7 5 rfl (by decide) (by decide)).1
        have e86 : (H54.1 7 5) = (H44.1 7 5) := hw56.2 _ _ (fun q => by have h9 := (iEf k52); rw [← q.1] at h9; exact absurd h9 (by decide))
        have e87 : (H44.1 7 5) = (H4.1 7 5) := (hq46.1 7 5 rfl (by decide) (by decide)).1
        have g88 : 0 ≤ (H77.1 18 4) ∧ (H77.1 18 4) ≤ 16 := kn (x := kx_18) hI78 rfl 4
        have e89 : (H77.1 18 4) = (H54.1 18 4) := (hq79.1 18 4 rfl (by decide) (by decide)).1
        have e90 : (H54.1 18 4) = (H44.1 18 4) := hw56.2 _ _ (fun q => by have h9 := (iEf k52); rw [← q.1] at h9; exact absurd h9 (by decide))
        have e91 : (H44.1 18 4) = (H4.1 18 4) := (hq46.1 18 4 rfl (by decide) (by decide)).1
        have e21b : H77.1 21 (z35).toNat = H54.1 21 (z35).toNat := (hq79.1 21 _ rfl (by decide) (fun q => by simp at q)).1
        rw [hQ9]
        exact (q_Reader_readRule_cut hd hI  hB hX h4 hA _) H77 hI78 hf83 z35 (H54.1 21 (z35).toNat) z82 (0 : Int) (by omega) (by omega) (by omega) (by decide) (by omega) (by omega) (by omega) (by omega) (by omega) (by omega) (hx81.elim (fun e => Or.inl ⟨e.1, by omega, xput (xst (adv X) 0) (100 + z35), (by rw [hff]; exact (rch_st hX (by show stDec Y n9 K X = _; unfold stDec; (repeat (first | rw [if_pos (by omega)] | rw [if_neg (by omega)])); try rfl))), RT_put hR3 hp80 (e.2.2.1.trans (hx68.trans (by rw [← ha2]; exact (kcd_f _ ⟨by omega, by omega⟩).symm))) e.2.2.2.1 e.2.2.2.2 (by omega) (by rw [xst_0 _ _ (by decide) (by decide) (by decide)]; exact RB_lt hB1 (by omega) (by omega)), ⟨(xput_0 _ _ (by decide) (by decide)).trans hs4.2.2, by have q9 := (xput_s (xst (adv X) 0) (100 + z35)).1; have q8 := xput_0 (xst (adv X) 0) (100 + z35) (j := 1) (by decide) (by decide); omega, by have q8 := xput_0 (xst (adv X) 0) (100 + z35) (j := 1) (by decide) (by decide); omega, by rw [(xput_s _ _).2.2, show (xst (adv X) 0 0 2).toNat = 0 by omega, up_eq]⟩, AB_put hA2⟩) (fun e => absurd e.2.1 (by omega))) ⟨by rw [hp80.1]; exact h7c, by rw [hp80.1]; exact h8c⟩ (NE_tr hNc (NE_NL (NL_fw hp80 (nX_put (by first | exact RT_TQ hR1 | exact RT_TQ hR2 | exact RT_TQ hR3 | exact RT_TQ hR))) (by omega) (by omega) (by omega))) (((hp80).2 _ _ (by simp; omega)).trans hOw3) (Nat.lt_succ_self _)
      · refine k_run 0 (pc' := 60) (l' := [(0, .inr (.inr 361)), (1, .inl z35)]) (st' := []) rfl ?_
        refine k_run 2 (pc' := 62) (l' := [(0, .inr (.inr 361)), (1, .inl z35)]) (st' := [.inl 3, .inr (.inr 361)]) rfl ?_
        refine h_cv (i := 128) (j := 86) (b := 361) (M' := mt_86) (xs := [.inl 3]) (rest := []) rfl rfl rfl rfl (zs_K (x := kx_361) rfl (by decide)) rfl (Nat.le_of_ble_eq_true rfl) (Nat.le_of_ble_eq_true rfl) (by omega) (q_Reader_fails (by omega) hI5 (by decide) (by omega)) ?_
        rintro _ H93 ⟨z98, rfl, g92, hI94, hq95, hp96, hx97⟩
        have hf99 : fq [(7, 5), (361, 3), (361, 4), (361, 5), (361, 6), (361, 7), (361, 8), (361, 9)] [362] true H H93 := fq_t hf8 hq95 rfl rfl rfl
        refine k_run 0 (pc' := 65) (l' := [(0, .inr (.inr 361)), (1, .inl z35)]) (st' := [.inl z98]) rfl ?_
        refine h_retz (x := z98) rfl rfl (by omega) ?_
        rw [hQ9]
        exact ⟨_, rfl, (by omega), hI94, hf99, (by first | (exfalso; omega) | exact ⟨(Or.inr ⟨by omega, FB_mk hB1 hp96 nF45 (rch_st hX (by show stDec Y n9 K X = _; unfold stDec; (repeat (first | rw [if_pos (by omega)] | rw [if_neg (by omega)])); try rfl)) hx97.1 hx97.2⟩), NE_tr (NE_w hw28 (sc_no (by omega))) (NE_fwo hp96 (by simp)), (fun q9 => absurd q9 (by omega))⟩)⟩
    · refine k_run 0 (pc' := 36) (l' := [(0, .inr (.inr 361))]) (st' := []) rfl ?_
      refine k_run 1 (pc' := 37) (l' := [(0, .inr (.inr 361))]) (st' := [.inr (.inr 361)]) rfl ?_
      refine h_cv (i := 89) (j := 85) (b := 361) (M' := mt_85) (xs := []) (rest := []) rfl rfl rfl rfl (zs_K (x := kx_361) rfl (by decide)) rfl (Nat.le_of_ble_eq_true rfl) (Nat.le_of_ble_eq_true rfl) (by omega) (q_Reader_misplaced (by omega) hI5 (by omega)) ?_
      rintro _ H101 ⟨z106, rfl, g100, hI102, hq103, hp104, hx105⟩
      have hf107 : fq [(7, 5), (361, 3), (361, 4), (361, 5), (361, 6), (361, 7), (361, 8), (361, 9)] [362] true H H101 := fq_t hf8 hq103 rfl rfl rfl
      refine k_run 0 (pc' := 40) (l' := [(0, .inr (.inr 361))]) (st' := [.inl z106]) rfl ?_
      refine h_retz (x := z106) rfl rfl (by omega) ?_
      rw [hQ9]
      exact ⟨_, rfl, (by omega), hI102, hf107, (by first | (exfalso; omega) | exact ⟨(Or.inr ⟨by omega, FB_mk (k := if tk Y (xi (adv X)) = 1 then 1 else 2) hB1 hp104 nF45 (rch_st hX (by show stDec Y n9 K X = _; unfold stDec; (repeat (first | rw [if_pos (by omega)] | rw [if_neg (by omega)])); try rfl)) (hx105.1.trans (by rw [htk1])) hx105.2⟩), NE_tr (NE_w hw28 (sc_no (by omega))) (NE_fwo hp104 (by simp)), (fun q9 => absurd q9 (by omega))⟩)⟩
  · refine k_run 0 (pc' := 12) (l' := [(0, .inr (.inr 361))]) (st' := []) rfl ?_
    refine k_run 2 (pc' := 14) (l' := [(0, .inr (.inr 361))]) (st' := [.inl 5, .inr (.inr 361)]) rfl ?_
    have g108 : -2147483648 ≤ (H.1 361 3) ∧ (H.1 361 3) ≤ 2147483647 := kn (x := kx_361) hI rfl 3
    have g109 : 0 ≤ (H.1 2 5) ∧ (H.1 2 5) ≤ 1001 := kn (x := kx_2) hI rfl 5
    refine h_cv (i := 128) (j := 86) (b := 361) (M' := mt_86) (xs := [.inl 5]) (rest := []) rfl rfl rfl rfl (zs_K (x := kx_361) rfl (by decide)) rfl (Nat.le_of_ble_eq_true rfl) (Nat.le_of_ble_eq_true rfl) (by omega) (q_Reader_fails (by omega) hI (by decide) (by omega)) ?_
    rintro _ H111 ⟨z116, rfl, g110, hI112, hq113, hp114, hx115⟩
    have hf117 : fq [(7, 5), (361, 3), (361, 4), (361, 5), (361, 6), (361, 7), (361, 8), (361, 9)] [362] true H H111 := fq_t (fq_rf _ _ _ _) hq113 rfl rfl rfl
    refine k_run 0 (pc' := 17) (l' := [(0, .inr (.inr 361))]) (st' := [.inl z116]) rfl ?_
    refine h_retz (x := z116) rfl rfl (by omega) ?_
    rw [hQ9]
    exact ⟨_, rfl, (by omega), hI112, hf117, (by first | (exfalso; omega) | exact ⟨(Or.inr ⟨by omega, FB_mk hB hp114 nF45 (rch_st hX (by show stDec Y n9 K X = _; unfold stDec; (repeat (first | rw [if_pos (by omega)] | rw [if_neg (by omega)])); try rfl)) hx115.1 hx115.2⟩), NE_fwo hp114 (by simp), fun _ => NE_fwo hp114 (by simp)⟩)⟩
