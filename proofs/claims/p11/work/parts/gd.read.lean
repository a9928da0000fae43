/-! the class's reader: data and functions told, as the machine reads them -/
theorem nB3 : ∀ p ∈ [(361, 3)], nB p := by
  intro p hp
  simp only [List.mem_cons, List.not_mem_nil, or_false] at hp
  subst hp
  unfold nB nT
  simp
theorem nB345 : ∀ p ∈ [(361, 3), (361, 4), (361, 5)], nB p := by
  intro p hp
  simp only [List.mem_cons, List.not_mem_nil, or_false] at hp
  rcases hp with rfl | rfl | rfl <;> (unfold nB nT; simp)
theorem adv_0 (X : rx) {j : Nat} (h : j ≠ 0) : adv X 0 j = X 0 j := xu_0 _ _ (fun q => h q.2)

/-! Reader.readData -/
set_option maxRecDepth 100000 in
theorem q_Reader_readData_cut {Y : yx} {q : Nat} {c0 : cf} {K : List tq} {X : rx} {n9 : Int} {d : Nat} (hd : 5 ≤ d) {H : hp} (hI : Inv H)   (hB : RB Y q H X) (hX : rch Y c0 ((6, n9, 0, 0) :: K, X)) (h4 : tk Y (xi X) = 4) (hA : AB X) : ∀ w : Nat, (∀ (H1 : hp), Inv H1 → fq [(8, 4), (13, 4), (361, 3), (361, 4), (361, 5)] [9, 10, 11, 14, 15, 16, 17] false H H1 → ∀ (x1 : Int) (x2 : Int) (x3 : Int) , (-2147483648 ≤ x1 ∧ x1 ≤ 2147483647) → (-2147483648 ≤ x2 ∧ x2 ≤ 2147483647) → (-2147483648 ≤ x3 ∧ x3 ≤ 2147483647) → (0 ≤ x2 ∧ x2 ≤ 1) → (1 ≤ x3 ∧ x3 ≤ 17) → (x1 = X 0 3 ∧ 0 ≤ x1 ∧ x1 ≤ 6) → ((x2 = 1 ∧ ∃ X1 : rx, rch Y c0 ((9, X 0 3, 0, 0) :: (1, 59, 0, 0) :: (6, n9 + 1, 0, 0) :: K, X1) ∧ RB Y q H1 X1 ∧ AB X1 ∧ x3 ≤ X1 0 4) ∨ (x2 = 0 ∧ FB Y c0 H1)) → (NE 0 H H1) → (((100 - x3).toNat) < w) → hG (zs zK) d mt_64 58 [(0, .inr (.inr 361)), (1, .inl x1), (2, .inl x2), (3, .inl x3)] [] H1 (fun r9 H9 => ∃ z : Int, r9 = some (.inl z) ∧ ((0 ≤ z ∧ z ≤ 1)) ∧ Inv H9 ∧ fq [(8, 4), (13, 4), (361, 3), (361, 4), (361, 5)] [9, 10, 11, 14, 15, 16, 17] false H H9 ∧ ((OB9 Y q c0 ((1, 59, 0, 0) :: (6, n9 + 1, 0, 0) :: K) AB z H9) ∧ NE 0 H H9))) := by
  intro w
  induction w with
  | zero => exact fun _ _ _ _ _ _ _ _ _ _ _ _ _ _ h => absurd h (Nat.not_lt_zero _)
  | succ w ih =>
    intro H1 hI1 hf1 x1 x2 x3 hx1 hx2 hx3 hi0 hi1 hi2 hi3 hi4 hw
    obtain ⟨Q9, hQ9⟩ : ∃ Q9 : Option zv → hp → Prop, Q9 = (fun r9 H9 => ∃ z : Int, r9 = some (.inl z) ∧ ((0 ≤ z ∧ z ≤ 1)) ∧ Inv H9 ∧ fq [(8, 4), (13, 4), (361, 3), (361, 4), (361, 5)] [9, 10, 11, 14, 15, 16, 17] false H H9 ∧ ((OB9 Y q c0 ((1, 59, 0, 0) :: (6, n9 + 1, 0, 0) :: K) AB z H9) ∧ NE 0 H H9)) := ⟨_, rfl⟩
    rw [← hQ9]
    refine k_run 1 (pc' := 59) (l' := [(0, .inr (.inr 361)), (1, .inl x1), (2, .inl x2), (3, .inl x3)]) (st' := [.inl x2]) rfl ?_
    refine h_zeq (off := 40) (t := 99) rfl rfl (by omega) (fun c41 => ?_) (fun c41 => ?_)
    · refine k_run 0 (pc' := 99) (l' := [(0, .inr (.inr 361)), (1, .inl x1), (2, .inl x2), (3, .inl x3)]) (st' := []) rfl ?_
      refine k_run 1 (pc' := 100) (l' := [(0, .inr (.inr 361)), (1, .inl x1), (2, .inl x2), (3, .inl x3)]) (st' := [.inl x2]) rfl ?_
      refine h_retz (x := x2) rfl rfl (by omega) ?_
      rw [hQ9]
      exact ⟨_, rfl, (by omega), hI1, hf1, (by first | (exfalso; omega) | exact ⟨(hi3.elim (fun e => by first | exact absurd e.1 (by omega) | exact e.2.elim (fun X1 g => absurd g.2.2.2 (by have h1 := g.2.1.2.1.1.2.1; have h2 : 0 ≤ H1.1 13 4 ∧ H1.1 13 4 ≤ 16 := kn (x := kx_13) hI1 rfl 4; omega))) (fun e => Or.inr e)), hi4⟩)⟩
    · refine k_run 0 (pc' := 62) (l' := [(0, .inr (.inr 361)), (1, .inl x1), (2, .inl x2), (3, .inl x3)]) (st' := []) rfl ?_
      refine k_run 2 (pc' := 65) (l' := [(0, .inr (.inr 361)), (1, .inl x1), (2, .inl x2), (3, .inl x3)]) (st' := [.inl 16, .inl x3]) rfl ?_
      refine h_igt (off := 34) (t := 99) rfl rfl (by omega) (by decide) (fun c42 => ?_) (fun c42 => ?_)
      · refine k_run 0 (pc' := 99) (l' := [(0, .inr (.inr 361)), (1, .inl x1), (2, .inl x2), (3, .inl x3)]) (st' := []) rfl ?_
        refine k_run 1 (pc' := 100) (l' := [(0, .inr (.inr 361)), (1, .inl x1), (2, .inl x2), (3, .inl x3)]) (st' := [.inl x2]) rfl ?_
        refine h_retz (x := x2) rfl rfl (by omega) ?_
        rw [hQ9]
        exact ⟨_, rfl, (by omega), hI1, hf1, (by first | (exfalso; omega) | exact ⟨(hi3.elim (fun e => by first | exact absurd e.1 (by omega) | exact e.2.elim (fun X1 g => absurd g.2.2.2 (by have h1 := g.2.1.2.1.1.2.1; have h2 : 0 ≤ H1.1 13 4 ∧ H1.1 13 4 ≤ 16 := kn (x := kx_13) hI1 rfl 4; omega))) (fun e => Or.inr e)), hi4⟩)⟩
      · refine k_run 0 (pc' := 68) (l' := [(0, .inr (.inr 361)), (1, .inl x1), (2, .inl x2), (3, .inl x3)]) (st' := []) rfl ?_
        obtain ⟨k0, X1, k1, k2, k3, k4⟩ := hi3.resolve_right (fun q9 => by have := q9.1; omega)
        have hpa1 := RB_pa k2
        have htk1 := RB_tk k2
        refine k_run 1 (pc' := 69) (l' := [(0, .inr (.inr 361)), (1, .inl x1), (2, .inl x2), (3, .inl x3)]) (st' := [.inr (.inr 361)]) rfl ?_
        have g43 : -2147483648 ≤ (H1.1 361 3) ∧ (H1.1 361 3) ≤ 2147483647 := kn (x := kx_361) hI1 rfl 3
        have g44 : 0 ≤ (H1.1 2 5) ∧ (H1.1 2 5) ≤ 1001 := kn (x := kx_2) hI1 rfl 5
        have e45 : (H1.1 2 5) = (H.1 2 5) := (hf1.1 2 5 rfl (by decide) (by decide)).1
        refine h_cv (i := 72) (j := 83) (b := 361) (M' := mt_83) (xs := []) (rest := []) rfl rfl rfl rfl (zs_K (x := kx_361) rfl (by decide)) rfl (Nat.le_of_ble_eq_true rfl) (Nat.le_of_ble_eq_true rfl) (by omega) (q_Reader_token (by omega) hI1 (by omega)) ?_
        rintro _ _ ⟨z52, rfl, g46, hx51, rfl⟩
        refine k_run 0 (pc' := 72) (l' := [(0, .inr (.inr 361)), (1, .inl x1), (2, .inl x2), (3, .inl x3)]) (st' := [.inl z52]) rfl ?_
        rw [htk1] at hx51
        refine k_run 1 (pc' := 74) (l' := [(0, .inr (.inr 361)), (1, .inl x1), (2, .inl x2), (3, .inl x3)]) (st' := [.inl 124, .inl z52]) rfl ?_
        refine h_ine (off := 25) (t := 99) rfl rfl (by omega) (by decide) (fun c53 => ?_) (fun c53 => ?_)
        · refine k_run 0 (pc' := 99) (l' := [(0, .inr (.inr 361)), (1, .inl x1), (2, .inl x2), (3, .inl x3)]) (st' := []) rfl ?_
          refine k_run 1 (pc' := 100) (l' := [(0, .inr (.inr 361)), (1, .inl x1), (2, .inl x2), (3, .inl x3)]) (st' := [.inl x2]) rfl ?_
          refine h_retz (x := x2) rfl rfl (by omega) ?_
          rw [hQ9]
          exact ⟨_, rfl, (by omega), hI1, hf1, (by first | (exfalso; omega) | exact ⟨(Or.inl ⟨k0, X1, rch_st k1 (by show (if tk Y (xi X1) = 124 then _ else _) = _; rw [if_neg (by omega)]), k2, k3⟩), hi4⟩)⟩
        · refine k_run 0 (pc' := 77) (l' := [(0, .inr (.inr 361)), (1, .inl x1), (2, .inl x2), (3, .inl x3)]) (st' := []) rfl ?_
          refine k_run 5 (pc' := 84) (l' := [(0, .inr (.inr 361)), (1, .inl x1), (2, .inl x2), (3, .inl x3)]) (st' := [.inl ((H1.1 361 3) + 1), .inr (.inr 361)]) rfl ?_
          refine k_puti (z := ((H1.1 361 3) + 1)) (a := 361) (x := kx_361) rfl rfl rfl (by decide) (by decide) rfl rfl rfl rfl hI1 (by omega) (show -2147483648 ≤ ((H1.1 361 3) + 1) ∧ ((H1.1 361 3) + 1) ≤ 2147483647 by omega) (fun H54 hI55 hw56 hv57 => ?_)
          have hf58 : fq [(8, 4), (13, 4), (361, 3), (361, 4), (361, 5)] [9, 10, 11, 14, 15, 16, 17] false H H54 := fq_w hf1 hw56 (fpo (by decide) rfl)
          refine k_run 0 (pc' := 87) (l' := [(0, .inr (.inr 361)), (1, .inl x1), (2, .inl x2), (3, .inl x3)]) (st' := []) rfl ?_
          have hw87 := hw56
          have hRa : RB Y q H54 (adv X1) := RB_adv k2 (fw_w (fw_rf [(361, 3)] _) hw56 (by simp)) nB3 hv57 (RB_lt k2 (by omega) (by omega))
          have hXa : rch Y c0 ((7, x1, 0, 0) :: (9, X 0 3, 0, 0) :: (1, 59, 0, 0) :: (6, n9 + 1, 0, 0) :: K, adv X1) := rch_st k1 (by show (if tk Y (xi X1) = 124 then _ else _) = _; rw [if_pos (by omega), hi2.1])
          have hq4 := adv_0 X1 (j := 4) (by decide)
          refine k_run 2 (pc' := 89) (l' := [(0, .inr (.inr 361)), (1, .inl x1), (2, .inl x2), (3, .inl x3)]) (st' := [.inl x1, .inr (.inr 361)]) rfl ?_
          refine h_cv (i := 117) (j := 65) (b := 361) (M' := mt_65) (xs := [.inl x1]) (rest := []) rfl rfl rfl rfl (zs_K (x := kx_361) rfl (by decide)) rfl (Nat.le_of_ble_eq_true rfl) (Nat.le_of_ble_eq_true rfl) (by omega) (q_Reader_readConstructor (by omega) hI55 (by omega) (by omega) hRa hXa (AB_adv k3)) ?_
          rintro _ H60 ⟨z65, rfl, g59, hI61, hq62, hx64⟩
          have hf66 : fq [(8, 4), (13, 4), (361, 3), (361, 4), (361, 5)] [9, 10, 11, 14, 15, 16, 17] false H H60 := fq_t hf58 hq62 rfl rfl rfl
          refine k_run 0 (pc' := 92) (l' := [(0, .inr (.inr 361)), (1, .inl x1), (2, .inl x2), (3, .inl x3)]) (st' := [.inl z65]) rfl ?_
          refine k_run 3 (pc' := 58) (l' := [(0, .inr (.inr 361)), (1, .inl x1), (2, .inl z65), (3, .inl (x3 + 1))]) (st' := []) rfl ?_
          rw [hQ9]
          exact ih H60 hI61 hf66 x1 z65 (x3 + 1) (by omega) (by omega) (by omega) (by omega) (by omega) (by omega) (Or.elim hx64.1 (fun e => Or.inl ⟨e.1, e.2.imp (fun X4 g => ⟨g.1, g.2.1, g.2.2.1, (by have := g.2.2.2; omega)⟩)⟩) (fun e => Or.inr e)) (NE_tr (NE_tr hi4 (NE_w hw87 (sc_no (by omega)))) hx64.2) (by omega)
set_option maxRecDepth 100000 in
theorem q_Reader_readData {Y : yx} {q : Nat} {c0 : cf} {K : List tq} {X : rx} {n9 : Int} {d : Nat} (hd : 5 ≤ d) {H : hp} (hI : Inv H)   (hB : RB Y q H X) (hX : rch Y c0 ((6, n9, 0, 0) :: K, X)) (h4 : tk Y (xi X) = 4) (hA : AB X) : hG (zs zK) d mt_64 0 (zargs 0 [.inr (.inr 361)]) [] H (fun r9 H9 => ∃ z : Int, r9 = some (.inl z) ∧ ((0 ≤ z ∧ z ≤ 1)) ∧ Inv H9 ∧ fq [(8, 4), (13, 4), (361, 3), (361, 4), (361, 5)] [9, 10, 11, 14, 15, 16, 17] false H H9 ∧ ((OB9 Y q c0 ((1, 59, 0, 0) :: (6, n9 + 1, 0, 0) :: K) AB z H9) ∧ NE 0 H H9)) := by
  have hpa := RB_pa hB
  have htk := RB_tk hB
  obtain ⟨Q9, hQ9⟩ : ∃ Q9 : Option zv → hp → Prop, Q9 = (fun r9 H9 => ∃ z : Int, r9 = some (.inl z) ∧ ((0 ≤ z ∧ z ≤ 1)) ∧ Inv H9 ∧ fq [(8, 4), (13, 4), (361, 3), (361, 4), (361, 5)] [9, 10, 11, 14, 15, 16, 17] false H H9 ∧ ((OB9 Y q c0 ((1, 59, 0, 0) :: (6, n9 + 1, 0, 0) :: K) AB z H9) ∧ NE 0 H H9)) := ⟨_, rfl⟩
  rw [← hQ9]
  refine k_run 0 (pc' := 0) (l' := [(0, .inr (.inr 361))]) (st' := []) rfl ?_
  refine k_run 3 (pc' := 5) (l' := [(0, .inr (.inr 361))]) (st' := [.inl (H.1 361 3), .inr (.inr 361)]) rfl ?_
  have g1 : -2147483648 ≤ (H.1 361 3) ∧ (H.1 361 3) ≤ 2147483647 := kn (x := kx_361) hI rfl 3
  refine k_run 2 (pc' := 7) (l' := [(0, .inr (.inr 361))]) (st' := [.inl ((H.1 361 3) + 1), .inr (.inr 361)]) rfl ?_
  refine k_puti (z := ((H.1 361 3) + 1)) (a := 361) (x := kx_361) rfl rfl rfl (by decide) (by decide) rfl rfl rfl rfl hI (by omega) (show -2147483648 ≤ ((H.1 361 3) + 1) ∧ ((H.1 361 3) + 1) ≤ 2147483647 by omega) (fun H2 hI3 hw4 hv5 => ?_)
  have hf6 : fq [(8, 4), (13, 4), (361, 3), (361, 4), (361, 5)] [9, 10, 11, 14, 15, 16, 17] false H H2 := fq_w (fq_rf _ _ _ _) hw4 (fpo (by decide) rfl)
  refine k_run 0 (pc' := 10) (l' := [(0, .inr (.inr 361))]) (st' := []) rfl ?_
  have hw10 := hw4
  have hB1 : RB Y q H2 (adv X) := RB_adv hB (fw_w (fw_rf [(361, 3)] _) hw4 (by simp)) nB3 hv5 (RB_lt hB (by omega) (by omega))
  have hpa1 := RB_pa hB1
  have htk1 := RB_tk hB1
  have hA1 := AB_adv hA
  have hct : H2.1 8 4 = X 0 3 := hB1.2.1.1.1.trans (adv_0 X (by decide))
  have ht0 : 0 ≤ H2.1 8 4 ∧ H2.1 8 4 ≤ 6 := kn (x := kx_8) hI3 rfl 4
  have hX1 : rch Y c0 (if tk Y (xi (adv X)) ≠ 3 then miss Y (adv X) else if 0 ≤ tfd Y (adv X) then fl Y (adv X) 3 else if 6 ≤ X 0 3 then fl Y (adv X) 5 else ((1, 61, 0, 0) :: (7, X 0 3, 0, 0) :: (9, X 0 3, 0, 0) :: (1, 59, 0, 0) :: (6, n9 + 1, 0, 0) :: K, xtyp (adv X) (tn Y (xi (adv X))))) := rch_st hX (by show stDec Y n9 K X = _; unfold stDec; rw [if_neg (by omega)]; rw [if_pos h4])
  refine k_run 6 (pc' := 20) (l' := [(0, .inr (.inr 361))]) (st' := [.inl (-1), .inl 3, .inr (.inr 8), .inr (.inr 361)]) rfl ?_
  have g7 : -2147483648 ≤ (H2.1 361 3) ∧ (H2.1 361 3) ≤ 2147483647 := kn (x := kx_361) hI3 rfl 3
  have g8 : 0 ≤ (H2.1 2 5) ∧ (H2.1 2 5) ≤ 1001 := kn (x := kx_2) hI3 rfl 5
  have e9 : (H2.1 2 5) = (H.1 2 5) := hw4.2 _ _ (fun q => absurd q.1 (by decide))
  refine h_cv (i := 113) (j := 78) (b := 361) (M' := mt_78) (xs := [.inl (-1), .inl 3, .inr (.inr 8)]) (rest := []) rfl rfl rfl rfl (zs_K (x := kx_361) rfl (by decide)) rfl (Nat.le_of_ble_eq_true rfl) (Nat.le_of_ble_eq_true rfl) (by omega) (q_Reader_tellName_8 (by omega) hI3 (by decide) (by decide) (by omega) (by omega)) ?_
  rintro _ H11 ⟨z16, rfl, g10, hI12, hq13, hp14, hx15⟩
  have hf17 : fq [(8, 4), (13, 4), (361, 3), (361, 4), (361, 5)] [9, 10, 11, 14, 15, 16, 17] false H H11 := fq_t hf6 hq13 rfl rfl rfl
  refine k_run 0 (pc' := 23) (l' := [(0, .inr (.inr 361))]) (st' := [.inl z16]) rfl ?_
  refine h_zeq (off := 12) (t := 35) rfl rfl (by omega) (fun c18 => ?_) (fun c18 => ?_)
  · refine k_run 0 (pc' := 35) (l' := [(0, .inr (.inr 361))]) (st' := []) rfl ?_
    refine k_run 1 (pc' := 36) (l' := [(0, .inr (.inr 361))]) (st' := [.inl 0]) rfl ?_
    refine h_retz (x := 0) rfl rfl (by decide) ?_
    rw [hQ9]
    exact ⟨_, rfl, (by omega), hI12, hf17, (by first | (exfalso; omega) | exact ⟨(Or.inr ⟨rfl, (Or.resolve_left hx15 (fun q9 => by have := q9.1; omega)).2.elim (fun e1 e2 => FB_tell hB1 (fun q9 => RB_tf hB1 (by omega) (by omega)) hct hX1 e1 e2.1 e2.2)⟩), NE_tr (NE_w (e := 0) hw10 (sc_no (by omega))) (NE_fwo hp14 (by simp))⟩)⟩
  · refine k_run 0 (pc' := 26) (l' := [(0, .inr (.inr 361))]) (st' := []) rfl ?_
    obtain ⟨t1, t2, t3, t4, t5, t6, t7, t8, t9⟩ := Or.resolve_right hx15 (fun q9 => by have := q9.1; omega)
    rw [htk1] at t2
    have hnm := RB_tn hB1 (by omega) (by omega)
    have hfd := RB_tf hB1 (by omega) (by omega)
    rw [hfd] at t3
    have hR2 : RB Y q H11 (xtyp (adv X) (tn Y (xi (adv X)))) := RB_typ hB1 hp14 (t5.trans hnm)  t8 t9 ht0.1 (RB_lt hB1 (by omega) (by omega))
    have hX2 := hX1
    rw [if_neg (by omega), if_neg (by omega), if_neg (by omega)] at hX2
    have hpa2 := RB_pa hR2
    have htk2 := RB_tk hR2
    refine k_run 2 (pc' := 29) (l' := [(0, .inr (.inr 361))]) (st' := [.inl 61, .inr (.inr 361)]) rfl ?_
    have g19 : -2147483648 ≤ (H11.1 361 3) ∧ (H11.1 361 3) ≤ 2147483647 := kn (x := kx_361) hI12 rfl 3
    have g20 : 0 ≤ (H11.1 2 5) ∧ (H11.1 2 5) ≤ 1001 := kn (x := kx_2) hI12 rfl 5
    have e21 : (H11.1 2 5) = (H2.1 2 5) := (hq13.1 2 5 rfl (by decide) (by decide)).1
    refine h_cv (i := 92) (j := 82) (b := 361) (M' := mt_82) (xs := [.inl 61]) (rest := []) rfl rfl rfl rfl (zs_K (x := kx_361) rfl (by decide)) rfl (Nat.le_of_ble_eq_true rfl) (Nat.le_of_ble_eq_true rfl) (by omega) (q_Reader_take (by omega) hI12 (by decide) (by omega)) ?_
    rintro _ H23 ⟨z28, rfl, g22, hI24, hq25, hp26, hx27⟩
    have hf29 : fq [(8, 4), (13, 4), (361, 3), (361, 4), (361, 5)] [9, 10, 11, 14, 15, 16, 17] false H H23 := fq_t hf17 hq25 rfl rfl rfl
    refine k_run 0 (pc' := 32) (l' := [(0, .inr (.inr 361))]) (st' := [.inl z28]) rfl ?_
    refine h_zne (off := 5) (t := 37) rfl rfl (by omega) (fun c30 => ?_) (fun c30 => ?_)
    · refine k_run 0 (pc' := 37) (l' := [(0, .inr (.inr 361))]) (st' := []) rfl ?_
      rw [htk2] at hx27
      obtain ⟨t11, t12, t13⟩ := Or.resolve_right hx27 (fun q9 => by have := q9.1; omega)
      have hR3 : RB Y q H23 (adv (xtyp (adv X) (tn Y (xi (adv X))))) := RB_adv hR2 hp26 nB345 t13 (RB_lt hR2 (by omega) (by omega))
      have hN3 := NE_tr (NE_tr (NE_w (e := 0) hw10 (sc_no (by omega))) (NE_fwo hp14 (by simp))) (NE_fwo hp26 (by simp))
      have hX3 := rch_st hX2 (show step Y _ = _ from if_pos t12)
      have hpa3 := RB_pa hR3
      have hA3 : AB (adv (xtyp (adv X) (tn Y (xi (adv X))))) := AB_adv (AB_typ hA1)
      have hc3 : H23.1 8 4 = X 0 3 + 1 := by rw [hR3.2.1.1.1, adv_0 _ (by decide), (xtyp_s _ _).2.1, adv_0 _ (by decide)]
      have hc4 : 0 ≤ H23.1 13 4 ∧ H23.1 13 4 ≤ 16 := kn (x := kx_13) hI24 rfl 4
      have hc5 := hR3.2.1.1.2.1
      refine k_run 4 (pc' := 47) (l' := [(0, .inr (.inr 361))]) (st' := [.inl (H23.1 8 4)]) rfl ?_
      have g31 : 0 ≤ (H23.1 8 4) ∧ (H23.1 8 4) ≤ 6 := kn (x := kx_8) hI24 rfl 4
      have e32 : (H23.1 8 4) = (H11.1 8 4) := (hq25.1 8 4 rfl (by decide) (by decide)).1
      refine k_run 5 (pc' := 52) (l' := [(0, .inr (.inr 361)), (1, .inl ((H23.1 8 4) - 1))]) (st' := [.inl ((H23.1 8 4) - 1), .inr (.inr 361)]) rfl ?_
      refine h_cv (i := 117) (j := 65) (b := 361) (M' := mt_65) (xs := [.inl ((H23.1 8 4) - 1)]) (rest := []) rfl rfl rfl rfl (zs_K (x := kx_361) rfl (by decide)) rfl (Nat.le_of_ble_eq_true rfl) (Nat.le_of_ble_eq_true rfl) (by omega) (q_Reader_readConstructor (by omega) hI24 (by omega) (by omega) hR3 (by rw [show ((H23.1 8 4) - 1) = X 0 3 by omega]; exact hX3) hA3) ?_
      rintro _ H34 ⟨z39, rfl, g33, hI35, hq36, hx38⟩
      have hf40 : fq [(8, 4), (13, 4), (361, 3), (361, 4), (361, 5)] [9, 10, 11, 14, 15, 16, 17] false H H34 := fq_t hf29 hq36 rfl rfl rfl
      refine k_run 0 (pc' := 55) (l' := [(0, .inr (.inr 361)), (1, .inl ((H23.1 8 4) - 1))]) (st' := [.inl z39]) rfl ?_
      refine k_run 3 (pc' := 58) (l' := [(0, .inr (.inr 361)), (1, .inl ((H23.1 8 4) - 1)), (2, .inl z39), (3, .inl 1)]) (st' := []) rfl ?_
      rw [hQ9]
      exact (q_Reader_readData_cut hd hI  hB hX h4 hA _) H34 hI35 hf40 ((H23.1 8 4) - 1) z39 (1 : Int) (by omega) (by omega) (by decide) (by omega) (by omega) (by omega) (Or.elim hx38.1 (fun e => Or.inl ⟨e.1, e.2.imp (fun X4 g => ⟨g.1, g.2.1, g.2.2.1, (by have := g.2.2.2; omega)⟩)⟩) (fun e => Or.inr e)) (NE_tr hN3 hx38.2) (Nat.lt_succ_self _)
    · refine k_run 0 (pc' := 35) (l' := [(0, .inr (.inr 361))]) (st' := []) rfl ?_
      refine k_run 1 (pc' := 36) (l' := [(0, .inr (.inr 361))]) (st' := [.inl 0]) rfl ?_
      refine h_retz (x := 0) rfl rfl (by decide) ?_
      rw [hQ9]
      rw [htk2] at hx27
      exact ⟨_, rfl, (by omega), hI24, hf29, (by first | (exfalso; omega) | exact ⟨Or.elim hx27 (fun e => absurd e.1 (by omega)) (fun e => Or.inr ⟨rfl, FB_mk hR2 hp26 nT345 (rch_st hX2 (by show (if tk Y (xi (xtyp (adv X) (tn Y (xi (adv X))))) = 61 then _ else _) = _; rw [if_neg e.2.1]; rfl)) e.2.2.2.1 e.2.2.2.2⟩), NE_tr (NE_tr (NE_w (e := 0) hw10 (sc_no (by omega))) (NE_fwo hp14 (by simp))) (NE_fwo hp26 (by simp))⟩)⟩

/-! Reader.readFunction -/
set_option maxRecDepth 100000 in
theorem q_Reader_readFunction_cut {Y : yx} {q : Nat} {c0 : cf} {K : List tq} {X : rx} {n9 : Int} {d : Nat} (hd : 4 ≤ d) {H : hp} (hI : Inv H)   (hB : RB Y q H X) (hX : rch Y c0 ((6, n9, 0, 0) :: K, X)) (h4 : tk Y (xi X) = 5) (hA : AB X) : ∀ w : Nat, (∀ (H1 : hp), Inv H1 → fq [(18, 4), (361, 3), (361, 4), (361, 5)] [19, 20, 21, 22] false H H1 → ∀ (x1 : Int) (x2 : Int) (x3 : Int) , (-2147483648 ≤ x1 ∧ x1 ≤ 2147483647) → (-2147483648 ≤ x2 ∧ x2 ≤ 2147483647) → (-2147483648 ≤ x3 ∧ x3 ≤ 2147483647) → (0 ≤ x2 ∧ x2 ≤ 1) → (0 ≤ x3 ∧ x3 ≤ 5) → (H1.1 18 4 = X 0 5 + 1) → (x1 = X 0 5 ∧ 0 ≤ x1 ∧ x1 ≤ 15) → ((x2 = 1 ∧ x3 ≤ 4 ∧ ∃ X1 : rx, rch Y c0 ((11, X 0 5, x3, 0) :: (1, 59, 0, 0) :: (6, n9 + 1, 0, 0) :: K, X1) ∧ RB Y q H1 X1 ∧ AB X1 ∧ X1 8 (X 0 5).toNat = x3) ∨ (x2 = 0 ∧ FB Y c0 H1)) → (NE 0 H H1) → (((100 - x3).toNat) < w) → hG (zs zK) d mt_66 70 [(0, .inr (.inr 361)), (1, .inl x1), (2, .inl x2), (3, .inl x3)] [] H1 (fun r9 H9 => ∃ z : Int, r9 = some (.inl z) ∧ ((0 ≤ z ∧ z ≤ 1)) ∧ Inv H9 ∧ fq [(18, 4), (361, 3), (361, 4), (361, 5)] [19, 20, 21, 22] false H H9 ∧ ((OB9 Y q c0 ((1, 59, 0, 0) :: (6, n9 + 1, 0, 0) :: K) AB z H9) ∧ NE 0 H H9))) := by
  intro w
  induction w with
  | zero => exact fun _ _ _ _ _ _ _ _ _ _ _ _ _ _ _ h => absurd h (Nat.not_lt_zero _)
  | succ w ih =>
    intro H1 hI1 hf1 x1 x2 x3 hx1 hx2 hx3 hi0 hi1 hi2 hi3 hi4 hi5 hw
    obtain ⟨Q9, hQ9⟩ : ∃ Q9 : Option zv → hp → Prop, Q9 = (fun r9 H9 => ∃ z : Int, r9 = some (.inl z) ∧ ((0 ≤ z ∧ z ≤ 1)) ∧ Inv H9 ∧ fq [(18, 4), (361, 3), (361, 4), (361, 5)] [19, 20, 21, 22] false H H9 ∧ ((OB9 Y q c0 ((1, 59, 0, 0) :: (6, n9 + 1, 0, 0) :: K) AB z H9) ∧ NE 0 H H9)) := ⟨_, rfl⟩
    rw [← hQ9]
    have g47 : 0 ≤ (H1.1 18 4) ∧ (H1.1 18 4) ≤ 16 := kn (x := kx_18) hI1 rfl 4
    refine k_run 1 (pc' := 71) (l' := [(0, .inr (.inr 361)), (1, .inl x1), (2, .inl x2), (3, .inl x3)]) (st' := [.inl x2]) rfl ?_
    refine h_zeq (off := 72) (t := 143) rfl rfl (by omega) (fun c48 => ?_) (fun c48 => ?_)
    · refine k_run 0 (pc' := 143) (l' := [(0, .inr (.inr 361)), (1, .inl x1), (2, .inl x2), (3, .inl x3)]) (st' := []) rfl ?_
      refine k_run 1 (pc' := 144) (l' := [(0, .inr (.inr 361)), (1, .inl x1), (2, .inl x2), (3, .inl x3)]) (st' := [.inl x2]) rfl ?_
      refine h_retz (x := x2) rfl rfl (by omega) ?_
      rw [hQ9]
      exact ⟨_, rfl, (by omega), hI1, hf1, (by first | (exfalso; omega) | exact ⟨(hi4.elim (fun e => by first | exact absurd e.1 (by omega) | exact absurd e.2.1 (by omega)) (fun e => Or.inr e)), hi5⟩)⟩
    · refine k_run 0 (pc' := 74) (l' := [(0, .inr (.inr 361)), (1, .inl x1), (2, .inl x2), (3, .inl x3)]) (st' := []) rfl ?_
      refine k_run 2 (pc' := 76) (l' := [(0, .inr (.inr 361)), (1, .inl x1), (2, .inl x2), (3, .inl x3)]) (st' := [.inl 4, .inl x3]) rfl ?_
      refine h_igt (off := 67) (t := 143) rfl rfl (by omega) (by decide) (fun c49 => ?_) (fun c49 => ?_)
      · refine k_run 0 (pc' := 143) (l' := [(0, .inr (.inr 361)), (1, .inl x1), (2, .inl x2), (3, .inl x3)]) (st' := []) rfl ?_
        refine k_run 1 (pc' := 144) (l' := [(0, .inr (.inr 361)), (1, .inl x1), (2, .inl x2), (3, .inl x3)]) (st' := [.inl x2]) rfl ?_
        refine h_retz (x := x2) rfl rfl (by omega) ?_
        rw [hQ9]
        exact ⟨_, rfl, (by omega), hI1, hf1, (by first | (exfalso; omega) | exact ⟨(hi4.elim (fun e => by first | exact absurd e.1 (by omega) | exact absurd e.2.1 (by omega)) (fun e => Or.inr e)), hi5⟩)⟩
      · refine k_run 0 (pc' := 79) (l' := [(0, .inr (.inr 361)), (1, .inl x1), (2, .inl x2), (3, .inl x3)]) (st' := []) rfl ?_
        obtain ⟨k0, k00, X1, k1, k2, k3, k4⟩ := hi4.resolve_right (fun q9 => by have := q9.1; omega)
        have hpa1 := RB_pa k2
        have htk1 := RB_tk k2
        have hcn1 := k2.2.1.1.2.2.1
        obtain ⟨-, e20, e21, -⟩ := k2.2.1.2.2.2.1 (X 0 5).toNat (by omega)
        refine k_run 1 (pc' := 80) (l' := [(0, .inr (.inr 361)), (1, .inl x1), (2, .inl x2), (3, .inl x3)]) (st' := [.inr (.inr 361)]) rfl ?_
        have g50 : -2147483648 ≤ (H1.1 361 3) ∧ (H1.1 361 3) ≤ 2147483647 := kn (x := kx_361) hI1 rfl 3
        have g51 : 0 ≤ (H1.1 2 5) ∧ (H1.1 2 5) ≤ 1001 := kn (x := kx_2) hI1 rfl 5
        have e52 : (H1.1 2 5) = (H.1 2 5) := (hf1.1 2 5 rfl (by decide) (by decide)).1
        refine h_cv (i := 72) (j := 83) (b := 361) (M' := mt_83) (xs := []) (rest := []) rfl rfl rfl rfl (zs_K (x := kx_361) rfl (by decide)) rfl (Nat.le_of_ble_eq_true rfl) (Nat.le_of_ble_eq_true rfl) (by omega) (q_Reader_token (by omega) hI1 (by omega)) ?_
        rintro _ _ ⟨z59, rfl, g53, hx58, rfl⟩
        refine k_run 0 (pc' := 83) (l' := [(0, .inr (.inr 361)), (1, .inl x1), (2, .inl x2), (3, .inl x3)]) (st' := [.inl z59]) rfl ?_
        rw [htk1] at hx58
        refine k_run 1 (pc' := 85) (l' := [(0, .inr (.inr 361)), (1, .inl x1), (2, .inl x2), (3, .inl x3)]) (st' := [.inl 62, .inl z59]) rfl ?_
        refine h_ine (off := 58) (t := 143) rfl rfl (by omega) (by decide) (fun c60 => ?_) (fun c60 => ?_)
        · refine k_run 0 (pc' := 143) (l' := [(0, .inr (.inr 361)), (1, .inl x1), (2, .inl x2), (3, .inl x3)]) (st' := []) rfl ?_
          refine k_run 1 (pc' := 144) (l' := [(0, .inr (.inr 361)), (1, .inl x1), (2, .inl x2), (3, .inl x3)]) (st' := [.inl x2]) rfl ?_
          refine h_retz (x := x2) rfl rfl (by omega) ?_
          rw [hQ9]
          exact ⟨_, rfl, (by omega), hI1, hf1, (by first | (exfalso; omega) | exact ⟨(Or.inl ⟨k0, X1, (rch_st k1 (by show (if tk Y (xi X1) = 62 then (if x3 = 4 then fl Y X1 5 else ((10, X 0 5, 0, 0) :: (11, X 0 5, x3 + 1, 0) :: (1, 59, 0, 0) :: (6, n9 + 1, 0, 0) :: K, xfar X1 (X 0 5))) else ((1, 59, 0, 0) :: (6, n9 + 1, 0, 0) :: K, X1)) = _; (repeat (first | rw [if_pos (by omega)] | rw [if_neg (by omega)])); try rfl)), k2, k3⟩), hi5⟩)⟩
        · refine k_run 0 (pc' := 88) (l' := [(0, .inr (.inr 361)), (1, .inl x1), (2, .inl x2), (3, .inl x3)]) (st' := []) rfl ?_
          refine k_run 2 (pc' := 90) (l' := [(0, .inr (.inr 361)), (1, .inl x1), (2, .inl x2), (3, .inl x3)]) (st' := [.inl 4, .inl x3]) rfl ?_
          refine h_ine (off := 9) (t := 99) rfl rfl (by omega) (by decide) (fun c61 => ?_) (fun c61 => ?_)
          · refine k_run 0 (pc' := 99) (l' := [(0, .inr (.inr 361)), (1, .inl x1), (2, .inl x2), (3, .inl x3)]) (st' := []) rfl ?_
            have e16 : H1.1 21 (H1.1 18 4 - 1).toNat = x3 := by rw [show (H1.1 18 4 - 1).toNat = (X 0 5).toNat by omega, e21]; exact k4
            refine k_run 8 (pc' := 117) (l' := [(0, .inr (.inr 361)), (1, .inl x1), (2, .inl x2), (3, .inl x3)]) (st' := [.inl x1, .inr (.inr 20), .inr (.inr 18)]) rfl ?_
            refine k_ild (c := 20) (j := (x1).toNat) (i := x1) (x := kx_20) rfl rfl (by decide) rfl (by decide) (by omega) (by omega) ?_
            have g62 : -2 ≤ (H1.1 20 (x1).toNat) ∧ (H1.1 20 (x1).toNat) ≤ 100 := kn (x := kx_20) hI1 rfl (x1).toNat
            refine k_run 0 (pc' := 118) (l' := [(0, .inr (.inr 361)), (1, .inl x1), (2, .inl x2), (3, .inl x3)]) (st' := [.inl (H1.1 20 (x1).toNat), .inr (.inr 18)]) rfl ?_
            refine h_cv (i := 131) (j := 44) (b := 18) (M' := mt_44) (xs := [.inl (H1.1 20 (x1).toNat)]) (rest := []) rfl rfl rfl rfl (zs_K (x := kx_18) rfl (by decide)) rfl (Nat.le_of_ble_eq_true rfl) (Nat.le_of_ble_eq_true rfl) (by omega) (q_Symbols_addArgument_18 (by omega) hI1 (by omega) (by omega) (by omega) (by omega)) ?_
            rintro _ H64 ⟨rfl, hI65, hq66, hp67, hx68⟩
            have hf69 : fq [(18, 4), (361, 3), (361, 4), (361, 5)] [19, 20, 21, 22] false H H64 := fq_t hf1 hq66 rfl rfl rfl
            refine k_run 0 (pc' := 121) (l' := [(0, .inr (.inr 361)), (1, .inl x1), (2, .inl x2), (3, .inl x3)]) (st' := []) rfl ?_
            refine k_run 3 (pc' := 126) (l' := [(0, .inr (.inr 361)), (1, .inl x1), (2, .inl x2), (3, .inl x3)]) (st' := [.inl (H64.1 361 3), .inr (.inr 361)]) rfl ?_
            have g70 : -2147483648 ≤ (H64.1 361 3) ∧ (H64.1 361 3) ≤ 2147483647 := kn (x := kx_361) hI65 rfl 3
            have e71 : (H64.1 361 3) = (H1.1 361 3) := (hq66.1 361 3 rfl (by decide) (by decide)).1
            refine k_run 2 (pc' := 128) (l' := [(0, .inr (.inr 361)), (1, .inl x1), (2, .inl x2), (3, .inl x3)]) (st' := [.inl ((H64.1 361 3) + 1), .inr (.inr 361)]) rfl ?_
            refine k_puti (z := ((H64.1 361 3) + 1)) (a := 361) (x := kx_361) rfl rfl rfl (by decide) (by decide) rfl rfl rfl rfl hI65 (by omega) (show -2147483648 ≤ ((H64.1 361 3) + 1) ∧ ((H64.1 361 3) + 1) ≤ 2147483647 by omega) (fun H72 hI73 hw74 hv75 => ?_)
            have hf76 : fq [(18, 4), (361, 3), (361, 4), (361, 5)] [19, 20, 21, 22] false H H72 := fq_w hf69 hw74 (fpo (by decide) rfl)
            refine k_run 0 (pc' := 131) (l' := [(0, .inr (.inr 361)), (1, .inl x1), (2, .inl x2), (3, .inl x3)]) (st' := []) rfl ?_
            have hw131 := hw74
            have hRa := RB_far2 k2 (by omega) (by omega) (fw_w (fw_t (fw_rf [(22, (4 * (H1.1 18 4 - 1) + H1.1 21 (H1.1 18 4 - 1).toNat).toNat), (21, (H1.1 18 4 - 1).toNat), (361, 3)] H1) hp67 (by simp)) hw74 (by simp)) (((hw74.2 _ _ (fun q => absurd q.1 (by decide))).trans hx68.1).trans (by rw [show x1.toNat = (H1.1 18 4 - 1).toNat by omega])) ((hw74.2 _ _ (fun q => absurd q.1 (by decide))).trans hx68.2) (by have h9 := hv75; have h8 := hp67.2 361 3 (by simp); omega) (RB_lt k2 (by omega) (by omega)) k3.2
            rw [show H1.1 18 4 - 1 = X 0 5 by omega] at hRa
            have hXa : rch Y c0 ((10, x1, 0, 0) :: (11, X 0 5, x3 + 1, 0) :: (1, 59, 0, 0) :: (6, n9 + 1, 0, 0) :: K, xfar X1 (X 0 5)) := by rw [hi3.1]; exact (rch_st k1 (by show (if tk Y (xi X1) = 62 then (if x3 = 4 then fl Y X1 5 else ((10, X 0 5, 0, 0) :: (11, X 0 5, x3 + 1, 0) :: (1, 59, 0, 0) :: (6, n9 + 1, 0, 0) :: K, xfar X1 (X 0 5))) else ((1, 59, 0, 0) :: (6, n9 + 1, 0, 0) :: K, X1)) = _; (repeat (first | rw [if_pos (by omega)] | rw [if_neg (by omega)])); try rfl))
            have hAa : AB (xfar X1 (X 0 5)) := AB_far k3 (by omega)
            have hca : H72.1 18 4 = X 0 5 + 1 := ((hw74.2 _ _ (fun q => absurd q.1 (by decide))).trans (hp67.2 18 4 (by simp))).trans (by omega)
            have h8a : xfar X1 (X 0 5) 8 (X 0 5).toNat = x3 + 1 := by rw [(xfar_s X1 _).2.2, up_eq, k4]
            have h8b : H72.1 21 (X 0 5).toNat = x3 + 1 := (hRa.2.1.2.2.2.1 (X 0 5).toNat (by have := hRa.2.1.1.2.2.1; omega)).2.2.1.trans h8a
            refine k_run 2 (pc' := 133) (l' := [(0, .inr (.inr 361)), (1, .inl x1), (2, .inl x2), (3, .inl x3)]) (st' := [.inl x1, .inr (.inr 361)]) rfl ?_
            refine h_cv (i := 135) (j := 67) (b := 361) (M' := mt_67) (xs := [.inl x1]) (rest := []) rfl rfl rfl rfl (zs_K (x := kx_361) rfl (by decide)) rfl (Nat.le_of_ble_eq_true rfl) (Nat.le_of_ble_eq_true rfl) (by omega) (q_Reader_readResult (by omega) hI73 (by omega) (by omega) hRa hXa hAa) ?_
            rintro _ H78 ⟨z83, rfl, g77, hI79, hq80, hp81, hx82⟩
            have hf84 : fq [(18, 4), (361, 3), (361, 4), (361, 5)] [19, 20, 21, 22] false H H78 := fq_t hf76 hq80 rfl rfl rfl
            refine k_run 0 (pc' := 136) (l' := [(0, .inr (.inr 361)), (1, .inl x1), (2, .inl x2), (3, .inl x3)]) (st' := [.inl z83]) rfl ?_
            refine k_run 3 (pc' := 70) (l' := [(0, .inr (.inr 361)), (1, .inl x1), (2, .inl z83), (3, .inl (x3 + 1))]) (st' := []) rfl ?_
            have g85 : 0 ≤ (H78.1 18 4) ∧ (H78.1 18 4) ≤ 16 := kn (x := kx_18) hI79 rfl 4
            have e86 : (H78.1 18 4) = (H72.1 18 4) := (hq80.1 18 4 rfl (by decide) (by decide)).1
            have e87 : (H72.1 18 4) = (H64.1 18 4) := hw74.2 _ _ (fun q => absurd q.1 (by decide))
            have e88 : (H64.1 18 4) = (H1.1 18 4) := (hq66.1 18 4 rfl (by decide) (by decide)).1
            rw [hQ9]
            exact ih H78 hI79 hf84 x1 z83 (x3 + 1) (by omega) (by omega) (by omega) (by omega) (by omega) (by omega) (by omega) (Or.elim hx82 (fun e => Or.inl ⟨e.1, by omega, e.2.imp (fun X4 g => ⟨g.1, g.2.1, g.2.2, (by have h9 := (g.2.1.2.1.2.2.2.1 (X 0 5).toNat (by have := g.2.1.2.1.1.2.2.1; omega)).2.2.1; have h5 := hp81.2 21 (X 0 5).toNat (by simp); omega)⟩)⟩) (fun e => Or.inr e)) (NE_tr (NE_tr (NE_tr hi5 (NE_fwo hp67 (by simp))) (NE_w hw131 (sc_no (by omega)))) (NE_fwo hp81 (by simp))) (by omega)
          · refine k_run 0 (pc' := 93) (l' := [(0, .inr (.inr 361)), (1, .inl x1), (2, .inl x2), (3, .inl x3)]) (st' := []) rfl ?_
            refine k_run 2 (pc' := 95) (l' := [(0, .inr (.inr 361)), (1, .inl x1), (2, .inl x2), (3, .inl x3)]) (st' := [.inl 5, .inr (.inr 361)]) rfl ?_
            refine h_cv (i := 128) (j := 86) (b := 361) (M' := mt_86) (xs := [.inl 5]) (rest := []) rfl rfl rfl rfl (zs_K (x := kx_361) rfl (by decide)) rfl (Nat.le_of_ble_eq_true rfl) (Nat.le_of_ble_eq_true rfl) (by omega) (q_Reader_fails (by omega) hI1 (by decide) (by omega)) ?_
            rintro _ H90 ⟨z95, rfl, g89, hI91, hq92, hp93, hx94⟩
            have hf96 : fq [(18, 4), (361, 3), (361, 4), (361, 5)] [19, 20, 21, 22] false H H90 := fq_t hf1 hq92 rfl rfl rfl
            refine k_run 0 (pc' := 98) (l' := [(0, .inr (.inr 361)), (1, .inl x1), (2, .inl x2), (3, .inl x3)]) (st' := [.inl z95]) rfl ?_
            refine h_retz (x := z95) rfl rfl (by omega) ?_
            rw [hQ9]
            exact ⟨_, rfl, (by omega), hI91, hf96, (by first | (exfalso; omega) | exact ⟨(Or.inr ⟨by omega, FB_mk k2 hp93 nF45 (rch_st k1 (by show (if tk Y (xi X1) = 62 then (if x3 = 4 then fl Y X1 5 else ((10, X 0 5, 0, 0) :: (11, X 0 5, x3 + 1, 0) :: (1, 59, 0, 0) :: (6, n9 + 1, 0, 0) :: K, xfar X1 (X 0 5))) else ((1, 59, 0, 0) :: (6, n9 + 1, 0, 0) :: K, X1)) = _; (repeat (first | rw [if_pos (by omega)] | rw [if_neg (by omega)])); try rfl)) hx94.1 hx94.2⟩), NE_tr hi5 (NE_fwo hp93 (by simp))⟩)⟩
set_option maxRecDepth 100000 in
theorem q_Reader_readFunction {Y : yx} {q : Nat} {c0 : cf} {K : List tq} {X : rx} {n9 : Int} {d : Nat} (hd : 4 ≤ d) {H : hp} (hI : Inv H)   (hB : RB Y q H X) (hX : rch Y c0 ((6, n9, 0, 0) :: K, X)) (h4 : tk Y (xi X) = 5) (hA : AB X) : hG (zs zK) d mt_66 0 (zargs 0 [.inr (.inr 361)]) [] H (fun r9 H9 => ∃ z : Int, r9 = some (.inl z) ∧ ((0 ≤ z ∧ z ≤ 1)) ∧ Inv H9 ∧ fq [(18, 4), (361, 3), (361, 4), (361, 5)] [19, 20, 21, 22] false H H9 ∧ ((OB9 Y q c0 ((1, 59, 0, 0) :: (6, n9 + 1, 0, 0) :: K) AB z H9) ∧ NE 0 H H9)) := by
  have hpa := RB_pa hB
  have htk := RB_tk hB
  obtain ⟨Q9, hQ9⟩ : ∃ Q9 : Option zv → hp → Prop, Q9 = (fun r9 H9 => ∃ z : Int, r9 = some (.inl z) ∧ ((0 ≤ z ∧ z ≤ 1)) ∧ Inv H9 ∧ fq [(18, 4), (361, 3), (361, 4), (361, 5)] [19, 20, 21, 22] false H H9 ∧ ((OB9 Y q c0 ((1, 59, 0, 0) :: (6, n9 + 1, 0, 0) :: K) AB z H9) ∧ NE 0 H H9)) := ⟨_, rfl⟩
  rw [← hQ9]
  refine k_run 0 (pc' := 0) (l' := [(0, .inr (.inr 361))]) (st' := []) rfl ?_
  refine k_run 3 (pc' := 5) (l' := [(0, .inr (.inr 361))]) (st' := [.inl (H.1 361 3), .inr (.inr 361)]) rfl ?_
  have g1 : -2147483648 ≤ (H.1 361 3) ∧ (H.1 361 3) ≤ 2147483647 := kn (x := kx_361) hI rfl 3
  refine k_run 2 (pc' := 7) (l' := [(0, .inr (.inr 361))]) (st' := [.inl ((H.1 361 3) + 1), .inr (.inr 361)]) rfl ?_
  refine k_puti (z := ((H.1 361 3) + 1)) (a := 361) (x := kx_361) rfl rfl rfl (by decide) (by decide) rfl rfl rfl rfl hI (by omega) (show -2147483648 ≤ ((H.1 361 3) + 1) ∧ ((H.1 361 3) + 1) ≤ 2147483647 by omega) (fun H2 hI3 hw4 hv5 => ?_)
  have hf6 : fq [(18, 4), (361, 3), (361, 4), (361, 5)] [19, 20, 21, 22] false H H2 := fq_w (fq_rf _ _ _ _) hw4 (fpo (by decide) rfl)
  refine k_run 0 (pc' := 10) (l' := [(0, .inr (.inr 361))]) (st' := []) rfl ?_
  have hw10 := hw4
  have hB1 : RB Y q H2 (adv X) := RB_adv hB (fw_w (fw_rf [(361, 3)] _) hw4 (by simp)) nB3 hv5 (RB_lt hB (by omega) (by omega))
  have hpa1 := RB_pa hB1
  have htk1 := RB_tk hB1
  have hA1 := AB_adv hA
  have hct : H2.1 18 4 = X 0 5 := hB1.2.1.1.2.2.1.trans (adv_0 X (by decide))
  have ht0 : 0 ≤ H2.1 18 4 ∧ H2.1 18 4 ≤ 16 := kn (x := kx_18) hI3 rfl 4
  have hX1 : rch Y c0 (if tk Y (xi (adv X)) ≠ 2 then miss Y (adv X) else if 0 ≤ ffd Y (adv X) then fl Y (adv X) 3 else if 16 ≤ X 0 5 then fl Y (adv X) 5 else ((1, 58, 0, 0) :: (10, X 0 5, 0, 0) :: (11, X 0 5, 0, 0) :: (1, 59, 0, 0) :: (6, n9 + 1, 0, 0) :: K, xfun (adv X) (tn Y (xi (adv X))))) := rch_st hX (by show stDec Y n9 K X = _; unfold stDec; rw [if_neg (by omega)]; rw [if_neg (by omega)]; rw [if_pos h4])
  refine k_run 6 (pc' := 20) (l' := [(0, .inr (.inr 361))]) (st' := [.inl (-1), .inl 2, .inr (.inr 18), .inr (.inr 361)]) rfl ?_
  have g7 : -2147483648 ≤ (H2.1 361 3) ∧ (H2.1 361 3) ≤ 2147483647 := kn (x := kx_361) hI3 rfl 3
  have g8 : 0 ≤ (H2.1 2 5) ∧ (H2.1 2 5) ≤ 1001 := kn (x := kx_2) hI3 rfl 5
  have e9 : (H2.1 2 5) = (H.1 2 5) := hw4.2 _ _ (fun q => absurd q.1 (by decide))
  refine h_cv (i := 113) (j := 78) (b := 361) (M' := mt_78) (xs := [.inl (-1), .inl 2, .inr (.inr 18)]) (rest := []) rfl rfl rfl rfl (zs_K (x := kx_361) rfl (by decide)) rfl (Nat.le_of_ble_eq_true rfl) (Nat.le_of_ble_eq_true rfl) (by omega) (q_Reader_tellName_18 (by omega) hI3 (by decide) (by decide) (by omega) (by omega)) ?_
  rintro _ H11 ⟨z16, rfl, g10, hI12, hq13, hp14, hx15⟩
  have hf17 : fq [(18, 4), (361, 3), (361, 4), (361, 5)] [19, 20, 21, 22] false H H11 := fq_t hf6 hq13 rfl rfl rfl
  refine k_run 0 (pc' := 23) (l' := [(0, .inr (.inr 361))]) (st' := [.inl z16]) rfl ?_
  refine h_zeq (off := 12) (t := 35) rfl rfl (by omega) (fun c18 => ?_) (fun c18 => ?_)
  · refine k_run 0 (pc' := 35) (l' := [(0, .inr (.inr 361))]) (st' := []) rfl ?_
    refine k_run 1 (pc' := 36) (l' := [(0, .inr (.inr 361))]) (st' := [.inl 0]) rfl ?_
    refine h_retz (x := 0) rfl rfl (by decide) ?_
    rw [hQ9]
    exact ⟨_, rfl, (by omega), hI12, hf17, (by first | (exfalso; omega) | exact ⟨(Or.inr ⟨rfl, (Or.resolve_left hx15 (fun q9 => by have := q9.1; omega)).2.elim (fun e1 e2 => FB_tell hB1 (fun q9 => RB_ff hB1 (by omega) (by omega)) hct hX1 e1 e2.1 e2.2)⟩), NE_tr (NE_w (e := 0) hw10 (sc_no (by omega))) (NE_fwo hp14 (by simp))⟩)⟩
  · refine k_run 0 (pc' := 26) (l' := [(0, .inr (.inr 361))]) (st' := []) rfl ?_
    obtain ⟨t1, t2, t3, t4, t5, t6, t7, t8, t9⟩ := Or.resolve_right hx15 (fun q9 => by have := q9.1; omega)
    rw [htk1] at t2
    have hnm := RB_tn hB1 (by omega) (by omega)
    have hfd := RB_ff hB1 (by omega) (by omega)
    rw [hfd] at t3
    have hR2 : RB Y q H11 (xfun (adv X) (tn Y (xi (adv X)))) := RB_fun hB1 hp14 (t5.trans hnm) t6 t7 t8 t9 ht0.1 (RB_lt hB1 (by omega) (by omega))
    have hX2 := hX1
    rw [if_neg (by omega), if_neg (by omega), if_neg (by omega)] at hX2
    have hpa2 := RB_pa hR2
    have htk2 := RB_tk hR2
    refine k_run 2 (pc' := 29) (l' := [(0, .inr (.inr 361))]) (st' := [.inl 58, .inr (.inr 361)]) rfl ?_
    have g19 : -2147483648 ≤ (H11.1 361 3) ∧ (H11.1 361 3) ≤ 2147483647 := kn (x := kx_361) hI12 rfl 3
    have g20 : 0 ≤ (H11.1 2 5) ∧ (H11.1 2 5) ≤ 1001 := kn (x := kx_2) hI12 rfl 5
    have e21 : (H11.1 2 5) = (H2.1 2 5) := (hq13.1 2 5 rfl (by decide) (by decide)).1
    refine h_cv (i := 92) (j := 82) (b := 361) (M' := mt_82) (xs := [.inl 58]) (rest := []) rfl rfl rfl rfl (zs_K (x := kx_361) rfl (by decide)) rfl (Nat.le_of_ble_eq_true rfl) (Nat.le_of_ble_eq_true rfl) (by omega) (q_Reader_take (by omega) hI12 (by decide) (by omega)) ?_
    rintro _ H23 ⟨z28, rfl, g22, hI24, hq25, hp26, hx27⟩
    have hf29 : fq [(18, 4), (361, 3), (361, 4), (361, 5)] [19, 20, 21, 22] false H H23 := fq_t hf17 hq25 rfl rfl rfl
    refine k_run 0 (pc' := 32) (l' := [(0, .inr (.inr 361))]) (st' := [.inl z28]) rfl ?_
    refine h_zne (off := 5) (t := 37) rfl rfl (by omega) (fun c30 => ?_) (fun c30 => ?_)
    · refine k_run 0 (pc' := 37) (l' := [(0, .inr (.inr 361))]) (st' := []) rfl ?_
      rw [htk2] at hx27
      obtain ⟨t11, t12, t13⟩ := Or.resolve_right hx27 (fun q9 => by have := q9.1; omega)
      have hR3 : RB Y q H23 (adv (xfun (adv X) (tn Y (xi (adv X))))) := RB_adv hR2 hp26 nB345 t13 (RB_lt hR2 (by omega) (by omega))
      have hN3 := NE_tr (NE_tr (NE_w (e := 0) hw10 (sc_no (by omega))) (NE_fwo hp14 (by simp))) (NE_fwo hp26 (by simp))
      have hX3 := rch_st hX2 (show step Y _ = _ from if_pos t12)
      have hpa3 := RB_pa hR3
      have hA3 : AB (adv (xfun (adv X) (tn Y (xi (adv X))))) := AB_adv (AB_fun hA1)
      have hc3 : H23.1 18 4 = X 0 5 + 1 := by rw [hR3.2.1.1.2.2.1, adv_0 _ (by decide), (xfun_s _ _).2.1, adv_0 _ (by decide)]
      refine k_run 4 (pc' := 47) (l' := [(0, .inr (.inr 361))]) (st' := [.inl (H23.1 18 4)]) rfl ?_
      have g31 : 0 ≤ (H23.1 18 4) ∧ (H23.1 18 4) ≤ 16 := kn (x := kx_18) hI24 rfl 4
      have e32 : (H23.1 18 4) = (H11.1 18 4) := (hq25.1 18 4 rfl (by decide) (by decide)).1
      refine k_run 4 (pc' := 51) (l' := [(0, .inr (.inr 361)), (1, .inl ((H23.1 18 4) - 1))]) (st' := [.inl ((H23.1 18 4) - 1)]) rfl ?_
      refine h_zlt (off := 15) (t := 66) rfl rfl (by omega) (fun c33 => ?_) (fun c33 => ?_)
      · refine k_run 0 (pc' := 66) (l' := [(0, .inr (.inr 361)), (1, .inl ((H23.1 18 4) - 1))]) (st' := []) rfl ?_
        refine k_run 4 (pc' := 70) (l' := [(0, .inr (.inr 361)), (1, .inl ((H23.1 18 4) - 1)), (2, .inl 0), (3, .inl 0)]) (st' := []) rfl ?_
        rw [hQ9]
        exact (q_Reader_readFunction_cut hd hI  hB hX h4 hA _) H23 hI24 hf29 ((H23.1 18 4) - 1) (0 : Int) (0 : Int) (by omega) (by decide) (by decide) (by omega) (by omega) (by omega) (by omega) (by exfalso; omega) (by exfalso; omega) (Nat.lt_succ_self _)
      · refine k_run 0 (pc' := 54) (l' := [(0, .inr (.inr 361)), (1, .inl ((H23.1 18 4) - 1))]) (st' := []) rfl ?_
        refine k_run 2 (pc' := 56) (l' := [(0, .inr (.inr 361)), (1, .inl ((H23.1 18 4) - 1))]) (st' := [.inl ((H23.1 18 4) - 1), .inr (.inr 361)]) rfl ?_
        refine h_cv (i := 135) (j := 67) (b := 361) (M' := mt_67) (xs := [.inl ((H23.1 18 4) - 1)]) (rest := []) rfl rfl rfl rfl (zs_K (x := kx_361) rfl (by decide)) rfl (Nat.le_of_ble_eq_true rfl) (Nat.le_of_ble_eq_true rfl) (by omega) (q_Reader_readResult (by omega) hI24 (by omega) (by omega) hR3 (by rw [show ((H23.1 18 4) - 1) = X 0 5 by omega]; exact hX3) hA3) ?_
        rintro _ H35 ⟨z40, rfl, g34, hI36, hq37, hp38, hx39⟩
        have hf41 : fq [(18, 4), (361, 3), (361, 4), (361, 5)] [19, 20, 21, 22] false H H35 := fq_t hf29 hq37 rfl rfl rfl
        refine k_run 0 (pc' := 59) (l' := [(0, .inr (.inr 361)), (1, .inl ((H23.1 18 4) - 1))]) (st' := [.inl z40]) rfl ?_
        refine h_zeq (off := 7) (t := 66) rfl rfl (by omega) (fun c42 => ?_) (fun c42 => ?_)
        · refine k_run 0 (pc' := 66) (l' := [(0, .inr (.inr 361)), (1, .inl ((H23.1 18 4) - 1))]) (st' := []) rfl ?_
          refine k_run 4 (pc' := 70) (l' := [(0, .inr (.inr 361)), (1, .inl ((H23.1 18 4) - 1)), (2, .inl 0), (3, .inl 0)]) (st' := []) rfl ?_
          have g43 : 0 ≤ (H35.1 18 4) ∧ (H35.1 18 4) ≤ 16 := kn (x := kx_18) hI36 rfl 4
          have e44 : (H35.1 18 4) = (H23.1 18 4) := (hq37.1 18 4 rfl (by decide) (by decide)).1
          rw [hQ9]
          exact (q_Reader_readFunction_cut hd hI  hB hX h4 hA _) H35 hI36 hf41 ((H23.1 18 4) - 1) (0 : Int) (0 : Int) (by omega) (by decide) (by decide) (by omega) (by omega) (by omega) (by omega) (by first | (exfalso; omega) | exact Or.elim hx39 (fun e => Or.inl ⟨by omega, by omega, e.2.imp (fun X4 g => ⟨g.1, g.2.1, g.2.2, (by have h9 := (g.2.1.2.1.2.2.2.1 (X 0 5).toNat (by have := g.2.1.2.1.1.2.2.1; omega)).2.2.1; have h8 := hR3.2.1.2.2.2.1 (X 0 5).toNat (by have := hR3.2.1.1.2.2.1; omega); have h7 := h8.2.2.1; have h6 : (adv (xfun (adv X) (tn Y (xi (adv X))))) 8 (X 0 5).toNat = 0 := (by rw [show (adv (xfun (adv X) (tn Y (xi (adv X))))) 8 = xfun (adv X) (tn Y (xi (adv X))) 8 from xu_ne _ _ _ (by decide), (xfun_s _ _).2.2.2.2, adv_0 _ (by decide), up_eq]); have h5 := hp38.2 21 (X 0 5).toNat (by simp); omega)⟩)⟩) (fun e => Or.inr ⟨by omega, e.2⟩)) (NE_tr hN3 (NE_fwo hp38 (by simp))) (Nat.lt_succ_self _)
        · refine k_run 0 (pc' := 62) (l' := [(0, .inr (.inr 361)), (1, .inl ((H23.1 18 4) - 1))]) (st' := []) rfl ?_
          refine k_run 5 (pc' := 70) (l' := [(0, .inr (.inr 361)), (1, .inl ((H23.1 18 4) - 1)), (2, .inl 1), (3, .inl 0)]) (st' := []) rfl ?_
          have g45 : 0 ≤ (H35.1 18 4) ∧ (H35.1 18 4) ≤ 16 := kn (x := kx_18) hI36 rfl 4
          have e46 : (H35.1 18 4) = (H23.1 18 4) := (hq37.1 18 4 rfl (by decide) (by decide)).1
          rw [hQ9]
          exact (q_Reader_readFunction_cut hd hI  hB hX h4 hA _) H35 hI36 hf41 ((H23.1 18 4) - 1) (1 : Int) (0 : Int) (by omega) (by decide) (by decide) (by omega) (by omega) (by omega) (by omega) (by first | (exfalso; omega) | exact Or.elim hx39 (fun e => Or.inl ⟨by omega, by omega, e.2.imp (fun X4 g => ⟨g.1, g.2.1, g.2.2, (by have h9 := (g.2.1.2.1.2.2.2.1 (X 0 5).toNat (by have := g.2.1.2.1.1.2.2.1; omega)).2.2.1; have h8 := hR3.2.1.2.2.2.1 (X 0 5).toNat (by have := hR3.2.1.1.2.2.1; omega); have h7 := h8.2.2.1; have h6 : (adv (xfun (adv X) (tn Y (xi (adv X))))) 8 (X 0 5).toNat = 0 := (by rw [show (adv (xfun (adv X) (tn Y (xi (adv X))))) 8 = xfun (adv X) (tn Y (xi (adv X))) 8 from xu_ne _ _ _ (by decide), (xfun_s _ _).2.2.2.2, adv_0 _ (by decide), up_eq]); have h5 := hp38.2 21 (X 0 5).toNat (by simp); omega)⟩)⟩) (fun e => Or.inr ⟨by omega, e.2⟩)) (NE_tr hN3 (NE_fwo hp38 (by simp))) (Nat.lt_succ_self _)
    · refine k_run 0 (pc' := 35) (l' := [(0, .inr (.inr 361))]) (st' := []) rfl ?_
      refine k_run 1 (pc' := 36) (l' := [(0, .inr (.inr 361))]) (st' := [.inl 0]) rfl ?_
      refine h_retz (x := 0) rfl rfl (by decide) ?_
      rw [hQ9]
      rw [htk2] at hx27
      exact ⟨_, rfl, (by omega), hI24, hf29, (by first | (exfalso; omega) | exact ⟨Or.elim hx27 (fun e => absurd e.1 (by omega)) (fun e => Or.inr ⟨rfl, FB_mk hR2 hp26 nT345 (rch_st hX2 (by show (if tk Y (xi (xfun (adv X) (tn Y (xi (adv X))))) = 58 then _ else _) = _; rw [if_neg e.2.1]; rfl)) e.2.2.2.1 e.2.2.2.2⟩), NE_tr (NE_tr (NE_w (e := 0) hw10 (sc_no (by omega))) (NE_fwo hp14 (by simp))) (NE_fwo hp26 (by simp))⟩)⟩
