/-! the class's reader: patterns, as the machine reads them -/
theorem PP_adv {X : rx} {s0 : Int} (h : PP s0 X) : PP s0 (adv X) := by
  have e0 : ∀ j, j ≠ 0 → adv X 0 j = X 0 j := fun j hj => xu_0 _ _ (fun q => hj q.2)
  unfold PP at h ⊢
  rw [e0 8 (by decide), e0 1 (by decide), e0 2 (by decide), show adv X 13 = X 13 from xu_ne _ _ _ (by decide)]
  exact h
theorem PP_put {X : rx} {s s0 : Int} (h : PP s0 X) : PP s0 (xput X s) := by
  have q9 := (xput_s X s).1
  have q8 := xput_0 X s (j := 1) (by decide) (by decide)
  have q7 := xput_0 X s (j := 8) (by decide) (by decide)
  have q6 : xput X s 13 0 = X 13 0 := by
    unfold PP at h
    rw [(xput_s X s).2.2, up_ne _ _ (by omega)]
  unfold PP at h ⊢
  omega

/-! Program.codeOfConstructor -/
set_option maxRecDepth 100000 in
theorem q_Program_codeOfConstructor {d : Nat} (hd : 2 ≤ d) {H : hp} (hI : Inv H) {a : Int} (ha : -2147483648 ≤ a ∧ a ≤ 2147483647) (hp0 : 0 ≤ a ∧ a < H.1 13 4) : hG (zs zK) d mt_38 0 (zargs 0 [.inr (.inr 7), .inl a]) [] H (fun r9 H9 => ∃ z : Int, r9 = some (.inl z) ∧ ((-2147483648 ≤ z ∧ z ≤ 2147483647)) ∧ (z = kco 1 a (H.1 16 a.toNat)) ∧ H = H9) := by
  refine k_run 0 (pc' := 0) (l' := [(0, .inr (.inr 7)), (1, .inl a)]) (st' := []) rfl ?_
  refine k_run 3 (pc' := 3) (l' := [(0, .inr (.inr 7)), (1, .inl a)]) (st' := [.inl a, .inl a, .inl 1]) rfl ?_
  refine h_zlt (off := 26) (t := 29) rfl rfl (by omega) (fun c1 => ?_) (fun c1 => ?_)
  · refine k_run 0 (pc' := 29) (l' := [(0, .inr (.inr 7)), (1, .inl a)]) (st' := [.inl a, .inl 1]) rfl ?_
    refine k_run 1 (pc' := 30) (l' := [(0, .inr (.inr 7)), (1, .inl a)]) (st' := [.inl 0, .inl a, .inl 1]) rfl ?_
    refine h_cs (i := 62) (j := 48) (M' := mt_48) (xs := [.inl 0, .inl a, .inl 1]) (rest := []) rfl rfl rfl rfl rfl (Nat.le_of_ble_eq_true rfl) (Nat.le_of_ble_eq_true rfl) (by omega) (q_Term_codeOf (by omega)  (by decide) (by omega) (by decide)) ?_
    rintro _ _ ⟨z8, rfl, g2, hx7, rfl⟩
    refine k_run 0 (pc' := 33) (l' := [(0, .inr (.inr 7)), (1, .inl a)]) (st' := [.inl z8]) rfl ?_
    refine h_reti (x := z8) rfl rfl ?_
    exact ⟨_, rfl, (by omega), (by first | exact hx7 | (exfalso; omega)), rfl⟩
  · refine k_run 0 (pc' := 6) (l' := [(0, .inr (.inr 7)), (1, .inl a)]) (st' := [.inl a, .inl 1]) rfl ?_
    refine k_run 4 (pc' := 14) (l' := [(0, .inr (.inr 7)), (1, .inl a)]) (st' := [.inl (H.1 13 4), .inl a, .inl a, .inl 1]) rfl ?_
    have g9 : 0 ≤ (H.1 13 4) ∧ (H.1 13 4) ≤ 16 := kn (x := kx_13) hI rfl 4
    refine h_ige (off := 15) (t := 29) rfl rfl (by omega) (by omega) (fun c10 => ?_) (fun c10 => ?_)
    · refine k_run 0 (pc' := 29) (l' := [(0, .inr (.inr 7)), (1, .inl a)]) (st' := [.inl a, .inl 1]) rfl ?_
      refine k_run 1 (pc' := 30) (l' := [(0, .inr (.inr 7)), (1, .inl a)]) (st' := [.inl 0, .inl a, .inl 1]) rfl ?_
      refine h_cs (i := 62) (j := 48) (M' := mt_48) (xs := [.inl 0, .inl a, .inl 1]) (rest := []) rfl rfl rfl rfl rfl (Nat.le_of_ble_eq_true rfl) (Nat.le_of_ble_eq_true rfl) (by omega) (q_Term_codeOf (by omega)  (by decide) (by omega) (by decide)) ?_
      rintro _ _ ⟨z17, rfl, g11, hx16, rfl⟩
      refine k_run 0 (pc' := 33) (l' := [(0, .inr (.inr 7)), (1, .inl a)]) (st' := [.inl z17]) rfl ?_
      refine h_reti (x := z17) rfl rfl ?_
      exact ⟨_, rfl, (by omega), (by first | exact hx16 | (exfalso; omega)), rfl⟩
    · refine k_run 0 (pc' := 17) (l' := [(0, .inr (.inr 7)), (1, .inl a)]) (st' := [.inl a, .inl 1]) rfl ?_
      refine k_run 4 (pc' := 25) (l' := [(0, .inr (.inr 7)), (1, .inl a)]) (st' := [.inl a, .inr (.inr 16), .inl a, .inl 1]) rfl ?_
      refine k_ild (c := 16) (j := (a).toNat) (i := a) (x := kx_16) rfl rfl (by decide) rfl (by decide) (by omega) (by omega) ?_
      have g18 : 0 ≤ (H.1 16 (a).toNat) ∧ (H.1 16 (a).toNat) ≤ 4 := kn (x := kx_16) hI rfl (a).toNat
      refine k_run 0 (pc' := 26) (l' := [(0, .inr (.inr 7)), (1, .inl a)]) (st' := [.inl (H.1 16 (a).toNat), .inl a, .inl 1]) rfl ?_
      refine k_run 1 (pc' := 30) (l' := [(0, .inr (.inr 7)), (1, .inl a)]) (st' := [.inl (H.1 16 (a).toNat), .inl a, .inl 1]) rfl ?_
      refine h_cs (i := 62) (j := 48) (M' := mt_48) (xs := [.inl (H.1 16 (a).toNat), .inl a, .inl 1]) (rest := []) rfl rfl rfl rfl rfl (Nat.le_of_ble_eq_true rfl) (Nat.le_of_ble_eq_true rfl) (by omega) (q_Term_codeOf (by omega)  (by decide) (by omega) (by omega)) ?_
      rintro _ _ ⟨z25, rfl, g19, hx24, rfl⟩
      refine k_run 0 (pc' := 33) (l' := [(0, .inr (.inr 7)), (1, .inl a)]) (st' := [.inl z25]) rfl ?_
      refine h_reti (x := z25) rfl rfl ?_
      exact ⟨_, rfl, (by omega), (by first | exact hx24 | (exfalso; omega)), rfl⟩

def RPf (m : Nat) : Prop := ∀ {Y : yx} {q : Nat} {c0 : cf} {K : List tq} {X : rx} {s0 : Int} {d : Nat} (_ : 2 * m + 10 ≤ d) {H : hp} (_ : Inv H) {a b : Int} (_ : -2147483648 ≤ a ∧ a ≤ 2147483647) (_ : -2147483648 ≤ b ∧ b ≤ 2147483647) (_ : -2 ≤ a ∧ a ≤ 100 ∧ 0 ≤ b ∧ b ≤ 10 ∧ 10 ≤ b + (m : Int)) (_ : RT Y q H X) (_ : rch Y c0 ((4, a, b, 0) :: K, X)) (_ : PP s0 X), hG (zs zK) d mt_70 0 (zargs 0 [.inr (.inr 361), .inl a, .inl b]) [] H (fun r9 H9 => ∃ z : Int, r9 = some (.inl z) ∧ ((0 ≤ z ∧ z ≤ 1)) ∧ Inv H9 ∧ fq [(361, 3), (361, 4), (361, 5), (361, 9)] [362] true H H9 ∧ ((OT Y q c0 K (PP s0) z H9) ∧ NL H H9))

/-! Reader.readPatternConstructor -/
set_option maxRecDepth 100000 in
theorem q_readPC_0_cut {Y : yx} {q : Nat} {c0 : cf} {K : List tq} {X : rx} {s0 : Int} {d : Nat} (hd : 3 ≤ d) {H : hp} (hI : Inv H) {a : Int} {b : Int} (ha : -2147483648 ≤ a ∧ a ≤ 2147483647) (hb : -2147483648 ≤ b ∧ b ≤ 2147483647) (hp0 : -2 ≤ a ∧ a ≤ 100 ∧ 0 ≤ b ∧ b ≤ 10) (hR : RT Y q H X) (hX : rch Y c0 (stPcon Y a b 0 (cfd Y X) K X)) (h3 : tk Y (xi X) = 3) (hP : PP s0 X) : ∀ w : Nat, (∀ (H1 : hp), Inv H1 → fq [(361, 3), (361, 4), (361, 5), (361, 9)] [362] true H H1 → ∀ (x4 : Int) (x5 : Int) (x6 : Int) (x7 : Int) , (-2147483648 ≤ x4 ∧ x4 ≤ 2147483647) → (-2147483648 ≤ x5 ∧ x5 ≤ 2147483647) → (-2147483648 ≤ x6 ∧ x6 ≤ 2147483647) → (-2147483648 ≤ x7 ∧ x7 ≤ 2147483647) → (x4 = cfd Y X ∧ 0 ≤ x4 ∧ x4 < H.1 13 4) → (x5 = H.1 16 x4.toNat) → (0 ≤ x7) → (x5 ≤ 4) → (0 ≤ x6 ∧ x6 ≤ 1) → ((x6 = 1 ∧ x7 ≤ x5 ∧ ∃ X1 : rx, rch Y c0 ((5, (1 + x4), x7, b) :: K, X1) ∧ RT Y q H1 X1 ∧ PP s0 X1) ∨ (x6 = 0 ∧ FB Y c0 H1)) → (NL H H1) → (x5 ≤ 0) → (((100 - x7).toNat) < w) → hG (zs zK) d mt_72 98 [(0, .inr (.inr 361)), (1, .inl a), (2, .inl b), (3, .inl 0), (4, .inl x4), (5, .inl x5), (6, .inl x6), (7, .inl x7)] [] H1 (fun r9 H9 => ∃ z : Int, r9 = some (.inl z) ∧ ((0 ≤ z ∧ z ≤ 1)) ∧ Inv H9 ∧ fq [(361, 3), (361, 4), (361, 5), (361, 9)] [362] true H H9 ∧ ((OT Y q c0 K (PP s0) z H9) ∧ NL H H9))) := by
  intro w
  induction w with
  | zero => exact fun _ _ _ _ _ _ _ _ _ _ _ _ _ _ _ _ _ _ _ h => absurd h (Nat.not_lt_zero _)
  | succ w ih =>
    intro H1 hI1 hf1 x4 x5 x6 x7 hx4 hx5 hx6 hx7 hi0 hi1 hi2 hi3 hi4 hi5 hi6 hi7 hw
    obtain ⟨Q9, hQ9⟩ : ∃ Q9 : Option zv → hp → Prop, Q9 = (fun r9 H9 => ∃ z : Int, r9 = some (.inl z) ∧ ((0 ≤ z ∧ z ≤ 1)) ∧ Inv H9 ∧ fq [(361, 3), (361, 4), (361, 5), (361, 9)] [362] true H H9 ∧ ((OT Y q c0 K (PP s0) z H9) ∧ NL H H9)) := ⟨_, rfl⟩
    rw [← hQ9]
    obtain ⟨hB, hV, hS⟩ := id hR
    have hpa := RB_pa hB
    have htk := RB_tk hB
    obtain ⟨kE, hkE, hEE⟩ := hV.2.1
    have hmo := hV.1
    have hsz := hS.2.1
    have f18 : H1.1 13 4 = H.1 13 4 := (hf1.1 13 4 rfl (by decide) (by decide)).1
    have f21 : H1.1 16 x4.toNat = H.1 16 x4.toNat := (hf1.1 16 _ rfl (by decide) (fun q => by simp at q)).1
    have f13 : 0 ≤ H.1 13 4 ∧ H.1 13 4 ≤ 16 := kn (x := kx_13) hI rfl 4
    refine k_run 1 (pc' := 100) (l' := [(0, .inr (.inr 361)), (1, .inl a), (2, .inl b), (3, .inl 0), (4, .inl x4), (5, .inl x5), (6, .inl x6), (7, .inl x7)]) (st' := [.inl x6]) rfl ?_
    refine h_zeq (off := 37) (t := 137) rfl rfl (by omega) (fun c62 => ?_) (fun c62 => ?_)
    · refine k_run 0 (pc' := 137) (l' := [(0, .inr (.inr 361)), (1, .inl a), (2, .inl b), (3, .inl 0), (4, .inl x4), (5, .inl x5), (6, .inl x6), (7, .inl x7)]) (st' := []) rfl ?_
      refine k_run 1 (pc' := 139) (l' := [(0, .inr (.inr 361)), (1, .inl a), (2, .inl b), (3, .inl 0), (4, .inl x4), (5, .inl x5), (6, .inl x6), (7, .inl x7)]) (st' := [.inl x6]) rfl ?_
      refine h_retz (x := x6) rfl rfl (by omega) ?_
      rw [hQ9]
      exact ⟨_, rfl, (by omega), hI1, hf1, (by first | (exfalso; omega) | exact ⟨hi5.elim (fun e => Or.inl ⟨e.1, e.2.2.imp (fun X1 g => ⟨rch_st g.1 (by show (if x7 < ar X1 (1 + x4) then _ else _) = _; rw [if_neg (by rw [(RB_c g.2.1.1 (x := x4) (by have := f13.2; omega) (by omega)).1]; omega)]), g.2.1, g.2.2⟩)⟩) (fun e => Or.inr e), hi6⟩)⟩
    · refine k_run 0 (pc' := 103) (l' := [(0, .inr (.inr 361)), (1, .inl a), (2, .inl b), (3, .inl 0), (4, .inl x4), (5, .inl x5), (6, .inl x6), (7, .inl x7)]) (st' := []) rfl ?_
      refine k_run 2 (pc' := 107) (l' := [(0, .inr (.inr 361)), (1, .inl a), (2, .inl b), (3, .inl 0), (4, .inl x4), (5, .inl x5), (6, .inl x6), (7, .inl x7)]) (st' := [.inl x5, .inl x7]) rfl ?_
      refine h_ige (off := 30) (t := 137) rfl rfl (by omega) (by omega) (fun c63 => ?_) (fun c63 => ?_)
      · refine k_run 0 (pc' := 137) (l' := [(0, .inr (.inr 361)), (1, .inl a), (2, .inl b), (3, .inl 0), (4, .inl x4), (5, .inl x5), (6, .inl x6), (7, .inl x7)]) (st' := []) rfl ?_
        refine k_run 1 (pc' := 139) (l' := [(0, .inr (.inr 361)), (1, .inl a), (2, .inl b), (3, .inl 0), (4, .inl x4), (5, .inl x5), (6, .inl x6), (7, .inl x7)]) (st' := [.inl x6]) rfl ?_
        refine h_retz (x := x6) rfl rfl (by omega) ?_
        rw [hQ9]
        exact ⟨_, rfl, (by omega), hI1, hf1, (by first | (exfalso; omega) | exact ⟨hi5.elim (fun e => Or.inl ⟨e.1, e.2.2.imp (fun X1 g => ⟨rch_st g.1 (by show (if x7 < ar X1 (1 + x4) then _ else _) = _; rw [if_neg (by rw [(RB_c g.2.1.1 (x := x4) (by have := f13.2; omega) (by omega)).1]; omega)]), g.2.1, g.2.2⟩)⟩) (fun e => Or.inr e), hi6⟩)⟩
      · refine k_run 0 (pc' := 110) (l' := [(0, .inr (.inr 361)), (1, .inl a), (2, .inl b), (3, .inl 0), (4, .inl x4), (5, .inl x5), (6, .inl x6), (7, .inl x7)]) (st' := []) rfl ?_
        exfalso
        omega
set_option maxRecDepth 100000 in
theorem q_readPC_0 {Y : yx} {q : Nat} {c0 : cf} {K : List tq} {X : rx} {s0 : Int} {d : Nat} (hd : 3 ≤ d) {H : hp} (hI : Inv H) {a : Int} {b : Int} (ha : -2147483648 ≤ a ∧ a ≤ 2147483647) (hb : -2147483648 ≤ b ∧ b ≤ 2147483647) (hp0 : -2 ≤ a ∧ a ≤ 100 ∧ 0 ≤ b ∧ b ≤ 10) (hR : RT Y q H X) (hX : rch Y c0 (stPcon Y a b 0 (cfd Y X) K X)) (h3 : tk Y (xi X) = 3) (hP : PP s0 X) : hG (zs zK) d mt_72 0 (zargs 0 [.inr (.inr 361), .inl a, .inl b, .inl 0]) [] H (fun r9 H9 => ∃ z : Int, r9 = some (.inl z) ∧ ((0 ≤ z ∧ z ≤ 1)) ∧ Inv H9 ∧ fq [(361, 3), (361, 4), (361, 5), (361, 9)] [362] true H H9 ∧ ((OT Y q c0 K (PP s0) z H9) ∧ NL H H9)) := by
  obtain ⟨hB, hV, hS⟩ := id hR
  have hpa := RB_pa hB
  have htk := RB_tk hB
  obtain ⟨kE, hkE, hEE⟩ := hV.2.1
  have hmo := hV.1
  have hsz := hS.2.1
  obtain ⟨Q9, hQ9⟩ : ∃ Q9 : Option zv → hp → Prop, Q9 = (fun r9 H9 => ∃ z : Int, r9 = some (.inl z) ∧ ((0 ≤ z ∧ z ≤ 1)) ∧ Inv H9 ∧ fq [(361, 3), (361, 4), (361, 5), (361, 9)] [362] true H H9 ∧ ((OT Y q c0 K (PP s0) z H9) ∧ NL H H9)) := ⟨_, rfl⟩
  rw [← hQ9]
  refine k_run 0 (pc' := 0) (l' := [(0, .inr (.inr 361)), (1, .inl a), (2, .inl b), (3, .inl 0)]) (st' := []) rfl ?_
  refine k_run 4 (pc' := 8) (l' := [(0, .inr (.inr 361)), (1, .inl a), (2, .inl b), (3, .inl 0)]) (st' := [.inr (.inr 361), .inr (.inr 13)]) rfl ?_
  have g1 : -2147483648 ≤ (H.1 361 3) ∧ (H.1 361 3) ≤ 2147483647 := kn (x := kx_361) hI rfl 3
  have g2 : 0 ≤ (H.1 2 5) ∧ (H.1 2 5) ≤ 1001 := kn (x := kx_2) hI rfl 5
  refine h_cv (i := 120) (j := 84) (b := 361) (M' := mt_84) (xs := []) (rest := [.inr (.inr 13)]) rfl rfl rfl rfl (zs_K (x := kx_361) rfl (by decide)) rfl (Nat.le_of_ble_eq_true rfl) (Nat.le_of_ble_eq_true rfl) (by omega) (q_Reader_name (by omega) hI (by omega)) ?_
  rintro _ _ ⟨z9, rfl, g3, hx8, rfl⟩
  refine k_run 0 (pc' := 11) (l' := [(0, .inr (.inr 361)), (1, .inl a), (2, .inl b), (3, .inl 0)]) (st' := [.inr (.inl z9), .inr (.inr 13)]) rfl ?_
  have g10 : 0 ≤ (H.1 13 4) ∧ (H.1 13 4) ≤ 16 := kn (x := kx_13) hI rfl 4
  refine h_cv (i := 124) (j := 41) (b := 13) (M' := mt_41) (xs := [.inr (.inl z9)]) (rest := []) rfl rfl rfl rfl (zs_K (x := kx_13) rfl (by decide)) rfl (Nat.le_of_ble_eq_true rfl) (Nat.le_of_ble_eq_true rfl) (by omega) (q_Symbols_find_13 (by omega) hI (by omega)) ?_
  rintro _ _ ⟨z17, rfl, g11, hx16, rfl⟩
  refine k_run 0 (pc' := 14) (l' := [(0, .inr (.inr 361)), (1, .inl a), (2, .inl b), (3, .inl 0)]) (st' := [.inl z17]) rfl ?_
  refine k_run 1 (pc' := 16) (l' := [(0, .inr (.inr 361)), (1, .inl a), (2, .inl b), (3, .inl 0), (4, .inl z17)]) (st' := []) rfl ?_
  have hcf : z17 = cfd Y X := by rw [hx16, hx8]; exact RB_cf hB (by omega) (by omega)
  have hb9 := cfd_b Y X
  have hcn := hB.2.1.1.2.1
  refine k_run 1 (pc' := 18) (l' := [(0, .inr (.inr 361)), (1, .inl a), (2, .inl b), (3, .inl 0), (4, .inl z17)]) (st' := [.inl z17]) rfl ?_
  refine h_zge (off := 9) (t := 27) rfl rfl (by omega) (fun c18 => ?_) (fun c18 => ?_)
  · refine k_run 0 (pc' := 27) (l' := [(0, .inr (.inr 361)), (1, .inl a), (2, .inl b), (3, .inl 0), (4, .inl z17)]) (st' := []) rfl ?_
    obtain ⟨ha1, ha2, ha3, ha4⟩ := RB_c hB (x := z17) (by omega) (by omega)
    refine k_run 5 (pc' := 39) (l' := [(0, .inr (.inr 361)), (1, .inl a), (2, .inl b), (3, .inl 0), (4, .inl z17)]) (st' := [.inl z17, .inr (.inr 16)]) rfl ?_
    refine k_ild (c := 16) (j := (z17).toNat) (i := z17) (x := kx_16) rfl rfl (by decide) rfl (by decide) (by omega) (by omega) ?_
    have g19 : 0 ≤ (H.1 16 (z17).toNat) ∧ (H.1 16 (z17).toNat) ≤ 4 := kn (x := kx_16) hI rfl (z17).toNat
    refine k_run 0 (pc' := 40) (l' := [(0, .inr (.inr 361)), (1, .inl a), (2, .inl b), (3, .inl 0), (4, .inl z17)]) (st' := [.inl (H.1 16 (z17).toNat)]) rfl ?_
    refine k_run 2 (pc' := 44) (l' := [(0, .inr (.inr 361)), (1, .inl a), (2, .inl b), (3, .inl 0), (4, .inl z17), (5, .inl (H.1 16 (z17).toNat))]) (st' := [.inl (H.1 16 (z17).toNat)]) rfl ?_
    refine h_zle (off := 13) (t := 57) rfl rfl (by omega) (fun c20 => ?_) (fun c20 => ?_)
    · refine k_run 0 (pc' := 57) (l' := [(0, .inr (.inr 361)), (1, .inl a), (2, .inl b), (3, .inl 0), (4, .inl z17), (5, .inl (H.1 16 (z17).toNat))]) (st' := []) rfl ?_
      refine k_run 5 (pc' := 69) (l' := [(0, .inr (.inr 361)), (1, .inl a), (2, .inl b), (3, .inl 0), (4, .inl z17), (5, .inl (H.1 16 (z17).toNat))]) (st' := [.inl z17, .inr (.inr 15)]) rfl ?_
      refine k_ild (c := 15) (j := (z17).toNat) (i := z17) (x := kx_15) rfl rfl (by decide) rfl (by decide) (by omega) (by omega) ?_
      have g21 : -2 ≤ (H.1 15 (z17).toNat) ∧ (H.1 15 (z17).toNat) ≤ 100 := kn (x := kx_15) hI rfl (z17).toNat
      refine k_run 0 (pc' := 70) (l' := [(0, .inr (.inr 361)), (1, .inl a), (2, .inl b), (3, .inl 0), (4, .inl z17), (5, .inl (H.1 16 (z17).toNat))]) (st' := [.inl (H.1 15 (z17).toNat)]) rfl ?_
      refine k_run 1 (pc' := 71) (l' := [(0, .inr (.inr 361)), (1, .inl a), (2, .inl b), (3, .inl 0), (4, .inl z17), (5, .inl (H.1 16 (z17).toNat))]) (st' := [.inl a, .inl (H.1 15 (z17).toNat)]) rfl ?_
      refine h_ieq (off := 9) (t := 80) rfl rfl (by omega) (by omega) (fun c22 => ?_) (fun c22 => ?_)
      · refine k_run 0 (pc' := 80) (l' := [(0, .inr (.inr 361)), (1, .inl a), (2, .inl b), (3, .inl 0), (4, .inl z17), (5, .inl (H.1 16 (z17).toNat))]) (st' := []) rfl ?_
        refine k_run 4 (pc' := 87) (l' := [(0, .inr (.inr 361)), (1, .inl a), (2, .inl b), (3, .inl 0), (4, .inl z17), (5, .inl (H.1 16 (z17).toNat))]) (st' := [.inl z17, .inr (.inr 7), .inr (.inr 361)]) rfl ?_
        refine h_cv (i := 209) (j := 38) (b := 7) (M' := mt_38) (xs := [.inl z17]) (rest := [.inr (.inr 361)]) rfl rfl rfl rfl (zs_K (x := kx_7) rfl (by decide)) rfl (Nat.le_of_ble_eq_true rfl) (Nat.le_of_ble_eq_true rfl) (by omega) (q_Program_codeOfConstructor (by omega) hI (by omega) (by omega)) ?_
        rintro _ _ ⟨z29, rfl, g23, hx28, rfl⟩
        refine k_run 0 (pc' := 90) (l' := [(0, .inr (.inr 361)), (1, .inl a), (2, .inl b), (3, .inl 0), (4, .inl z17), (5, .inl (H.1 16 (z17).toNat))]) (st' := [.inl z29, .inr (.inr 361)]) rfl ?_
        refine h_cv (i := 157) (j := 77) (b := 361) (M' := mt_77) (xs := [.inl z29]) (rest := []) rfl rfl rfl rfl (zs_K (x := kx_361) rfl (by decide)) rfl (Nat.le_of_ble_eq_true rfl) (Nat.le_of_ble_eq_true rfl) (by omega) (q_Reader_addName (by omega) hI (by omega) (by omega) (RT_TQ hR)) ?_
        rintro _ H31 ⟨z36, rfl, g30, hI32, hq33, hp34, hx35⟩
        have hf37 : fq [(361, 3), (361, 4), (361, 5), (361, 9)] [362] true H H31 := fq_t (fq_rf _ _ _ _) hq33 rfl rfl rfl
        refine k_run 0 (pc' := 93) (l' := [(0, .inr (.inr 361)), (1, .inl a), (2, .inl b), (3, .inl 0), (4, .inl z17), (5, .inl (H.1 16 (z17).toNat))]) (st' := [.inl z36]) rfl ?_
        refine k_run 3 (pc' := 98) (l' := [(0, .inr (.inr 361)), (1, .inl a), (2, .inl b), (3, .inl 0), (4, .inl z17), (5, .inl (H.1 16 (z17).toNat)), (6, .inl z36), (7, .inl 0)]) (st' := []) rfl ?_
        rw [hQ9]
        exact (q_readPC_0_cut hd hI ha hb hp0 hR hX h3 hP _) H31 hI32 hf37 z17 (H.1 16 (z17).toNat) z36 (0 : Int) (by omega) (by omega) (by omega) (by decide) (by omega) (by omega) (by omega) (by omega) (by omega) (hx35.elim (fun e => Or.inl ⟨e.1, by omega, xput X (1 + z17), (by have q9 := hX; rw [← hcf] at q9; unfold stPcon at q9; (repeat (first | rw [if_pos (by omega)] at q9 | rw [if_neg (by omega)] at q9)); exact q9), RT_put hR hp34 (e.2.2.1.trans (hx28.trans (by rw [← ha2]; exact (kcd_c X ⟨by omega, by omega⟩).symm))) e.2.2.2.1 e.2.2.2.2 (by omega) (RB_lt hB (by omega) (by omega)), PP_put hP⟩) (fun e => Or.inr ⟨e.1, FB_mk hB e.2.2.1 nF45 (by have q9 := hX; rw [← hcf] at q9; unfold stPcon at q9; (repeat (first | rw [if_pos (by omega)] at q9 | rw [if_neg (by omega)] at q9)); exact q9) e.2.2.2.1 e.2.2.2.2⟩)) (NL_fw hp34 (nX_put (by first | exact RT_TQ hR1 | exact RT_TQ hR2 | exact RT_TQ hR3 | exact RT_TQ hR))) (by omega) (Nat.lt_succ_self _)
      · refine k_run 0 (pc' := 74) (l' := [(0, .inr (.inr 361)), (1, .inl a), (2, .inl b), (3, .inl 0), (4, .inl z17), (5, .inl (H.1 16 (z17).toNat))]) (st' := []) rfl ?_
        refine k_run 2 (pc' := 76) (l' := [(0, .inr (.inr 361)), (1, .inl a), (2, .inl b), (3, .inl 0), (4, .inl z17), (5, .inl (H.1 16 (z17).toNat))]) (st' := [.inl 4, .inr (.inr 361)]) rfl ?_
        refine h_cv (i := 128) (j := 86) (b := 361) (M' := mt_86) (xs := [.inl 4]) (rest := []) rfl rfl rfl rfl (zs_K (x := kx_361) rfl (by decide)) rfl (Nat.le_of_ble_eq_true rfl) (Nat.le_of_ble_eq_true rfl) (by omega) (q_Reader_fails (by omega) hI (by decide) (by omega)) ?_
        rintro _ H39 ⟨z44, rfl, g38, hI40, hq41, hp42, hx43⟩
        have hf45 : fq [(361, 3), (361, 4), (361, 5), (361, 9)] [362] true H H39 := fq_t (fq_rf _ _ _ _) hq41 rfl rfl rfl
        refine k_run 0 (pc' := 79) (l' := [(0, .inr (.inr 361)), (1, .inl a), (2, .inl b), (3, .inl 0), (4, .inl z17), (5, .inl (H.1 16 (z17).toNat))]) (st' := [.inl z44]) rfl ?_
        refine h_retz (x := z44) rfl rfl (by omega) ?_
        rw [hQ9]
        exact ⟨_, rfl, (by omega), hI40, hf45, (by first | (exfalso; omega) | exact ⟨(Or.inr ⟨by omega, FB_mk hB hp42 nF45 (by have q9 := hX; rw [← hcf] at q9; unfold stPcon at q9; (repeat (first | rw [if_pos (by omega)] at q9 | rw [if_neg (by omega)] at q9)); exact q9) hx43.1 hx43.2⟩), NL_fw hp42 (nXF45 _)⟩)⟩
    · refine k_run 0 (pc' := 47) (l' := [(0, .inr (.inr 361)), (1, .inl a), (2, .inl b), (3, .inl 0), (4, .inl z17), (5, .inl (H.1 16 (z17).toNat))]) (st' := []) rfl ?_
      refine k_run 1 (pc' := 48) (l' := [(0, .inr (.inr 361)), (1, .inl a), (2, .inl b), (3, .inl 0), (4, .inl z17), (5, .inl (H.1 16 (z17).toNat))]) (st' := [.inl 0]) rfl ?_
      refine h_zne (off := 9) (t := 57) rfl rfl (by decide) (fun c => absurd c (by decide)) (fun _ => ?_)
      refine k_run 0 (pc' := 51) (l' := [(0, .inr (.inr 361)), (1, .inl a), (2, .inl b), (3, .inl 0), (4, .inl z17), (5, .inl (H.1 16 (z17).toNat))]) (st' := []) rfl ?_
      refine k_run 2 (pc' := 53) (l' := [(0, .inr (.inr 361)), (1, .inl a), (2, .inl b), (3, .inl 0), (4, .inl z17), (5, .inl (H.1 16 (z17).toNat))]) (st' := [.inl 2, .inr (.inr 361)]) rfl ?_
      refine h_cv (i := 128) (j := 86) (b := 361) (M' := mt_86) (xs := [.inl 2]) (rest := []) rfl rfl rfl rfl (zs_K (x := kx_361) rfl (by decide)) rfl (Nat.le_of_ble_eq_true rfl) (Nat.le_of_ble_eq_true rfl) (by omega) (q_Reader_fails (by omega) hI (by decide) (by omega)) ?_
      rintro _ H47 ⟨z52, rfl, g46, hI48, hq49, hp50, hx51⟩
      have hf53 : fq [(361, 3), (361, 4), (361, 5), (361, 9)] [362] true H H47 := fq_t (fq_rf _ _ _ _) hq49 rfl rfl rfl
      refine k_run 0 (pc' := 56) (l' := [(0, .inr (.inr 361)), (1, .inl a), (2, .inl b), (3, .inl 0), (4, .inl z17), (5, .inl (H.1 16 (z17).toNat))]) (st' := [.inl z52]) rfl ?_
      refine h_retz (x := z52) rfl rfl (by omega) ?_
      rw [hQ9]
      exact ⟨_, rfl, (by omega), hI48, hf53, (by first | (exfalso; omega) | exact ⟨(Or.inr ⟨by omega, FB_mk hB hp50 nF45 (by have q9 := hX; rw [← hcf] at q9; unfold stPcon at q9; (repeat (first | rw [if_pos (by omega)] at q9 | rw [if_neg (by omega)] at q9)); exact q9) hx51.1 hx51.2⟩), NL_fw hp50 (nXF45 _)⟩)⟩
  · refine k_run 0 (pc' := 21) (l' := [(0, .inr (.inr 361)), (1, .inl a), (2, .inl b), (3, .inl 0), (4, .inl z17)]) (st' := []) rfl ?_
    refine k_run 2 (pc' := 23) (l' := [(0, .inr (.inr 361)), (1, .inl a), (2, .inl b), (3, .inl 0), (4, .inl z17)]) (st' := [.inl 3, .inr (.inr 361)]) rfl ?_
    refine h_cv (i := 128) (j := 86) (b := 361) (M' := mt_86) (xs := [.inl 3]) (rest := []) rfl rfl rfl rfl (zs_K (x := kx_361) rfl (by decide)) rfl (Nat.le_of_ble_eq_true rfl) (Nat.le_of_ble_eq_true rfl) (by omega) (q_Reader_fails (by omega) hI (by decide) (by omega)) ?_
    rintro _ H55 ⟨z60, rfl, g54, hI56, hq57, hp58, hx59⟩
    have hf61 : fq [(361, 3), (361, 4), (361, 5), (361, 9)] [362] true H H55 := fq_t (fq_rf _ _ _ _) hq57 rfl rfl rfl
    refine k_run 0 (pc' := 26) (l' := [(0, .inr (.inr 361)), (1, .inl a), (2, .inl b), (3, .inl 0), (4, .inl z17)]) (st' := [.inl z60]) rfl ?_
    refine h_retz (x := z60) rfl rfl (by omega) ?_
    rw [hQ9]
    exact ⟨_, rfl, (by omega), hI56, hf61, (by first | (exfalso; omega) | exact ⟨(Or.inr ⟨by omega, FB_mk hB hp58 nF45 (by have q9 := hX; rw [← hcf] at q9; unfold stPcon at q9; (repeat (first | rw [if_pos (by omega)] at q9 | rw [if_neg (by omega)] at q9)); exact q9) hx59.1 hx59.2⟩), NL_fw hp58 (nXF45 _)⟩)⟩

/-! Reader.readPatternConstructor -/
set_option maxRecDepth 100000 in
theorem q_readPC_1_cut {Y : yx} {q : Nat} {c0 : cf} {K : List tq} {X : rx} {s0 : Int} {m : Nat} {d : Nat} (hd : 2 * m + 11 ≤ d) {H : hp} (hI : Inv H) {a : Int} {b : Int} (ha : -2147483648 ≤ a ∧ a ≤ 2147483647) (hb : -2147483648 ≤ b ∧ b ≤ 2147483647) (hp0 : -2 ≤ a ∧ a ≤ 100 ∧ 0 ≤ b ∧ b ≤ 10 ∧ 10 ≤ b + (m : Int)) (hR : RT Y q H X) (hX : rch Y c0 (stPcon Y a b 1 (cfd Y X) K X)) (h3 : tk Y (xi X) = 3) (hP : PP s0 X) (hRf : ∀ m1, m1 ≤ m → RPf m1) : ∀ w : Nat, (∀ (H1 : hp), Inv H1 → fq [(361, 3), (361, 4), (361, 5), (361, 9)] [362] true H H1 → ∀ (x4 : Int) (x5 : Int) (x6 : Int) (x7 : Int) , (-2147483648 ≤ x4 ∧ x4 ≤ 2147483647) → (-2147483648 ≤ x5 ∧ x5 ≤ 2147483647) → (-2147483648 ≤ x6 ∧ x6 ≤ 2147483647) → (-2147483648 ≤ x7 ∧ x7 ≤ 2147483647) → (x4 = cfd Y X ∧ 0 ≤ x4 ∧ x4 < H.1 13 4) → (x5 = H.1 16 x4.toNat) → (0 ≤ x7) → (x5 ≤ 4) → (0 ≤ x6 ∧ x6 ≤ 1) → ((x6 = 1 ∧ x7 ≤ x5 ∧ ∃ X1 : rx, rch Y c0 ((5, (1 + x4), x7, b) :: K, X1) ∧ RT Y q H1 X1 ∧ PP s0 X1) ∨ (x6 = 0 ∧ FB Y c0 H1)) → (NL H H1) → (((100 - x7).toNat) < w) → hG (zs zK) d mt_72 98 [(0, .inr (.inr 361)), (1, .inl a), (2, .inl b), (3, .inl 1), (4, .inl x4), (5, .inl x5), (6, .inl x6), (7, .inl x7)] [] H1 (fun r9 H9 => ∃ z : Int, r9 = some (.inl z) ∧ ((0 ≤ z ∧ z ≤ 1)) ∧ Inv H9 ∧ fq [(361, 3), (361, 4), (361, 5), (361, 9)] [362] true H H9 ∧ ((OT Y q c0 K (PP s0) z H9) ∧ NL H H9))) := by
  intro w
  induction w with
  | zero => exact fun _ _ _ _ _ _ _ _ _ _ _ _ _ _ _ _ _ _ h => absurd h (Nat.not_lt_zero _)
  | succ w ih =>
    intro H1 hI1 hf1 x4 x5 x6 x7 hx4 hx5 hx6 hx7 hi0 hi1 hi2 hi3 hi4 hi5 hi6 hw
    obtain ⟨Q9, hQ9⟩ : ∃ Q9 : Option zv → hp → Prop, Q9 = (fun r9 H9 => ∃ z : Int, r9 = some (.inl z) ∧ ((0 ≤ z ∧ z ≤ 1)) ∧ Inv H9 ∧ fq [(361, 3), (361, 4), (361, 5), (361, 9)] [362] true H H9 ∧ ((OT Y q c0 K (PP s0) z H9) ∧ NL H H9)) := ⟨_, rfl⟩
    rw [← hQ9]
    obtain ⟨hB, hV, hS⟩ := id hR
    have hpa := RB_pa hB
    have htk := RB_tk hB
    obtain ⟨kE, hkE, hEE⟩ := hV.2.1
    have hmo := hV.1
    have hsz := hS.2.1
    have f18 : H1.1 13 4 = H.1 13 4 := (hf1.1 13 4 rfl (by decide) (by decide)).1
    have f21 : H1.1 16 x4.toNat = H.1 16 x4.toNat := (hf1.1 16 _ rfl (by decide) (fun q => by simp at q)).1
    have f13 : 0 ≤ H.1 13 4 ∧ H.1 13 4 ≤ 16 := kn (x := kx_13) hI rfl 4
    refine k_run 1 (pc' := 100) (l' := [(0, .inr (.inr 361)), (1, .inl a), (2, .inl b), (3, .inl 1), (4, .inl x4), (5, .inl x5), (6, .inl x6), (7, .inl x7)]) (st' := [.inl x6]) rfl ?_
    refine h_zeq (off := 37) (t := 137) rfl rfl (by omega) (fun c79 => ?_) (fun c79 => ?_)
    · refine k_run 0 (pc' := 137) (l' := [(0, .inr (.inr 361)), (1, .inl a), (2, .inl b), (3, .inl 1), (4, .inl x4), (5, .inl x5), (6, .inl x6), (7, .inl x7)]) (st' := []) rfl ?_
      refine k_run 1 (pc' := 139) (l' := [(0, .inr (.inr 361)), (1, .inl a), (2, .inl b), (3, .inl 1), (4, .inl x4), (5, .inl x5), (6, .inl x6), (7, .inl x7)]) (st' := [.inl x6]) rfl ?_
      refine h_retz (x := x6) rfl rfl (by omega) ?_
      rw [hQ9]
      exact ⟨_, rfl, (by omega), hI1, hf1, (by first | (exfalso; omega) | exact ⟨hi5.elim (fun e => Or.inl ⟨e.1, e.2.2.imp (fun X1 g => ⟨rch_st g.1 (by show (if x7 < ar X1 (1 + x4) then _ else _) = _; rw [if_neg (by rw [(RB_c g.2.1.1 (x := x4) (by have := f13.2; omega) (by omega)).1]; omega)]), g.2.1, g.2.2⟩)⟩) (fun e => Or.inr e), hi6⟩)⟩
    · refine k_run 0 (pc' := 103) (l' := [(0, .inr (.inr 361)), (1, .inl a), (2, .inl b), (3, .inl 1), (4, .inl x4), (5, .inl x5), (6, .inl x6), (7, .inl x7)]) (st' := []) rfl ?_
      refine k_run 2 (pc' := 107) (l' := [(0, .inr (.inr 361)), (1, .inl a), (2, .inl b), (3, .inl 1), (4, .inl x4), (5, .inl x5), (6, .inl x6), (7, .inl x7)]) (st' := [.inl x5, .inl x7]) rfl ?_
      refine h_ige (off := 30) (t := 137) rfl rfl (by omega) (by omega) (fun c80 => ?_) (fun c80 => ?_)
      · refine k_run 0 (pc' := 137) (l' := [(0, .inr (.inr 361)), (1, .inl a), (2, .inl b), (3, .inl 1), (4, .inl x4), (5, .inl x5), (6, .inl x6), (7, .inl x7)]) (st' := []) rfl ?_
        refine k_run 1 (pc' := 139) (l' := [(0, .inr (.inr 361)), (1, .inl a), (2, .inl b), (3, .inl 1), (4, .inl x4), (5, .inl x5), (6, .inl x6), (7, .inl x7)]) (st' := [.inl x6]) rfl ?_
        refine h_retz (x := x6) rfl rfl (by omega) ?_
        rw [hQ9]
        exact ⟨_, rfl, (by omega), hI1, hf1, (by first | (exfalso; omega) | exact ⟨hi5.elim (fun e => Or.inl ⟨e.1, e.2.2.imp (fun X1 g => ⟨rch_st g.1 (by show (if x7 < ar X1 (1 + x4) then _ else _) = _; rw [if_neg (by rw [(RB_c g.2.1.1 (x := x4) (by have := f13.2; omega) (by omega)).1]; omega)]), g.2.1, g.2.2⟩)⟩) (fun e => Or.inr e), hi6⟩)⟩
      · refine k_run 0 (pc' := 110) (l' := [(0, .inr (.inr 361)), (1, .inl a), (2, .inl b), (3, .inl 1), (4, .inl x4), (5, .inl x5), (6, .inl x6), (7, .inl x7)]) (st' := []) rfl ?_
        obtain ⟨k1, k2, X1, k3, k4, k5⟩ := hi5.resolve_right (fun q9 => by have := q9.1; omega)
        have hpa1 := RB_pa k4.1
        obtain ⟨b1, -, -, b4⟩ := RB_c k4.1 (x := x4) (by have := f13.2; omega) (by omega)
        refine k_run 6 (pc' := 122) (l' := [(0, .inr (.inr 361)), (1, .inl a), (2, .inl b), (3, .inl 1), (4, .inl x4), (5, .inl x5), (6, .inl x6), (7, .inl x7)]) (st' := [.inl x7, .inl x4, .inr (.inr 13), .inr (.inr 361)]) rfl ?_
        refine h_cv (i := 160) (j := 45) (b := 13) (M' := mt_45) (xs := [.inl x7, .inl x4]) (rest := [.inr (.inr 361)]) rfl rfl rfl rfl (zs_K (x := kx_13) rfl (by decide)) rfl (Nat.le_of_ble_eq_true rfl) (Nat.le_of_ble_eq_true rfl) (by omega) (q_Symbols_argument_13 (by omega) hI1 (by omega) (by omega) (by omega)) ?_
        rintro _ _ ⟨z87, rfl, g81, hx86, rfl⟩
        refine k_run 0 (pc' := 125) (l' := [(0, .inr (.inr 361)), (1, .inl a), (2, .inl b), (3, .inl 1), (4, .inl x4), (5, .inl x5), (6, .inl x6), (7, .inl x7)]) (st' := [.inl z87, .inr (.inr 361)]) rfl ?_
        have k6 : rch Y c0 ((4, z87, b, 0) :: (5, (1 + x4), x7 + 1, b) :: K, X1) := rch_st k3 (by show (if x7 < ar X1 (1 + x4) then _ else _) = _; rw [if_pos (by omega), b4 x7 (by omega) (by omega), ← hx86])
        refine k_run 1 (pc' := 126) (l' := [(0, .inr (.inr 361)), (1, .inl a), (2, .inl b), (3, .inl 1), (4, .inl x4), (5, .inl x5), (6, .inl x6), (7, .inl x7)]) (st' := [.inl b, .inl z87, .inr (.inr 361)]) rfl ?_
        refine h_cv (i := 164) (j := 70) (b := 361) (M' := mt_70) (xs := [.inl b, .inl z87]) (rest := []) rfl rfl rfl rfl (zs_K (x := kx_361) rfl (by decide)) rfl (Nat.le_of_ble_eq_true rfl) (Nat.le_of_ble_eq_true rfl) (by omega) (hRf m (by omega) (by omega) hI1 (by omega) (by omega) (by omega) k4 k6 k5) ?_
        rintro _ H89 ⟨z94, rfl, g88, hI90, hq91, hx93⟩
        have hf95 : fq [(361, 3), (361, 4), (361, 5), (361, 9)] [362] true H H89 := fq_t hf1 hq91 rfl rfl rfl
        refine k_run 0 (pc' := 129) (l' := [(0, .inr (.inr 361)), (1, .inl a), (2, .inl b), (3, .inl 1), (4, .inl x4), (5, .inl x5), (6, .inl x6), (7, .inl x7)]) (st' := [.inl z94]) rfl ?_
        refine k_run 3 (pc' := 98) (l' := [(0, .inr (.inr 361)), (1, .inl a), (2, .inl b), (3, .inl 1), (4, .inl x4), (5, .inl x5), (6, .inl z94), (7, .inl (x7 + 1))]) (st' := []) rfl ?_
        rw [hQ9]
        exact ih H89 hI90 hf95 x4 x5 z94 (x7 + 1) (by omega) (by omega) (by omega) (by omega) (by omega) (by omega) (by omega) (by omega) (by omega) (Or.elim hx93.1 (fun e => Or.inl ⟨e.1, by omega, e.2⟩) (fun e => Or.inr e)) (NL_tr hi6 hx93.2) (by omega)
set_option maxRecDepth 100000 in
theorem q_readPC_1 {Y : yx} {q : Nat} {c0 : cf} {K : List tq} {X : rx} {s0 : Int} {m : Nat} {d : Nat} (hd : 2 * m + 11 ≤ d) {H : hp} (hI : Inv H) {a : Int} {b : Int} (ha : -2147483648 ≤ a ∧ a ≤ 2147483647) (hb : -2147483648 ≤ b ∧ b ≤ 2147483647) (hp0 : -2 ≤ a ∧ a ≤ 100 ∧ 0 ≤ b ∧ b ≤ 10 ∧ 10 ≤ b + (m : Int)) (hR : RT Y q H X) (hX : rch Y c0 (stPcon Y a b 1 (cfd Y X) K X)) (h3 : tk Y (xi X) = 3) (hP : PP s0 X) (hRf : ∀ m1, m1 ≤ m → RPf m1) : hG (zs zK) d mt_72 0 (zargs 0 [.inr (.inr 361), .inl a, .inl b, .inl 1]) [] H (fun r9 H9 => ∃ z : Int, r9 = some (.inl z) ∧ ((0 ≤ z ∧ z ≤ 1)) ∧ Inv H9 ∧ fq [(361, 3), (361, 4), (361, 5), (361, 9)] [362] true H H9 ∧ ((OT Y q c0 K (PP s0) z H9) ∧ NL H H9)) := by
  obtain ⟨hB, hV, hS⟩ := id hR
  have hpa := RB_pa hB
  have htk := RB_tk hB
  obtain ⟨kE, hkE, hEE⟩ := hV.2.1
  have hmo := hV.1
  have hsz := hS.2.1
  obtain ⟨Q9, hQ9⟩ : ∃ Q9 : Option zv → hp → Prop, Q9 = (fun r9 H9 => ∃ z : Int, r9 = some (.inl z) ∧ ((0 ≤ z ∧ z ≤ 1)) ∧ Inv H9 ∧ fq [(361, 3), (361, 4), (361, 5), (361, 9)] [362] true H H9 ∧ ((OT Y q c0 K (PP s0) z H9) ∧ NL H H9)) := ⟨_, rfl⟩
  rw [← hQ9]
  refine k_run 0 (pc' := 0) (l' := [(0, .inr (.inr 361)), (1, .inl a), (2, .inl b), (3, .inl 1)]) (st' := []) rfl ?_
  refine k_run 4 (pc' := 8) (l' := [(0, .inr (.inr 361)), (1, .inl a), (2, .inl b), (3, .inl 1)]) (st' := [.inr (.inr 361), .inr (.inr 13)]) rfl ?_
  have g1 : -2147483648 ≤ (H.1 361 3) ∧ (H.1 361 3) ≤ 2147483647 := kn (x := kx_361) hI rfl 3
  have g2 : 0 ≤ (H.1 2 5) ∧ (H.1 2 5) ≤ 1001 := kn (x := kx_2) hI rfl 5
  refine h_cv (i := 120) (j := 84) (b := 361) (M' := mt_84) (xs := []) (rest := [.inr (.inr 13)]) rfl rfl rfl rfl (zs_K (x := kx_361) rfl (by decide)) rfl (Nat.le_of_ble_eq_true rfl) (Nat.le_of_ble_eq_true rfl) (by omega) (q_Reader_name (by omega) hI (by omega)) ?_
  rintro _ _ ⟨z9, rfl, g3, hx8, rfl⟩
  refine k_run 0 (pc' := 11) (l' := [(0, .inr (.inr 361)), (1, .inl a), (2, .inl b), (3, .inl 1)]) (st' := [.inr (.inl z9), .inr (.inr 13)]) rfl ?_
  have g10 : 0 ≤ (H.1 13 4) ∧ (H.1 13 4) ≤ 16 := kn (x := kx_13) hI rfl 4
  refine h_cv (i := 124) (j := 41) (b := 13) (M' := mt_41) (xs := [.inr (.inl z9)]) (rest := []) rfl rfl rfl rfl (zs_K (x := kx_13) rfl (by decide)) rfl (Nat.le_of_ble_eq_true rfl) (Nat.le_of_ble_eq_true rfl) (by omega) (q_Symbols_find_13 (by omega) hI (by omega)) ?_
  rintro _ _ ⟨z17, rfl, g11, hx16, rfl⟩
  refine k_run 0 (pc' := 14) (l' := [(0, .inr (.inr 361)), (1, .inl a), (2, .inl b), (3, .inl 1)]) (st' := [.inl z17]) rfl ?_
  refine k_run 1 (pc' := 16) (l' := [(0, .inr (.inr 361)), (1, .inl a), (2, .inl b), (3, .inl 1), (4, .inl z17)]) (st' := []) rfl ?_
  have hcf : z17 = cfd Y X := by rw [hx16, hx8]; exact RB_cf hB (by omega) (by omega)
  have hb9 := cfd_b Y X
  have hcn := hB.2.1.1.2.1
  refine k_run 1 (pc' := 18) (l' := [(0, .inr (.inr 361)), (1, .inl a), (2, .inl b), (3, .inl 1), (4, .inl z17)]) (st' := [.inl z17]) rfl ?_
  refine h_zge (off := 9) (t := 27) rfl rfl (by omega) (fun c18 => ?_) (fun c18 => ?_)
  · refine k_run 0 (pc' := 27) (l' := [(0, .inr (.inr 361)), (1, .inl a), (2, .inl b), (3, .inl 1), (4, .inl z17)]) (st' := []) rfl ?_
    obtain ⟨ha1, ha2, ha3, ha4⟩ := RB_c hB (x := z17) (by omega) (by omega)
    refine k_run 5 (pc' := 39) (l' := [(0, .inr (.inr 361)), (1, .inl a), (2, .inl b), (3, .inl 1), (4, .inl z17)]) (st' := [.inl z17, .inr (.inr 16)]) rfl ?_
    refine k_ild (c := 16) (j := (z17).toNat) (i := z17) (x := kx_16) rfl rfl (by decide) rfl (by decide) (by omega) (by omega) ?_
    have g19 : 0 ≤ (H.1 16 (z17).toNat) ∧ (H.1 16 (z17).toNat) ≤ 4 := kn (x := kx_16) hI rfl (z17).toNat
    refine k_run 0 (pc' := 40) (l' := [(0, .inr (.inr 361)), (1, .inl a), (2, .inl b), (3, .inl 1), (4, .inl z17)]) (st' := [.inl (H.1 16 (z17).toNat)]) rfl ?_
    refine k_run 2 (pc' := 44) (l' := [(0, .inr (.inr 361)), (1, .inl a), (2, .inl b), (3, .inl 1), (4, .inl z17), (5, .inl (H.1 16 (z17).toNat))]) (st' := [.inl (H.1 16 (z17).toNat)]) rfl ?_
    refine h_zle (off := 13) (t := 57) rfl rfl (by omega) (fun c20 => ?_) (fun c20 => ?_)
    · refine k_run 0 (pc' := 57) (l' := [(0, .inr (.inr 361)), (1, .inl a), (2, .inl b), (3, .inl 1), (4, .inl z17), (5, .inl (H.1 16 (z17).toNat))]) (st' := []) rfl ?_
      refine k_run 5 (pc' := 69) (l' := [(0, .inr (.inr 361)), (1, .inl a), (2, .inl b), (3, .inl 1), (4, .inl z17), (5, .inl (H.1 16 (z17).toNat))]) (st' := [.inl z17, .inr (.inr 15)]) rfl ?_
      refine k_ild (c := 15) (j := (z17).toNat) (i := z17) (x := kx_15) rfl rfl (by decide) rfl (by decide) (by omega) (by omega) ?_
      have g21 : -2 ≤ (H.1 15 (z17).toNat) ∧ (H.1 15 (z17).toNat) ≤ 100 := kn (x := kx_15) hI rfl (z17).toNat
      refine k_run 0 (pc' := 70) (l' := [(0, .inr (.inr 361)), (1, .inl a), (2, .inl b), (3, .inl 1), (4, .inl z17), (5, .inl (H.1 16 (z17).toNat))]) (st' := [.inl (H.1 15 (z17).toNat)]) rfl ?_
      refine k_run 1 (pc' := 71) (l' := [(0, .inr (.inr 361)), (1, .inl a), (2, .inl b), (3, .inl 1), (4, .inl z17), (5, .inl (H.1 16 (z17).toNat))]) (st' := [.inl a, .inl (H.1 15 (z17).toNat)]) rfl ?_
      refine h_ieq (off := 9) (t := 80) rfl rfl (by omega) (by omega) (fun c22 => ?_) (fun c22 => ?_)
      · refine k_run 0 (pc' := 80) (l' := [(0, .inr (.inr 361)), (1, .inl a), (2, .inl b), (3, .inl 1), (4, .inl z17), (5, .inl (H.1 16 (z17).toNat))]) (st' := []) rfl ?_
        refine k_run 4 (pc' := 87) (l' := [(0, .inr (.inr 361)), (1, .inl a), (2, .inl b), (3, .inl 1), (4, .inl z17), (5, .inl (H.1 16 (z17).toNat))]) (st' := [.inl z17, .inr (.inr 7), .inr (.inr 361)]) rfl ?_
        refine h_cv (i := 209) (j := 38) (b := 7) (M' := mt_38) (xs := [.inl z17]) (rest := [.inr (.inr 361)]) rfl rfl rfl rfl (zs_K (x := kx_7) rfl (by decide)) rfl (Nat.le_of_ble_eq_true rfl) (Nat.le_of_ble_eq_true rfl) (by omega) (q_Program_codeOfConstructor (by omega) hI (by omega) (by omega)) ?_
        rintro _ _ ⟨z29, rfl, g23, hx28, rfl⟩
        refine k_run 0 (pc' := 90) (l' := [(0, .inr (.inr 361)), (1, .inl a), (2, .inl b), (3, .inl 1), (4, .inl z17), (5, .inl (H.1 16 (z17).toNat))]) (st' := [.inl z29, .inr (.inr 361)]) rfl ?_
        refine h_cv (i := 157) (j := 77) (b := 361) (M' := mt_77) (xs := [.inl z29]) (rest := []) rfl rfl rfl rfl (zs_K (x := kx_361) rfl (by decide)) rfl (Nat.le_of_ble_eq_true rfl) (Nat.le_of_ble_eq_true rfl) (by omega) (q_Reader_addName (by omega) hI (by omega) (by omega) (RT_TQ hR)) ?_
        rintro _ H31 ⟨z36, rfl, g30, hI32, hq33, hp34, hx35⟩
        have hf37 : fq [(361, 3), (361, 4), (361, 5), (361, 9)] [362] true H H31 := fq_t (fq_rf _ _ _ _) hq33 rfl rfl rfl
        refine k_run 0 (pc' := 93) (l' := [(0, .inr (.inr 361)), (1, .inl a), (2, .inl b), (3, .inl 1), (4, .inl z17), (5, .inl (H.1 16 (z17).toNat))]) (st' := [.inl z36]) rfl ?_
        refine k_run 3 (pc' := 98) (l' := [(0, .inr (.inr 361)), (1, .inl a), (2, .inl b), (3, .inl 1), (4, .inl z17), (5, .inl (H.1 16 (z17).toNat)), (6, .inl z36), (7, .inl 0)]) (st' := []) rfl ?_
        rw [hQ9]
        exact (q_readPC_1_cut hd hI ha hb hp0 hR hX h3 hP hRf _) H31 hI32 hf37 z17 (H.1 16 (z17).toNat) z36 (0 : Int) (by omega) (by omega) (by omega) (by decide) (by omega) (by omega) (by omega) (by omega) (by omega) (hx35.elim (fun e => Or.inl ⟨e.1, by omega, xput X (1 + z17), (by have q9 := hX; rw [← hcf] at q9; unfold stPcon at q9; (repeat (first | rw [if_pos (by omega)] at q9 | rw [if_neg (by omega)] at q9)); exact q9), RT_put hR hp34 (e.2.2.1.trans (hx28.trans (by rw [← ha2]; exact (kcd_c X ⟨by omega, by omega⟩).symm))) e.2.2.2.1 e.2.2.2.2 (by omega) (RB_lt hB (by omega) (by omega)), PP_put hP⟩) (fun e => Or.inr ⟨e.1, FB_mk hB e.2.2.1 nF45 (by have q9 := hX; rw [← hcf] at q9; unfold stPcon at q9; (repeat (first | rw [if_pos (by omega)] at q9 | rw [if_neg (by omega)] at q9)); exact q9) e.2.2.2.1 e.2.2.2.2⟩)) (NL_fw hp34 (nX_put (by first | exact RT_TQ hR1 | exact RT_TQ hR2 | exact RT_TQ hR3 | exact RT_TQ hR))) (Nat.lt_succ_self _)
      · refine k_run 0 (pc' := 74) (l' := [(0, .inr (.inr 361)), (1, .inl a), (2, .inl b), (3, .inl 1), (4, .inl z17), (5, .inl (H.1 16 (z17).toNat))]) (st' := []) rfl ?_
        refine k_run 2 (pc' := 76) (l' := [(0, .inr (.inr 361)), (1, .inl a), (2, .inl b), (3, .inl 1), (4, .inl z17), (5, .inl (H.1 16 (z17).toNat))]) (st' := [.inl 4, .inr (.inr 361)]) rfl ?_
        refine h_cv (i := 128) (j := 86) (b := 361) (M' := mt_86) (xs := [.inl 4]) (rest := []) rfl rfl rfl rfl (zs_K (x := kx_361) rfl (by decide)) rfl (Nat.le_of_ble_eq_true rfl) (Nat.le_of_ble_eq_true rfl) (by omega) (q_Reader_fails (by omega) hI (by decide) (by omega)) ?_
        rintro _ H39 ⟨z44, rfl, g38, hI40, hq41, hp42, hx43⟩
        have hf45 : fq [(361, 3), (361, 4), (361, 5), (361, 9)] [362] true H H39 := fq_t (fq_rf _ _ _ _) hq41 rfl rfl rfl
        refine k_run 0 (pc' := 79) (l' := [(0, .inr (.inr 361)), (1, .inl a), (2, .inl b), (3, .inl 1), (4, .inl z17), (5, .inl (H.1 16 (z17).toNat))]) (st' := [.inl z44]) rfl ?_
        refine h_retz (x := z44) rfl rfl (by omega) ?_
        rw [hQ9]
        exact ⟨_, rfl, (by omega), hI40, hf45, (by first | (exfalso; omega) | exact ⟨(Or.inr ⟨by omega, FB_mk hB hp42 nF45 (by have q9 := hX; rw [← hcf] at q9; unfold stPcon at q9; (repeat (first | rw [if_pos (by omega)] at q9 | rw [if_neg (by omega)] at q9)); exact q9) hx43.1 hx43.2⟩), NL_fw hp42 (nXF45 _)⟩)⟩
    · refine k_run 0 (pc' := 47) (l' := [(0, .inr (.inr 361)), (1, .inl a), (2, .inl b), (3, .inl 1), (4, .inl z17), (5, .inl (H.1 16 (z17).toNat))]) (st' := []) rfl ?_
      refine k_run 1 (pc' := 48) (l' := [(0, .inr (.inr 361)), (1, .inl a), (2, .inl b), (3, .inl 1), (4, .inl z17), (5, .inl (H.1 16 (z17).toNat))]) (st' := [.inl 1]) rfl ?_
      refine h_zne (off := 9) (t := 57) rfl rfl (by decide) (fun _ => ?_) (fun c => absurd c (by decide))
      refine k_run 0 (pc' := 57) (l' := [(0, .inr (.inr 361)), (1, .inl a), (2, .inl b), (3, .inl 1), (4, .inl z17), (5, .inl (H.1 16 (z17).toNat))]) (st' := []) rfl ?_
      refine k_run 5 (pc' := 69) (l' := [(0, .inr (.inr 361)), (1, .inl a), (2, .inl b), (3, .inl 1), (4, .inl z17), (5, .inl (H.1 16 (z17).toNat))]) (st' := [.inl z17, .inr (.inr 15)]) rfl ?_
      refine k_ild (c := 15) (j := (z17).toNat) (i := z17) (x := kx_15) rfl rfl (by decide) rfl (by decide) (by omega) (by omega) ?_
      have g46 : -2 ≤ (H.1 15 (z17).toNat) ∧ (H.1 15 (z17).toNat) ≤ 100 := kn (x := kx_15) hI rfl (z17).toNat
      refine k_run 0 (pc' := 70) (l' := [(0, .inr (.inr 361)), (1, .inl a), (2, .inl b), (3, .inl 1), (4, .inl z17), (5, .inl (H.1 16 (z17).toNat))]) (st' := [.inl (H.1 15 (z17).toNat)]) rfl ?_
      refine k_run 1 (pc' := 71) (l' := [(0, .inr (.inr 361)), (1, .inl a), (2, .inl b), (3, .inl 1), (4, .inl z17), (5, .inl (H.1 16 (z17).toNat))]) (st' := [.inl a, .inl (H.1 15 (z17).toNat)]) rfl ?_
      refine h_ieq (off := 9) (t := 80) rfl rfl (by omega) (by omega) (fun c47 => ?_) (fun c47 => ?_)
      · refine k_run 0 (pc' := 80) (l' := [(0, .inr (.inr 361)), (1, .inl a), (2, .inl b), (3, .inl 1), (4, .inl z17), (5, .inl (H.1 16 (z17).toNat))]) (st' := []) rfl ?_
        refine k_run 4 (pc' := 87) (l' := [(0, .inr (.inr 361)), (1, .inl a), (2, .inl b), (3, .inl 1), (4, .inl z17), (5, .inl (H.1 16 (z17).toNat))]) (st' := [.inl z17, .inr (.inr 7), .inr (.inr 361)]) rfl ?_
        refine h_cv (i := 209) (j := 38) (b := 7) (M' := mt_38) (xs := [.inl z17]) (rest := [.inr (.inr 361)]) rfl rfl rfl rfl (zs_K (x := kx_7) rfl (by decide)) rfl (Nat.le_of_ble_eq_true rfl) (Nat.le_of_ble_eq_true rfl) (by omega) (q_Program_codeOfConstructor (by omega) hI (by omega) (by omega)) ?_
        rintro _ _ ⟨z54, rfl, g48, hx53, rfl⟩
        refine k_run 0 (pc' := 90) (l' := [(0, .inr (.inr 361)), (1, .inl a), (2, .inl b), (3, .inl 1), (4, .inl z17), (5, .inl (H.1 16 (z17).toNat))]) (st' := [.inl z54, .inr (.inr 361)]) rfl ?_
        refine h_cv (i := 157) (j := 77) (b := 361) (M' := mt_77) (xs := [.inl z54]) (rest := []) rfl rfl rfl rfl (zs_K (x := kx_361) rfl (by decide)) rfl (Nat.le_of_ble_eq_true rfl) (Nat.le_of_ble_eq_true rfl) (by omega) (q_Reader_addName (by omega) hI (by omega) (by omega) (RT_TQ hR)) ?_
        rintro _ H56 ⟨z61, rfl, g55, hI57, hq58, hp59, hx60⟩
        have hf62 : fq [(361, 3), (361, 4), (361, 5), (361, 9)] [362] true H H56 := fq_t (fq_rf _ _ _ _) hq58 rfl rfl rfl
        refine k_run 0 (pc' := 93) (l' := [(0, .inr (.inr 361)), (1, .inl a), (2, .inl b), (3, .inl 1), (4, .inl z17), (5, .inl (H.1 16 (z17).toNat))]) (st' := [.inl z61]) rfl ?_
        refine k_run 3 (pc' := 98) (l' := [(0, .inr (.inr 361)), (1, .inl a), (2, .inl b), (3, .inl 1), (4, .inl z17), (5, .inl (H.1 16 (z17).toNat)), (6, .inl z61), (7, .inl 0)]) (st' := []) rfl ?_
        rw [hQ9]
        exact (q_readPC_1_cut hd hI ha hb hp0 hR hX h3 hP hRf _) H56 hI57 hf62 z17 (H.1 16 (z17).toNat) z61 (0 : Int) (by omega) (by omega) (by omega) (by decide) (by omega) (by omega) (by omega) (by omega) (by omega) (hx60.elim (fun e => Or.inl ⟨e.1, by omega, xput X (1 + z17), (by have q9 := hX; rw [← hcf] at q9; unfold stPcon at q9; (repeat (first | rw [if_pos (by omega)] at q9 | rw [if_neg (by omega)] at q9)); exact q9), RT_put hR hp59 (e.2.2.1.trans (hx53.trans (by rw [← ha2]; exact (kcd_c X ⟨by omega, by omega⟩).symm))) e.2.2.2.1 e.2.2.2.2 (by omega) (RB_lt hB (by omega) (by omega)), PP_put hP⟩) (fun e => Or.inr ⟨e.1, FB_mk hB e.2.2.1 nF45 (by have q9 := hX; rw [← hcf] at q9; unfold stPcon at q9; (repeat (first | rw [if_pos (by omega)] at q9 | rw [if_neg (by omega)] at q9)); exact q9) e.2.2.2.1 e.2.2.2.2⟩)) (NL_fw hp59 (nX_put (by first | exact RT_TQ hR1 | exact RT_TQ hR2 | exact RT_TQ hR3 | exact RT_TQ hR))) (Nat.lt_succ_self _)
      · refine k_run 0 (pc' := 74) (l' := [(0, .inr (.inr 361)), (1, .inl a), (2, .inl b), (3, .inl 1), (4, .inl z17), (5, .inl (H.1 16 (z17).toNat))]) (st' := []) rfl ?_
        refine k_run 2 (pc' := 76) (l' := [(0, .inr (.inr 361)), (1, .inl a), (2, .inl b), (3, .inl 1), (4, .inl z17), (5, .inl (H.1 16 (z17).toNat))]) (st' := [.inl 4, .inr (.inr 361)]) rfl ?_
        refine h_cv (i := 128) (j := 86) (b := 361) (M' := mt_86) (xs := [.inl 4]) (rest := []) rfl rfl rfl rfl (zs_K (x := kx_361) rfl (by decide)) rfl (Nat.le_of_ble_eq_true rfl) (Nat.le_of_ble_eq_true rfl) (by omega) (q_Reader_fails (by omega) hI (by decide) (by omega)) ?_
        rintro _ H64 ⟨z69, rfl, g63, hI65, hq66, hp67, hx68⟩
        have hf70 : fq [(361, 3), (361, 4), (361, 5), (361, 9)] [362] true H H64 := fq_t (fq_rf _ _ _ _) hq66 rfl rfl rfl
        refine k_run 0 (pc' := 79) (l' := [(0, .inr (.inr 361)), (1, .inl a), (2, .inl b), (3, .inl 1), (4, .inl z17), (5, .inl (H.1 16 (z17).toNat))]) (st' := [.inl z69]) rfl ?_
        refine h_retz (x := z69) rfl rfl (by omega) ?_
        rw [hQ9]
        exact ⟨_, rfl, (by omega), hI65, hf70, (by first | (exfalso; omega) | exact ⟨(Or.inr ⟨by omega, FB_mk hB hp67 nF45 (by have q9 := hX; rw [← hcf] at q9; unfold stPcon at q9; (repeat (first | rw [if_pos (by omega)] at q9 | rw [if_neg (by omega)] at q9)); exact q9) hx68.1 hx68.2⟩), NL_fw hp67 (nXF45 _)⟩)⟩
  · refine k_run 0 (pc' := 21) (l' := [(0, .inr (.inr 361)), (1, .inl a), (2, .inl b), (3, .inl 1), (4, .inl z17)]) (st' := []) rfl ?_
    refine k_run 2 (pc' := 23) (l' := [(0, .inr (.inr 361)), (1, .inl a), (2, .inl b), (3, .inl 1), (4, .inl z17)]) (st' := [.inl 3, .inr (.inr 361)]) rfl ?_
    refine h_cv (i := 128) (j := 86) (b := 361) (M' := mt_86) (xs := [.inl 3]) (rest := []) rfl rfl rfl rfl (zs_K (x := kx_361) rfl (by decide)) rfl (Nat.le_of_ble_eq_true rfl) (Nat.le_of_ble_eq_true rfl) (by omega) (q_Reader_fails (by omega) hI (by decide) (by omega)) ?_
    rintro _ H72 ⟨z77, rfl, g71, hI73, hq74, hp75, hx76⟩
    have hf78 : fq [(361, 3), (361, 4), (361, 5), (361, 9)] [362] true H H72 := fq_t (fq_rf _ _ _ _) hq74 rfl rfl rfl
    refine k_run 0 (pc' := 26) (l' := [(0, .inr (.inr 361)), (1, .inl a), (2, .inl b), (3, .inl 1), (4, .inl z17)]) (st' := [.inl z77]) rfl ?_
    refine h_retz (x := z77) rfl rfl (by omega) ?_
    rw [hQ9]
    exact ⟨_, rfl, (by omega), hI73, hf78, (by first | (exfalso; omega) | exact ⟨(Or.inr ⟨by omega, FB_mk hB hp75 nF45 (by have q9 := hX; rw [← hcf] at q9; unfold stPcon at q9; (repeat (first | rw [if_pos (by omega)] at q9 | rw [if_neg (by omega)] at q9)); exact q9) hx76.1 hx76.2⟩), NL_fw hp75 (nXF45 _)⟩)⟩

/-! Reader.readPattern -/
set_option maxRecDepth 100000 in
theorem q_readP {Y : yx} {q : Nat} {c0 : cf} {K : List tq} {X : rx} {s0 : Int} {m : Nat} {d : Nat} (hd : 2 * m + 10 ≤ d) {H : hp} (hI : Inv H) {a : Int} {b : Int} (ha : -2147483648 ≤ a ∧ a ≤ 2147483647) (hb : -2147483648 ≤ b ∧ b ≤ 2147483647) (hp0 : -2 ≤ a ∧ a ≤ 100 ∧ 0 ≤ b ∧ b ≤ 10 ∧ 10 ≤ b + (m : Int)) (hR : RT Y q H X) (hX : rch Y c0 ((4, a, b, 0) :: K, X)) (hP : PP s0 X) (hRf : ∀ m1, m1 < m → RPf m1) : hG (zs zK) d mt_70 0 (zargs 0 [.inr (.inr 361), .inl a, .inl b]) [] H (fun r9 H9 => ∃ z : Int, r9 = some (.inl z) ∧ ((0 ≤ z ∧ z ≤ 1)) ∧ Inv H9 ∧ fq [(361, 3), (361, 4), (361, 5), (361, 9)] [362] true H H9 ∧ ((OT Y q c0 K (PP s0) z H9) ∧ NL H H9)) := by
  obtain ⟨hB, hV, hS⟩ := id hR
  have hpa := RB_pa hB
  have htk := RB_tk hB
  obtain ⟨kE, hkE, hEE⟩ := hV.2.1
  have hmo := hV.1
  have hsz := hS.2.1
  obtain ⟨Q9, hQ9⟩ : ∃ Q9 : Option zv → hp → Prop, Q9 = (fun r9 H9 => ∃ z : Int, r9 = some (.inl z) ∧ ((0 ≤ z ∧ z ≤ 1)) ∧ Inv H9 ∧ fq [(361, 3), (361, 4), (361, 5), (361, 9)] [362] true H H9 ∧ ((OT Y q c0 K (PP s0) z H9) ∧ NL H H9)) := ⟨_, rfl⟩
  rw [← hQ9]
  refine k_run 0 (pc' := 0) (l' := [(0, .inr (.inr 361)), (1, .inl a), (2, .inl b)]) (st' := []) rfl ?_
  refine k_run 1 (pc' := 1) (l' := [(0, .inr (.inr 361)), (1, .inl a), (2, .inl b)]) (st' := [.inr (.inr 361)]) rfl ?_
  have g1 : -2147483648 ≤ (H.1 361 3) ∧ (H.1 361 3) ≤ 2147483647 := kn (x := kx_361) hI rfl 3
  have g2 : 0 ≤ (H.1 2 5) ∧ (H.1 2 5) ≤ 1001 := kn (x := kx_2) hI rfl 5
  refine h_cv (i := 72) (j := 83) (b := 361) (M' := mt_83) (xs := []) (rest := []) rfl rfl rfl rfl (zs_K (x := kx_361) rfl (by decide)) rfl (Nat.le_of_ble_eq_true rfl) (Nat.le_of_ble_eq_true rfl) (by omega) (q_Reader_token (by omega) hI (by omega)) ?_
  rintro _ _ ⟨z9, rfl, g3, hx8, rfl⟩
  refine k_run 0 (pc' := 4) (l' := [(0, .inr (.inr 361)), (1, .inl a), (2, .inl b)]) (st' := [.inl z9]) rfl ?_
  rw [htk] at hx8
  rcases (show (z9 ≠ 2 ∧ z9 ≠ 3 ∧ z9 ≠ 40) ∨ z9 = 2 ∨ z9 = 3 ∨ z9 = 40 by omega) with c10 | c10 | c10 | c10
  · refine k_lsw (t := 116) rfl (by omega) (by decide) (lsw_no (by intro q9 hq9; simp only [List.mem_cons, List.not_mem_nil, or_false] at hq9; rcases hq9 with rfl | rfl | rfl <;> (dsimp only; omega))) rfl ?_
    refine k_run 1 (pc' := 117) (l' := [(0, .inr (.inr 361)), (1, .inl a), (2, .inl b)]) (st' := [.inr (.inr 361)]) rfl ?_
    refine h_cv (i := 89) (j := 85) (b := 361) (M' := mt_85) (xs := []) (rest := []) rfl rfl rfl rfl (zs_K (x := kx_361) rfl (by decide)) rfl (Nat.le_of_ble_eq_true rfl) (Nat.le_of_ble_eq_true rfl) (by omega) (q_Reader_misplaced (by omega) hI (by omega)) ?_
    rintro _ H12 ⟨z17, rfl, g11, hI13, hq14, hp15, hx16⟩
    have hf18 : fq [(361, 3), (361, 4), (361, 5), (361, 9)] [362] true H H12 := fq_t (fq_rf _ _ _ _) hq14 rfl rfl rfl
    refine k_run 0 (pc' := 120) (l' := [(0, .inr (.inr 361)), (1, .inl a), (2, .inl b)]) (st' := [.inl z17]) rfl ?_
    refine h_retz (x := z17) rfl rfl (by omega) ?_
    rw [hQ9]
    exact ⟨_, rfl, (by omega), hI13, hf18, (by first | (exfalso; omega) | exact ⟨(Or.inr ⟨by omega, FB_mk (k := if tk Y (xi X) = 1 then 1 else 2) hB hp15 nF45 (rch_st hX (by show stPat Y a b K X = _; unfold stPat; (repeat (first | rw [if_pos (by omega)] | rw [if_neg (by omega)])); try rfl)) (hx16.1.trans (by rw [htk])) hx16.2⟩), NL_fw hp15 (nXF45 _)⟩)⟩
  · refine k_lsw (t := 40) rfl (by omega) (by decide) (by rw [c10]) rfl ?_
    refine k_run 2 (pc' := 42) (l' := [(0, .inr (.inr 361)), (1, .inl a), (2, .inl b)]) (st' := [.inl a, .inr (.inr 361)]) rfl ?_
    refine h_cv (i := 197) (j := 71) (b := 361) (M' := mt_71) (xs := [.inl a]) (rest := []) rfl rfl rfl rfl (zs_K (x := kx_361) rfl (by decide)) rfl (Nat.le_of_ble_eq_true rfl) (Nat.le_of_ble_eq_true rfl) (by omega) (q_Reader_readPatternVariable (by omega) hI (by omega) (by omega) hR hX (by omega) hP) ?_
    rintro _ H20 ⟨z25, rfl, g19, hI21, hq22, hx24⟩
    have hf26 : fq [(361, 3), (361, 4), (361, 5), (361, 9)] [362] true H H20 := fq_t (fq_rf _ _ _ _) hq22 rfl rfl rfl
    refine k_run 0 (pc' := 45) (l' := [(0, .inr (.inr 361)), (1, .inl a), (2, .inl b)]) (st' := [.inl z25]) rfl ?_
    refine h_retz (x := z25) rfl rfl (by omega) ?_
    rw [hQ9]
    exact ⟨_, rfl, (by omega), hI21, hf26, (by first | (exfalso; omega) | exact hx24)⟩
  · refine k_lsw (t := 46) rfl (by omega) (by decide) (by rw [c10]) rfl ?_
    refine k_run 4 (pc' := 50) (l' := [(0, .inr (.inr 361)), (1, .inl a), (2, .inl b)]) (st' := [.inl 0, .inl b, .inl a, .inr (.inr 361)]) rfl ?_
    refine h_cv (i := 200) (j := 72) (b := 361) (M' := mt_72) (xs := [.inl 0, .inl b, .inl a]) (rest := []) rfl rfl rfl rfl (zs_K (x := kx_361) rfl (by decide)) rfl (Nat.le_of_ble_eq_true rfl) (Nat.le_of_ble_eq_true rfl) (by omega) (q_readPC_0 (by omega) hI (by omega) (by omega) (by omega) hR (rch_st hX (by show stPat Y a b K X = _; unfold stPat; (repeat (first | rw [if_pos (by omega)] | rw [if_neg (by omega)])); try rfl)) (by omega) hP) ?_
    rintro _ H28 ⟨z33, rfl, g27, hI29, hq30, hx32⟩
    have hf34 : fq [(361, 3), (361, 4), (361, 5), (361, 9)] [362] true H H28 := fq_t (fq_rf _ _ _ _) hq30 rfl rfl rfl
    refine k_run 0 (pc' := 53) (l' := [(0, .inr (.inr 361)), (1, .inl a), (2, .inl b)]) (st' := [.inl z33]) rfl ?_
    refine h_retz (x := z33) rfl rfl (by omega) ?_
    rw [hQ9]
    exact ⟨_, rfl, (by omega), hI29, hf34, (by first | (exfalso; omega) | exact hx32)⟩
  · refine k_lsw (t := 54) rfl (by omega) (by decide) (by rw [c10]) rfl ?_
    refine k_run 2 (pc' := 57) (l' := [(0, .inr (.inr 361)), (1, .inl a), (2, .inl b)]) (st' := [.inl 10, .inl b]) rfl ?_
    refine h_ilt (off := 9) (t := 66) rfl rfl (by omega) (by decide) (fun c35 => ?_) (fun c35 => ?_)
    · refine k_run 0 (pc' := 66) (l' := [(0, .inr (.inr 361)), (1, .inl a), (2, .inl b)]) (st' := []) rfl ?_
      refine k_run 5 (pc' := 73) (l' := [(0, .inr (.inr 361)), (1, .inl a), (2, .inl b)]) (st' := [.inl ((H.1 361 3) + 1), .inr (.inr 361)]) rfl ?_
      refine k_puti (z := ((H.1 361 3) + 1)) (a := 361) (x := kx_361) rfl rfl rfl (by decide) (by decide) rfl rfl rfl rfl hI (by omega) (show -2147483648 ≤ ((H.1 361 3) + 1) ∧ ((H.1 361 3) + 1) ≤ 2147483647 by omega) (fun H36 hI37 hw38 hv39 => ?_)
      have hf40 : fq [(361, 3), (361, 4), (361, 5), (361, 9)] [362] true H H36 := fq_w (fq_rf _ _ _ _) hw38 (fpo (by decide) rfl)
      refine k_run 0 (pc' := 76) (l' := [(0, .inr (.inr 361)), (1, .inl a), (2, .inl b)]) (st' := []) rfl ?_
      have hw2 := hw38
      have hR2 : RT Y q H36 (adv X) := RT_adv hR (fw_w (fw_rf [(361, 3)] _) hw38 (by simp)) n3 hv39 (RB_lt hB (by omega) (by omega))
      have hpa2 := RB_pa hR2.1
      have htk2 := RB_tk hR2.1
      refine k_run 1 (pc' := 77) (l' := [(0, .inr (.inr 361)), (1, .inl a), (2, .inl b)]) (st' := [.inr (.inr 361)]) rfl ?_
      have g41 : -2147483648 ≤ (H36.1 361 3) ∧ (H36.1 361 3) ≤ 2147483647 := kn (x := kx_361) hI37 rfl 3
      have g42 : 0 ≤ (H36.1 2 5) ∧ (H36.1 2 5) ≤ 1001 := kn (x := kx_2) hI37 rfl 5
      have e43 : (H36.1 2 5) = (H.1 2 5) := hw38.2 _ _ (fun q => absurd q.1 (by decide))
      refine h_cv (i := 72) (j := 83) (b := 361) (M' := mt_83) (xs := []) (rest := []) rfl rfl rfl rfl (zs_K (x := kx_361) rfl (by decide)) rfl (Nat.le_of_ble_eq_true rfl) (Nat.le_of_ble_eq_true rfl) (by omega) (q_Reader_token (by omega) hI37 (by omega)) ?_
      rintro _ _ ⟨z50, rfl, g44, hx49, rfl⟩
      refine k_run 0 (pc' := 80) (l' := [(0, .inr (.inr 361)), (1, .inl a), (2, .inl b)]) (st' := [.inl z50]) rfl ?_
      rw [htk2] at hx49
      refine k_run 1 (pc' := 81) (l' := [(0, .inr (.inr 361)), (1, .inl a), (2, .inl b)]) (st' := [.inl 3, .inl z50]) rfl ?_
      refine h_ieq (off := 8) (t := 89) rfl rfl (by omega) (by decide) (fun c51 => ?_) (fun c51 => ?_)
      · refine k_run 0 (pc' := 89) (l' := [(0, .inr (.inr 361)), (1, .inl a), (2, .inl b)]) (st' := []) rfl ?_
        refine k_run 6 (pc' := 95) (l' := [(0, .inr (.inr 361)), (1, .inl a), (2, .inl b)]) (st' := [.inl 1, .inl (b + 1), .inl a, .inr (.inr 361)]) rfl ?_
        refine h_cv (i := 200) (j := 72) (b := 361) (M' := mt_72) (xs := [.inl 1, .inl (b + 1), .inl a]) (rest := []) rfl rfl rfl rfl (zs_K (x := kx_361) rfl (by decide)) rfl (Nat.le_of_ble_eq_true rfl) (Nat.le_of_ble_eq_true rfl) (by omega) (q_readPC_1 (by omega) hI37 (by omega) (by omega) (by omega) (m := m - 1) hR2 (rch_st hX (by show stPat Y a b K X = _; unfold stPat; (repeat (first | rw [if_pos (by omega)] | rw [if_neg (by omega)])); try rfl)) (by omega) (PP_adv hP) (fun m1 h1 => hRf m1 (by omega))) ?_
        rintro _ H53 ⟨z58, rfl, g52, hI54, hq55, hx57⟩
        have hf59 : fq [(361, 3), (361, 4), (361, 5), (361, 9)] [362] true H H53 := fq_t hf40 hq55 rfl rfl rfl
        refine k_run 0 (pc' := 98) (l' := [(0, .inr (.inr 361)), (1, .inl a), (2, .inl b)]) (st' := [.inl z58]) rfl ?_
        refine h_zeq (off := 16) (t := 114) rfl rfl (by omega) (fun c60 => ?_) (fun c60 => ?_)
        · refine k_run 0 (pc' := 114) (l' := [(0, .inr (.inr 361)), (1, .inl a), (2, .inl b)]) (st' := []) rfl ?_
          refine k_run 1 (pc' := 115) (l' := [(0, .inr (.inr 361)), (1, .inl a), (2, .inl b)]) (st' := [.inl 0]) rfl ?_
          refine h_retz (x := 0) rfl rfl (by decide) ?_
          rw [hQ9]
          exact ⟨_, rfl, (by omega), hI54, hf59, (by first | (exfalso; omega) | exact ⟨(Or.inr ⟨rfl, (Or.resolve_left hx57.1 (fun q9 => by have := q9.1; omega)).2⟩), NL_tr (NL_w hw2) hx57.2⟩)⟩
        · refine k_run 0 (pc' := 101) (l' := [(0, .inr (.inr 361)), (1, .inl a), (2, .inl b)]) (st' := []) rfl ?_
          obtain ⟨X2, k1, k2, k3⟩ := (Or.resolve_right hx57.1 (fun q9 => by have := q9.1; omega)).2
          have hpa3 := RB_pa k2.1
          have htk3 := RB_tk k2.1
          refine k_run 2 (pc' := 104) (l' := [(0, .inr (.inr 361)), (1, .inl a), (2, .inl b)]) (st' := [.inl 41, .inr (.inr 361)]) rfl ?_
          have g61 : -2147483648 ≤ (H53.1 361 3) ∧ (H53.1 361 3) ≤ 2147483647 := kn (x := kx_361) hI54 rfl 3
          have g62 : 0 ≤ (H53.1 2 5) ∧ (H53.1 2 5) ≤ 1001 := kn (x := kx_2) hI54 rfl 5
          have e63 : (H53.1 2 5) = (H36.1 2 5) := (hq55.1 2 5 rfl (by decide) (by decide)).1
          refine h_cv (i := 92) (j := 82) (b := 361) (M' := mt_82) (xs := [.inl 41]) (rest := []) rfl rfl rfl rfl (zs_K (x := kx_361) rfl (by decide)) rfl (Nat.le_of_ble_eq_true rfl) (Nat.le_of_ble_eq_true rfl) (by omega) (q_Reader_take (by omega) hI54 (by decide) (by omega)) ?_
          rintro _ H65 ⟨z70, rfl, g64, hI66, hq67, hp68, hx69⟩
          have hf71 : fq [(361, 3), (361, 4), (361, 5), (361, 9)] [362] true H H65 := fq_t hf59 hq67 rfl rfl rfl
          refine k_run 0 (pc' := 107) (l' := [(0, .inr (.inr 361)), (1, .inl a), (2, .inl b)]) (st' := [.inl z70]) rfl ?_
          refine h_zeq (off := 7) (t := 114) rfl rfl (by omega) (fun c72 => ?_) (fun c72 => ?_)
          · refine k_run 0 (pc' := 114) (l' := [(0, .inr (.inr 361)), (1, .inl a), (2, .inl b)]) (st' := []) rfl ?_
            refine k_run 1 (pc' := 115) (l' := [(0, .inr (.inr 361)), (1, .inl a), (2, .inl b)]) (st' := [.inl 0]) rfl ?_
            refine h_retz (x := 0) rfl rfl (by decide) ?_
            rw [hQ9]
            rw [htk3] at hx69
            exact ⟨_, rfl, (by omega), hI66, hf71, (by first | (exfalso; omega) | exact ⟨Or.elim hx69 (fun e => absurd e.1 (by omega)) (fun e => Or.inr ⟨rfl, FB_mk k2.1 hp68 nT345 (rch_st k1 (by show (if tk Y (xi X2) = 41 then _ else _) = _; rw [if_neg e.2.1]; rfl)) e.2.2.2.1 e.2.2.2.2⟩), NL_tr (NL_tr (NL_w hw2) hx57.2) (NL_fw hp68 (nX345 _))⟩)⟩
          · refine k_run 0 (pc' := 110) (l' := [(0, .inr (.inr 361)), (1, .inl a), (2, .inl b)]) (st' := []) rfl ?_
            refine k_run 2 (pc' := 115) (l' := [(0, .inr (.inr 361)), (1, .inl a), (2, .inl b)]) (st' := [.inl 1]) rfl ?_
            refine h_retz (x := 1) rfl rfl (by decide) ?_
            rw [hQ9]
            rw [htk3] at hx69
            exact ⟨_, rfl, (by omega), hI66, hf71, (by first | (exfalso; omega) | exact ⟨Or.elim hx69 (fun e => Or.inl ⟨rfl, adv X2, rch_st k1 (by show (if tk Y (xi X2) = 41 then _ else _) = _; rw [if_pos e.2.1]), RT_adv k2 hp68 n345 e.2.2 (RB_lt k2.1 (by omega) (by omega)), PP_adv k3⟩) (fun e => absurd e.1 (by omega)), NL_tr (NL_tr (NL_w hw2) hx57.2) (NL_fw hp68 (nX345 _))⟩)⟩
      · refine k_run 0 (pc' := 84) (l' := [(0, .inr (.inr 361)), (1, .inl a), (2, .inl b)]) (st' := []) rfl ?_
        refine k_run 1 (pc' := 85) (l' := [(0, .inr (.inr 361)), (1, .inl a), (2, .inl b)]) (st' := [.inr (.inr 361)]) rfl ?_
        refine h_cv (i := 89) (j := 85) (b := 361) (M' := mt_85) (xs := []) (rest := []) rfl rfl rfl rfl (zs_K (x := kx_361) rfl (by decide)) rfl (Nat.le_of_ble_eq_true rfl) (Nat.le_of_ble_eq_true rfl) (by omega) (q_Reader_misplaced (by omega) hI37 (by omega)) ?_
        rintro _ H74 ⟨z79, rfl, g73, hI75, hq76, hp77, hx78⟩
        have hf80 : fq [(361, 3), (361, 4), (361, 5), (361, 9)] [362] true H H74 := fq_t hf40 hq76 rfl rfl rfl
        refine k_run 0 (pc' := 88) (l' := [(0, .inr (.inr 361)), (1, .inl a), (2, .inl b)]) (st' := [.inl z79]) rfl ?_
        refine h_retz (x := z79) rfl rfl (by omega) ?_
        rw [hQ9]
        exact ⟨_, rfl, (by omega), hI75, hf80, (by first | (exfalso; omega) | exact ⟨(Or.inr ⟨by omega, FB_mk (k := if tk Y (xi (adv X)) = 1 then 1 else 2) hR2.1 hp77 nF45 (rch_st hX (by show stPat Y a b K X = _; unfold stPat; (repeat (first | rw [if_pos (by omega)] | rw [if_neg (by omega)])); try rfl)) (hx78.1.trans (by rw [htk2])) hx78.2⟩), NL_tr (NL_w hw2) (NL_fw hp77 (nXF45 _))⟩)⟩
    · refine k_run 0 (pc' := 60) (l' := [(0, .inr (.inr 361)), (1, .inl a), (2, .inl b)]) (st' := []) rfl ?_
      refine k_run 2 (pc' := 62) (l' := [(0, .inr (.inr 361)), (1, .inl a), (2, .inl b)]) (st' := [.inl 5, .inr (.inr 361)]) rfl ?_
      refine h_cv (i := 128) (j := 86) (b := 361) (M' := mt_86) (xs := [.inl 5]) (rest := []) rfl rfl rfl rfl (zs_K (x := kx_361) rfl (by decide)) rfl (Nat.le_of_ble_eq_true rfl) (Nat.le_of_ble_eq_true rfl) (by omega) (q_Reader_fails (by omega) hI (by decide) (by omega)) ?_
      rintro _ H82 ⟨z87, rfl, g81, hI83, hq84, hp85, hx86⟩
      have hf88 : fq [(361, 3), (361, 4), (361, 5), (361, 9)] [362] true H H82 := fq_t (fq_rf _ _ _ _) hq84 rfl rfl rfl
      refine k_run 0 (pc' := 65) (l' := [(0, .inr (.inr 361)), (1, .inl a), (2, .inl b)]) (st' := [.inl z87]) rfl ?_
      refine h_retz (x := z87) rfl rfl (by omega) ?_
      rw [hQ9]
      exact ⟨_, rfl, (by omega), hI83, hf88, (by first | (exfalso; omega) | exact ⟨(Or.inr ⟨by omega, FB_mk hB hp85 nF45 (rch_st hX (by show stPat Y a b K X = _; unfold stPat; (repeat (first | rw [if_pos (by omega)] | rw [if_neg (by omega)])); try rfl)) hx86.1 hx86.2⟩), NL_fw hp85 (nXF45 _)⟩)⟩

theorem q_RP : ∀ m, RPf m := by
  intro m
  induction m using Nat.strongRecOn with
  | ind m hRf =>
    have h4 : RPf m := fun hd _ hI _ _ ha hb hp hR hX hP => q_readP hd hI ha hb hp hR hX hP hRf
    exact @h4
theorem q_Reader_readPattern {Y : yx} {q : Nat} {c0 : cf} {K : List tq} {X : rx} {s0 : Int} {d : Nat} (hd : 30 ≤ d) {H : hp} (hI : Inv H) {a b : Int} (ha : -2147483648 ≤ a ∧ a ≤ 2147483647) (hb : -2147483648 ≤ b ∧ b ≤ 2147483647) (hp0 : -2 ≤ a ∧ a ≤ 100 ∧ 0 ≤ b ∧ b ≤ 10) (hR : RT Y q H X) (hX : rch Y c0 ((4, a, b, 0) :: K, X)) (hP : PP s0 X) : hG (zs zK) d mt_70 0 (zargs 0 [.inr (.inr 361), .inl a, .inl b]) [] H (fun r9 H9 => ∃ z : Int, r9 = some (.inl z) ∧ ((0 ≤ z ∧ z ≤ 1)) ∧ Inv H9 ∧ fq [(361, 3), (361, 4), (361, 5), (361, 9)] [362] true H H9 ∧ ((OT Y q c0 K (PP s0) z H9) ∧ NL H H9)) := q_RP 10 (by omega) hI ha hb (by omega) hR hX hP
