/-! the class: terms and patterns are read -/
/-- a term is read at depth b with 10 - b ≤ m -/
def RTc (m : Nat) : Prop := ∀ {d : Nat} (_ : 3 * m + 10 ≤ d) {H : hp} (_ : Inv H) {a b c : Int} (_ : -2147483648 ≤ a ∧ a ≤ 2147483647) (_ : -2147483648 ≤ b ∧ b ≤ 2147483647) (_ : 0 ≤ c ∧ c ≤ 1) (_ : -2 ≤ a ∧ a ≤ 100 ∧ 0 ≤ b ∧ b ≤ 10 ∧ 10 ≤ b + (m : Int)), hG (zs zK) d mt_73 0 (zargs 0 [.inr (.inr 361), .inl a, .inl b, .inl c]) [] H (fun r9 H9 => ∃ z : Int, r9 = some (.inl z) ∧ ((0 ≤ z ∧ z ≤ 1)) ∧ Inv H9 ∧ fq [(361, 3), (361, 4), (361, 5), (361, 9)] [362] true H H9)
/-- as an atom -/
def RT1c (m : Nat) : Prop := ∀ {d : Nat} (_ : 3 * m + 8 ≤ d) {H : hp} (_ : Inv H) {a b : Int} (_ : -2147483648 ≤ a ∧ a ≤ 2147483647) (_ : -2147483648 ≤ b ∧ b ≤ 2147483647) (_ : -2 ≤ a ∧ a ≤ 100 ∧ 0 ≤ b ∧ b ≤ 10 ∧ 10 ≤ b + (m : Int)), hG (zs zK) d mt_73 0 (zargs 0 [.inr (.inr 361), .inl a, .inl b, .inl 1]) [] H (fun r9 H9 => ∃ z : Int, r9 = some (.inl z) ∧ ((0 ≤ z ∧ z ≤ 1)) ∧ Inv H9 ∧ fq [(361, 3), (361, 4), (361, 5), (361, 9)] [362] true H H9)
def RA2c (m : Nat) : Prop := ∀ {d : Nat} (_ : 3 * m + 9 ≤ d) {H : hp} (_ : Inv H) {x a b c : Int} (_ : -2147483648 ≤ x ∧ x ≤ 2147483647) (_ : -2147483648 ≤ a ∧ a ≤ 2147483647) (_ : -2147483648 ≤ b ∧ b ≤ 2147483647) (_ : 0 ≤ c ∧ c ≤ 1) (_ : 0 ≤ x ∧ x < 16) (_ : -2 ≤ a ∧ a ≤ 100 ∧ 0 ≤ b ∧ b ≤ 10 ∧ 10 ≤ b + (m : Int)), hG (zs zK) d mt_74 0 (zargs 0 [.inr (.inr 361), .inl 2, .inl x, .inl a, .inl b, .inl c]) [] H (fun r9 H9 => ∃ z : Int, r9 = some (.inl z) ∧ ((0 ≤ z ∧ z ≤ 1)) ∧ Inv H9 ∧ fq [(361, 3), (361, 4), (361, 5), (361, 9)] [362] true H H9)
def RA1c (m : Nat) : Prop := ∀ {d : Nat} (_ : 3 * m + 9 ≤ d) {H : hp} (_ : Inv H) {x a b c : Int} (_ : -2147483648 ≤ x ∧ x ≤ 2147483647) (_ : -2147483648 ≤ a ∧ a ≤ 2147483647) (_ : -2147483648 ≤ b ∧ b ≤ 2147483647) (_ : 0 ≤ c ∧ c ≤ 1) (_ : 0 ≤ x ∧ x < 16) (_ : -2 ≤ a ∧ a ≤ 100 ∧ 0 ≤ b ∧ b ≤ 10 ∧ 10 ≤ b + (m : Int)), hG (zs zK) d mt_74 0 (zargs 0 [.inr (.inr 361), .inl 1, .inl x, .inl a, .inl b, .inl c]) [] H (fun r9 H9 => ∃ z : Int, r9 = some (.inl z) ∧ ((0 ≤ z ∧ z ≤ 1)) ∧ Inv H9 ∧ fq [(361, 3), (361, 4), (361, 5), (361, 9)] [362] true H H9)

/-! Reader.readApplied -/
set_option maxRecDepth 100000 in
theorem k_readApplied_a2_cut {d : Nat} (hd : 3 ≤ d) {H : hp} (hI : Inv H) {x : Int} {a : Int} {b : Int} (hx : -2147483648 ≤ x ∧ x ≤ 2147483647) (ha : -2147483648 ≤ a ∧ a ≤ 2147483647) (hb : -2147483648 ≤ b ∧ b ≤ 2147483647) (hp0 : 0 ≤ x ∧ x < 16) (hp1 : -2 ≤ a ∧ a ≤ 100 ∧ 0 ≤ b ∧ b ≤ 10) : ∀ w : Nat, (∀ (H1 : hp), Inv H1 → fq [(361, 3), (361, 4), (361, 5), (361, 9)] [362] true H H1 → ∀ (x7 : Int) (x8 : Int) (x9 : Int) , (-2147483648 ≤ x7 ∧ x7 ≤ 2147483647) → (-2147483648 ≤ x8 ∧ x8 ≤ 2147483647) → (-2147483648 ≤ x9 ∧ x9 ≤ 2147483647) → (0 ≤ x9) → (x7 ≤ 0) → (0 ≤ x8 ∧ x8 ≤ 1) → (((100 - x9).toNat) < w) → hG (zs zK) d mt_74 86 [(0, .inr (.inr 361)), (1, .inl 2), (2, .inl x), (3, .inl a), (4, .inl b), (5, .inl 1), (6, .inr (.inr 18)), (7, .inl x7), (8, .inl x8), (9, .inl x9)] [] H1 (fun r9 H9 => ∃ z : Int, r9 = some (.inl z) ∧ ((0 ≤ z ∧ z ≤ 1)) ∧ Inv H9 ∧ fq [(361, 3), (361, 4), (361, 5), (361, 9)] [362] true H H9)) := by
  intro w
  induction w with
  | zero => exact fun _ _ _ _ _ _ _ _ _ _ _ _ h => absurd h (Nat.not_lt_zero _)
  | succ w ih =>
    intro H1 hI1 hf1 x7 x8 x9 hx7 hx8 hx9 hi0 hi1 hi2 hw
    refine k_run 1 (pc' := 88) (l' := [(0, .inr (.inr 361)), (1, .inl 2), (2, .inl x), (3, .inl a), (4, .inl b), (5, .inl 1), (6, .inr (.inr 18)), (7, .inl x7), (8, .inl x8), (9, .inl x9)]) (st' := [.inl x8]) rfl ?_
    refine h_zeq (off := 33) (t := 121) rfl rfl (by omega) (fun c40 => ?_) (fun c40 => ?_)
    · refine k_run 0 (pc' := 121) (l' := [(0, .inr (.inr 361)), (1, .inl 2), (2, .inl x), (3, .inl a), (4, .inl b), (5, .inl 1), (6, .inr (.inr 18)), (7, .inl x7), (8, .inl x8), (9, .inl x9)]) (st' := []) rfl ?_
      refine k_run 1 (pc' := 123) (l' := [(0, .inr (.inr 361)), (1, .inl 2), (2, .inl x), (3, .inl a), (4, .inl b), (5, .inl 1), (6, .inr (.inr 18)), (7, .inl x7), (8, .inl x8), (9, .inl x9)]) (st' := [.inl x8]) rfl ?_
      refine h_retz (x := x8) rfl rfl (by omega) ?_
      exact ⟨_, rfl, (by omega), hI1, hf1⟩
    · refine k_run 0 (pc' := 91) (l' := [(0, .inr (.inr 361)), (1, .inl 2), (2, .inl x), (3, .inl a), (4, .inl b), (5, .inl 1), (6, .inr (.inr 18)), (7, .inl x7), (8, .inl x8), (9, .inl x9)]) (st' := []) rfl ?_
      refine k_run 2 (pc' := 95) (l' := [(0, .inr (.inr 361)), (1, .inl 2), (2, .inl x), (3, .inl a), (4, .inl b), (5, .inl 1), (6, .inr (.inr 18)), (7, .inl x7), (8, .inl x8), (9, .inl x9)]) (st' := [.inl x7, .inl x9]) rfl ?_
      refine h_ige (off := 26) (t := 121) rfl rfl (by omega) (by omega) (fun c41 => ?_) (fun c41 => ?_)
      · refine k_run 0 (pc' := 121) (l' := [(0, .inr (.inr 361)), (1, .inl 2), (2, .inl x), (3, .inl a), (4, .inl b), (5, .inl 1), (6, .inr (.inr 18)), (7, .inl x7), (8, .inl x8), (9, .inl x9)]) (st' := []) rfl ?_
        refine k_run 1 (pc' := 123) (l' := [(0, .inr (.inr 361)), (1, .inl 2), (2, .inl x), (3, .inl a), (4, .inl b), (5, .inl 1), (6, .inr (.inr 18)), (7, .inl x7), (8, .inl x8), (9, .inl x9)]) (st' := [.inl x8]) rfl ?_
        refine h_retz (x := x8) rfl rfl (by omega) ?_
        exact ⟨_, rfl, (by omega), hI1, hf1⟩
      · refine k_run 0 (pc' := 98) (l' := [(0, .inr (.inr 361)), (1, .inl 2), (2, .inl x), (3, .inl a), (4, .inl b), (5, .inl 1), (6, .inr (.inr 18)), (7, .inl x7), (8, .inl x8), (9, .inl x9)]) (st' := []) rfl ?_
        exfalso
        omega
set_option maxRecDepth 100000 in
theorem k_readApplied_a2 {d : Nat} (hd : 3 ≤ d) {H : hp} (hI : Inv H) {x : Int} {a : Int} {b : Int} (hx : -2147483648 ≤ x ∧ x ≤ 2147483647) (ha : -2147483648 ≤ a ∧ a ≤ 2147483647) (hb : -2147483648 ≤ b ∧ b ≤ 2147483647) (hp0 : 0 ≤ x ∧ x < 16) (hp1 : -2 ≤ a ∧ a ≤ 100 ∧ 0 ≤ b ∧ b ≤ 10) : hG (zs zK) d mt_74 0 (zargs 0 [.inr (.inr 361), .inl 2, .inl x, .inl a, .inl b, .inl 1]) [] H (fun r9 H9 => ∃ z : Int, r9 = some (.inl z) ∧ ((0 ≤ z ∧ z ≤ 1)) ∧ Inv H9 ∧ fq [(361, 3), (361, 4), (361, 5), (361, 9)] [362] true H H9) := by
  refine k_run 0 (pc' := 0) (l' := [(0, .inr (.inr 361)), (1, .inl 2), (2, .inl x), (3, .inl a), (4, .inl b), (5, .inl 1)]) (st' := []) rfl ?_
  refine k_run 2 (pc' := 2) (l' := [(0, .inr (.inr 361)), (1, .inl 2), (2, .inl x), (3, .inl a), (4, .inl b), (5, .inl 1)]) (st' := [.inl 2, .inl 2]) rfl ?_
  refine h_ine (off := 13) (t := 15) rfl rfl (by decide) (by decide) (fun c => absurd c (by decide)) (fun _ => ?_)
  refine k_run 0 (pc' := 5) (l' := [(0, .inr (.inr 361)), (1, .inl 2), (2, .inl x), (3, .inl a), (4, .inl b), (5, .inl 1)]) (st' := []) rfl ?_
  refine k_run 8 (pc' := 30) (l' := [(0, .inr (.inr 361)), (1, .inl 2), (2, .inl x), (3, .inl a), (4, .inl b), (5, .inl 1), (6, .inr (.inr 18))]) (st' := [.inl x, .inr (.inr 21)]) rfl ?_
  refine k_ild (c := 21) (j := (x).toNat) (i := x) (x := kx_21) rfl rfl (by decide) rfl (by decide) (by omega) (by omega) ?_
  have g1 : 0 ≤ (H.1 21 (x).toNat) ∧ (H.1 21 (x).toNat) ≤ 4 := kn (x := kx_21) hI rfl (x).toNat
  refine k_run 0 (pc' := 31) (l' := [(0, .inr (.inr 361)), (1, .inl 2), (2, .inl x), (3, .inl a), (4, .inl b), (5, .inl 1), (6, .inr (.inr 18))]) (st' := [.inl (H.1 21 (x).toNat)]) rfl ?_
  refine k_run 2 (pc' := 35) (l' := [(0, .inr (.inr 361)), (1, .inl 2), (2, .inl x), (3, .inl a), (4, .inl b), (5, .inl 1), (6, .inr (.inr 18)), (7, .inl (H.1 21 (x).toNat))]) (st' := [.inl 1]) rfl ?_
  refine h_zeq (off := 14) (t := 49) rfl rfl (by decide) (fun c => absurd c (by decide)) (fun _ => ?_)
  refine k_run 0 (pc' := 38) (l' := [(0, .inr (.inr 361)), (1, .inl 2), (2, .inl x), (3, .inl a), (4, .inl b), (5, .inl 1), (6, .inr (.inr 18)), (7, .inl (H.1 21 (x).toNat))]) (st' := []) rfl ?_
  refine k_run 1 (pc' := 40) (l' := [(0, .inr (.inr 361)), (1, .inl 2), (2, .inl x), (3, .inl a), (4, .inl b), (5, .inl 1), (6, .inr (.inr 18)), (7, .inl (H.1 21 (x).toNat))]) (st' := [.inl (H.1 21 (x).toNat)]) rfl ?_
  refine h_zle (off := 9) (t := 49) rfl rfl (by omega) (fun c2 => ?_) (fun c2 => ?_)
  · refine k_run 0 (pc' := 49) (l' := [(0, .inr (.inr 361)), (1, .inl 2), (2, .inl x), (3, .inl a), (4, .inl b), (5, .inl 1), (6, .inr (.inr 18)), (7, .inl (H.1 21 (x).toNat))]) (st' := []) rfl ?_
    refine k_run 1 (pc' := 50) (l' := [(0, .inr (.inr 361)), (1, .inl 2), (2, .inl x), (3, .inl a), (4, .inl b), (5, .inl 1), (6, .inr (.inr 18)), (7, .inl (H.1 21 (x).toNat))]) (st' := [.inl a]) rfl ?_
    refine h_zlt (off := 20) (t := 70) rfl rfl (by omega) (fun c3 => ?_) (fun c3 => ?_)
    · refine k_run 0 (pc' := 70) (l' := [(0, .inr (.inr 361)), (1, .inl 2), (2, .inl x), (3, .inl a), (4, .inl b), (5, .inl 1), (6, .inr (.inr 18)), (7, .inl (H.1 21 (x).toNat))]) (st' := []) rfl ?_
      refine k_run 4 (pc' := 75) (l' := [(0, .inr (.inr 361)), (1, .inl 2), (2, .inl x), (3, .inl a), (4, .inl b), (5, .inl 1), (6, .inr (.inr 18)), (7, .inl (H.1 21 (x).toNat))]) (st' := [.inl (H.1 21 (x).toNat), .inl x, .inl 2, .inr (.inr 361)]) rfl ?_
      refine h_cs (i := 153) (j := 48) (M' := mt_48) (xs := [.inl (H.1 21 (x).toNat), .inl x, .inl 2]) (rest := [.inr (.inr 361)]) rfl rfl rfl rfl rfl (Nat.le_of_ble_eq_true rfl) (Nat.le_of_ble_eq_true rfl) (by omega) (k_Term_codeOf (by omega)  (by decide) (by omega) (by omega)) ?_
      rintro _ _ ⟨z8, rfl, g4, rfl⟩
      refine k_run 0 (pc' := 78) (l' := [(0, .inr (.inr 361)), (1, .inl 2), (2, .inl x), (3, .inl a), (4, .inl b), (5, .inl 1), (6, .inr (.inr 18)), (7, .inl (H.1 21 (x).toNat))]) (st' := [.inl z8, .inr (.inr 361)]) rfl ?_
      refine h_cv (i := 157) (j := 77) (b := 361) (M' := mt_77) (xs := [.inl z8]) (rest := []) rfl rfl rfl rfl (zs_K (x := kx_361) rfl (by decide)) rfl (Nat.le_of_ble_eq_true rfl) (Nat.le_of_ble_eq_true rfl) (by omega) (k_Reader_addName (by omega) hI (by omega)) ?_
      rintro _ H10 ⟨z13, rfl, g9, hI11, hq12⟩
      have hf14 : fq [(361, 3), (361, 4), (361, 5), (361, 9)] [362] true H H10 := fq_t (fq_rf _ _ _ _) hq12 rfl rfl rfl
      refine k_run 0 (pc' := 81) (l' := [(0, .inr (.inr 361)), (1, .inl 2), (2, .inl x), (3, .inl a), (4, .inl b), (5, .inl 1), (6, .inr (.inr 18)), (7, .inl (H.1 21 (x).toNat))]) (st' := [.inl z13]) rfl ?_
      refine k_run 3 (pc' := 86) (l' := [(0, .inr (.inr 361)), (1, .inl 2), (2, .inl x), (3, .inl a), (4, .inl b), (5, .inl 1), (6, .inr (.inr 18)), (7, .inl (H.1 21 (x).toNat)), (8, .inl z13), (9, .inl 0)]) (st' := []) rfl ?_
      exact (k_readApplied_a2_cut hd hI hx ha hb hp0 hp1 _) H10 hI11 hf14 (H.1 21 (x).toNat) z13 (0 : Int) (by omega) (by omega) (by decide) (by omega) (by omega) (by omega) (Nat.lt_succ_self _)
    · refine k_run 0 (pc' := 53) (l' := [(0, .inr (.inr 361)), (1, .inl 2), (2, .inl x), (3, .inl a), (4, .inl b), (5, .inl 1), (6, .inr (.inr 18)), (7, .inl (H.1 21 (x).toNat))]) (st' := []) rfl ?_
      refine k_run 3 (pc' := 59) (l' := [(0, .inr (.inr 361)), (1, .inl 2), (2, .inl x), (3, .inl a), (4, .inl b), (5, .inl 1), (6, .inr (.inr 18)), (7, .inl (H.1 21 (x).toNat))]) (st' := [.inl x, .inr (.inr 20)]) rfl ?_
      refine k_ild (c := 20) (j := (x).toNat) (i := x) (x := kx_20) rfl rfl (by decide) rfl (by decide) (by omega) (by omega) ?_
      have g15 : -2 ≤ (H.1 20 (x).toNat) ∧ (H.1 20 (x).toNat) ≤ 100 := kn (x := kx_20) hI rfl (x).toNat
      refine k_run 0 (pc' := 60) (l' := [(0, .inr (.inr 361)), (1, .inl 2), (2, .inl x), (3, .inl a), (4, .inl b), (5, .inl 1), (6, .inr (.inr 18)), (7, .inl (H.1 21 (x).toNat))]) (st' := [.inl (H.1 20 (x).toNat)]) rfl ?_
      refine k_run 1 (pc' := 61) (l' := [(0, .inr (.inr 361)), (1, .inl 2), (2, .inl x), (3, .inl a), (4, .inl b), (5, .inl 1), (6, .inr (.inr 18)), (7, .inl (H.1 21 (x).toNat))]) (st' := [.inl a, .inl (H.1 20 (x).toNat)]) rfl ?_
      refine h_ieq (off := 9) (t := 70) rfl rfl (by omega) (by omega) (fun c16 => ?_) (fun c16 => ?_)
      · refine k_run 0 (pc' := 70) (l' := [(0, .inr (.inr 361)), (1, .inl 2), (2, .inl x), (3, .inl a), (4, .inl b), (5, .inl 1), (6, .inr (.inr 18)), (7, .inl (H.1 21 (x).toNat))]) (st' := []) rfl ?_
        refine k_run 4 (pc' := 75) (l' := [(0, .inr (.inr 361)), (1, .inl 2), (2, .inl x), (3, .inl a), (4, .inl b), (5, .inl 1), (6, .inr (.inr 18)), (7, .inl (H.1 21 (x).toNat))]) (st' := [.inl (H.1 21 (x).toNat), .inl x, .inl 2, .inr (.inr 361)]) rfl ?_
        refine h_cs (i := 153) (j := 48) (M' := mt_48) (xs := [.inl (H.1 21 (x).toNat), .inl x, .inl 2]) (rest := [.inr (.inr 361)]) rfl rfl rfl rfl rfl (Nat.le_of_ble_eq_true rfl) (Nat.le_of_ble_eq_true rfl) (by omega) (k_Term_codeOf (by omega)  (by decide) (by omega) (by omega)) ?_
        rintro _ _ ⟨z21, rfl, g17, rfl⟩
        refine k_run 0 (pc' := 78) (l' := [(0, .inr (.inr 361)), (1, .inl 2), (2, .inl x), (3, .inl a), (4, .inl b), (5, .inl 1), (6, .inr (.inr 18)), (7, .inl (H.1 21 (x).toNat))]) (st' := [.inl z21, .inr (.inr 361)]) rfl ?_
        refine h_cv (i := 157) (j := 77) (b := 361) (M' := mt_77) (xs := [.inl z21]) (rest := []) rfl rfl rfl rfl (zs_K (x := kx_361) rfl (by decide)) rfl (Nat.le_of_ble_eq_true rfl) (Nat.le_of_ble_eq_true rfl) (by omega) (k_Reader_addName (by omega) hI (by omega)) ?_
        rintro _ H23 ⟨z26, rfl, g22, hI24, hq25⟩
        have hf27 : fq [(361, 3), (361, 4), (361, 5), (361, 9)] [362] true H H23 := fq_t (fq_rf _ _ _ _) hq25 rfl rfl rfl
        refine k_run 0 (pc' := 81) (l' := [(0, .inr (.inr 361)), (1, .inl 2), (2, .inl x), (3, .inl a), (4, .inl b), (5, .inl 1), (6, .inr (.inr 18)), (7, .inl (H.1 21 (x).toNat))]) (st' := [.inl z26]) rfl ?_
        refine k_run 3 (pc' := 86) (l' := [(0, .inr (.inr 361)), (1, .inl 2), (2, .inl x), (3, .inl a), (4, .inl b), (5, .inl 1), (6, .inr (.inr 18)), (7, .inl (H.1 21 (x).toNat)), (8, .inl z26), (9, .inl 0)]) (st' := []) rfl ?_
        exact (k_readApplied_a2_cut hd hI hx ha hb hp0 hp1 _) H23 hI24 hf27 (H.1 21 (x).toNat) z26 (0 : Int) (by omega) (by omega) (by decide) (by omega) (by omega) (by omega) (Nat.lt_succ_self _)
      · refine k_run 0 (pc' := 64) (l' := [(0, .inr (.inr 361)), (1, .inl 2), (2, .inl x), (3, .inl a), (4, .inl b), (5, .inl 1), (6, .inr (.inr 18)), (7, .inl (H.1 21 (x).toNat))]) (st' := []) rfl ?_
        refine k_run 2 (pc' := 66) (l' := [(0, .inr (.inr 361)), (1, .inl 2), (2, .inl x), (3, .inl a), (4, .inl b), (5, .inl 1), (6, .inr (.inr 18)), (7, .inl (H.1 21 (x).toNat))]) (st' := [.inl 4, .inr (.inr 361)]) rfl ?_
        refine h_cv (i := 128) (j := 86) (b := 361) (M' := mt_86) (xs := [.inl 4]) (rest := []) rfl rfl rfl rfl (zs_K (x := kx_361) rfl (by decide)) rfl (Nat.le_of_ble_eq_true rfl) (Nat.le_of_ble_eq_true rfl) (by omega) (k_Reader_fails (by omega) hI (by decide)) ?_
        rintro _ H29 ⟨z32, rfl, g28, hI30, hq31⟩
        have hf33 : fq [(361, 3), (361, 4), (361, 5), (361, 9)] [362] true H H29 := fq_t (fq_rf _ _ _ _) hq31 rfl rfl rfl
        refine k_run 0 (pc' := 69) (l' := [(0, .inr (.inr 361)), (1, .inl 2), (2, .inl x), (3, .inl a), (4, .inl b), (5, .inl 1), (6, .inr (.inr 18)), (7, .inl (H.1 21 (x).toNat))]) (st' := [.inl z32]) rfl ?_
        refine h_retz (x := z32) rfl rfl (by omega) ?_
        exact ⟨_, rfl, (by omega), hI30, hf33⟩
  · refine k_run 0 (pc' := 43) (l' := [(0, .inr (.inr 361)), (1, .inl 2), (2, .inl x), (3, .inl a), (4, .inl b), (5, .inl 1), (6, .inr (.inr 18)), (7, .inl (H.1 21 (x).toNat))]) (st' := []) rfl ?_
    refine k_run 2 (pc' := 45) (l' := [(0, .inr (.inr 361)), (1, .inl 2), (2, .inl x), (3, .inl a), (4, .inl b), (5, .inl 1), (6, .inr (.inr 18)), (7, .inl (H.1 21 (x).toNat))]) (st' := [.inl 2, .inr (.inr 361)]) rfl ?_
    refine h_cv (i := 128) (j := 86) (b := 361) (M' := mt_86) (xs := [.inl 2]) (rest := []) rfl rfl rfl rfl (zs_K (x := kx_361) rfl (by decide)) rfl (Nat.le_of_ble_eq_true rfl) (Nat.le_of_ble_eq_true rfl) (by omega) (k_Reader_fails (by omega) hI (by decide)) ?_
    rintro _ H35 ⟨z38, rfl, g34, hI36, hq37⟩
    have hf39 : fq [(361, 3), (361, 4), (361, 5), (361, 9)] [362] true H H35 := fq_t (fq_rf _ _ _ _) hq37 rfl rfl rfl
    refine k_run 0 (pc' := 48) (l' := [(0, .inr (.inr 361)), (1, .inl 2), (2, .inl x), (3, .inl a), (4, .inl b), (5, .inl 1), (6, .inr (.inr 18)), (7, .inl (H.1 21 (x).toNat))]) (st' := [.inl z38]) rfl ?_
    refine h_retz (x := z38) rfl rfl (by omega) ?_
    exact ⟨_, rfl, (by omega), hI36, hf39⟩

/-! Reader.readApplied -/
set_option maxRecDepth 100000 in
theorem k_readApplied_a1_cut {d : Nat} (hd : 3 ≤ d) {H : hp} (hI : Inv H) {x : Int} {a : Int} {b : Int} (hx : -2147483648 ≤ x ∧ x ≤ 2147483647) (ha : -2147483648 ≤ a ∧ a ≤ 2147483647) (hb : -2147483648 ≤ b ∧ b ≤ 2147483647) (hp0 : 0 ≤ x ∧ x < 16) (hp1 : -2 ≤ a ∧ a ≤ 100 ∧ 0 ≤ b ∧ b ≤ 10) : ∀ w : Nat, (∀ (H1 : hp), Inv H1 → fq [(361, 3), (361, 4), (361, 5), (361, 9)] [362] true H H1 → ∀ (x7 : Int) (x8 : Int) (x9 : Int) , (-2147483648 ≤ x7 ∧ x7 ≤ 2147483647) → (-2147483648 ≤ x8 ∧ x8 ≤ 2147483647) → (-2147483648 ≤ x9 ∧ x9 ≤ 2147483647) → (0 ≤ x9) → (x7 ≤ 0) → (0 ≤ x8 ∧ x8 ≤ 1) → (((100 - x9).toNat) < w) → hG (zs zK) d mt_74 86 [(0, .inr (.inr 361)), (1, .inl 1), (2, .inl x), (3, .inl a), (4, .inl b), (5, .inl 1), (6, .inr (.inr 13)), (7, .inl x7), (8, .inl x8), (9, .inl x9)] [] H1 (fun r9 H9 => ∃ z : Int, r9 = some (.inl z) ∧ ((0 ≤ z ∧ z ≤ 1)) ∧ Inv H9 ∧ fq [(361, 3), (361, 4), (361, 5), (361, 9)] [362] true H H9)) := by
  intro w
  induction w with
  | zero => exact fun _ _ _ _ _ _ _ _ _ _ _ _ h => absurd h (Nat.not_lt_zero _)
  | succ w ih =>
    intro H1 hI1 hf1 x7 x8 x9 hx7 hx8 hx9 hi0 hi1 hi2 hw
    refine k_run 1 (pc' := 88) (l' := [(0, .inr (.inr 361)), (1, .inl 1), (2, .inl x), (3, .inl a), (4, .inl b), (5, .inl 1), (6, .inr (.inr 13)), (7, .inl x7), (8, .inl x8), (9, .inl x9)]) (st' := [.inl x8]) rfl ?_
    refine h_zeq (off := 33) (t := 121) rfl rfl (by omega) (fun c40 => ?_) (fun c40 => ?_)
    · refine k_run 0 (pc' := 121) (l' := [(0, .inr (.inr 361)), (1, .inl 1), (2, .inl x), (3, .inl a), (4, .inl b), (5, .inl 1), (6, .inr (.inr 13)), (7, .inl x7), (8, .inl x8), (9, .inl x9)]) (st' := []) rfl ?_
      refine k_run 1 (pc' := 123) (l' := [(0, .inr (.inr 361)), (1, .inl 1), (2, .inl x), (3, .inl a), (4, .inl b), (5, .inl 1), (6, .inr (.inr 13)), (7, .inl x7), (8, .inl x8), (9, .inl x9)]) (st' := [.inl x8]) rfl ?_
      refine h_retz (x := x8) rfl rfl (by omega) ?_
      exact ⟨_, rfl, (by omega), hI1, hf1⟩
    · refine k_run 0 (pc' := 91) (l' := [(0, .inr (.inr 361)), (1, .inl 1), (2, .inl x), (3, .inl a), (4, .inl b), (5, .inl 1), (6, .inr (.inr 13)), (7, .inl x7), (8, .inl x8), (9, .inl x9)]) (st' := []) rfl ?_
      refine k_run 2 (pc' := 95) (l' := [(0, .inr (.inr 361)), (1, .inl 1), (2, .inl x), (3, .inl a), (4, .inl b), (5, .inl 1), (6, .inr (.inr 13)), (7, .inl x7), (8, .inl x8), (9, .inl x9)]) (st' := [.inl x7, .inl x9]) rfl ?_
      refine h_ige (off := 26) (t := 121) rfl rfl (by omega) (by omega) (fun c41 => ?_) (fun c41 => ?_)
      · refine k_run 0 (pc' := 121) (l' := [(0, .inr (.inr 361)), (1, .inl 1), (2, .inl x), (3, .inl a), (4, .inl b), (5, .inl 1), (6, .inr (.inr 13)), (7, .inl x7), (8, .inl x8), (9, .inl x9)]) (st' := []) rfl ?_
        refine k_run 1 (pc' := 123) (l' := [(0, .inr (.inr 361)), (1, .inl 1), (2, .inl x), (3, .inl a), (4, .inl b), (5, .inl 1), (6, .inr (.inr 13)), (7, .inl x7), (8, .inl x8), (9, .inl x9)]) (st' := [.inl x8]) rfl ?_
        refine h_retz (x := x8) rfl rfl (by omega) ?_
        exact ⟨_, rfl, (by omega), hI1, hf1⟩
      · refine k_run 0 (pc' := 98) (l' := [(0, .inr (.inr 361)), (1, .inl 1), (2, .inl x), (3, .inl a), (4, .inl b), (5, .inl 1), (6, .inr (.inr 13)), (7, .inl x7), (8, .inl x8), (9, .inl x9)]) (st' := []) rfl ?_
        exfalso
        omega
set_option maxRecDepth 100000 in
theorem k_readApplied_a1 {d : Nat} (hd : 3 ≤ d) {H : hp} (hI : Inv H) {x : Int} {a : Int} {b : Int} (hx : -2147483648 ≤ x ∧ x ≤ 2147483647) (ha : -2147483648 ≤ a ∧ a ≤ 2147483647) (hb : -2147483648 ≤ b ∧ b ≤ 2147483647) (hp0 : 0 ≤ x ∧ x < 16) (hp1 : -2 ≤ a ∧ a ≤ 100 ∧ 0 ≤ b ∧ b ≤ 10) : hG (zs zK) d mt_74 0 (zargs 0 [.inr (.inr 361), .inl 1, .inl x, .inl a, .inl b, .inl 1]) [] H (fun r9 H9 => ∃ z : Int, r9 = some (.inl z) ∧ ((0 ≤ z ∧ z ≤ 1)) ∧ Inv H9 ∧ fq [(361, 3), (361, 4), (361, 5), (361, 9)] [362] true H H9) := by
  refine k_run 0 (pc' := 0) (l' := [(0, .inr (.inr 361)), (1, .inl 1), (2, .inl x), (3, .inl a), (4, .inl b), (5, .inl 1)]) (st' := []) rfl ?_
  refine k_run 2 (pc' := 2) (l' := [(0, .inr (.inr 361)), (1, .inl 1), (2, .inl x), (3, .inl a), (4, .inl b), (5, .inl 1)]) (st' := [.inl 2, .inl 1]) rfl ?_
  refine h_ine (off := 13) (t := 15) rfl rfl (by decide) (by decide) (fun _ => ?_) (fun c => absurd c (by decide))
  refine k_run 0 (pc' := 15) (l' := [(0, .inr (.inr 361)), (1, .inl 1), (2, .inl x), (3, .inl a), (4, .inl b), (5, .inl 1)]) (st' := []) rfl ?_
  refine k_run 7 (pc' := 30) (l' := [(0, .inr (.inr 361)), (1, .inl 1), (2, .inl x), (3, .inl a), (4, .inl b), (5, .inl 1), (6, .inr (.inr 13))]) (st' := [.inl x, .inr (.inr 16)]) rfl ?_
  refine k_ild (c := 16) (j := (x).toNat) (i := x) (x := kx_16) rfl rfl (by decide) rfl (by decide) (by omega) (by omega) ?_
  have g1 : 0 ≤ (H.1 16 (x).toNat) ∧ (H.1 16 (x).toNat) ≤ 4 := kn (x := kx_16) hI rfl (x).toNat
  refine k_run 0 (pc' := 31) (l' := [(0, .inr (.inr 361)), (1, .inl 1), (2, .inl x), (3, .inl a), (4, .inl b), (5, .inl 1), (6, .inr (.inr 13))]) (st' := [.inl (H.1 16 (x).toNat)]) rfl ?_
  refine k_run 2 (pc' := 35) (l' := [(0, .inr (.inr 361)), (1, .inl 1), (2, .inl x), (3, .inl a), (4, .inl b), (5, .inl 1), (6, .inr (.inr 13)), (7, .inl (H.1 16 (x).toNat))]) (st' := [.inl 1]) rfl ?_
  refine h_zeq (off := 14) (t := 49) rfl rfl (by decide) (fun c => absurd c (by decide)) (fun _ => ?_)
  refine k_run 0 (pc' := 38) (l' := [(0, .inr (.inr 361)), (1, .inl 1), (2, .inl x), (3, .inl a), (4, .inl b), (5, .inl 1), (6, .inr (.inr 13)), (7, .inl (H.1 16 (x).toNat))]) (st' := []) rfl ?_
  refine k_run 1 (pc' := 40) (l' := [(0, .inr (.inr 361)), (1, .inl 1), (2, .inl x), (3, .inl a), (4, .inl b), (5, .inl 1), (6, .inr (.inr 13)), (7, .inl (H.1 16 (x).toNat))]) (st' := [.inl (H.1 16 (x).toNat)]) rfl ?_
  refine h_zle (off := 9) (t := 49) rfl rfl (by omega) (fun c2 => ?_) (fun c2 => ?_)
  · refine k_run 0 (pc' := 49) (l' := [(0, .inr (.inr 361)), (1, .inl 1), (2, .inl x), (3, .inl a), (4, .inl b), (5, .inl 1), (6, .inr (.inr 13)), (7, .inl (H.1 16 (x).toNat))]) (st' := []) rfl ?_
    refine k_run 1 (pc' := 50) (l' := [(0, .inr (.inr 361)), (1, .inl 1), (2, .inl x), (3, .inl a), (4, .inl b), (5, .inl 1), (6, .inr (.inr 13)), (7, .inl (H.1 16 (x).toNat))]) (st' := [.inl a]) rfl ?_
    refine h_zlt (off := 20) (t := 70) rfl rfl (by omega) (fun c3 => ?_) (fun c3 => ?_)
    · refine k_run 0 (pc' := 70) (l' := [(0, .inr (.inr 361)), (1, .inl 1), (2, .inl x), (3, .inl a), (4, .inl b), (5, .inl 1), (6, .inr (.inr 13)), (7, .inl (H.1 16 (x).toNat))]) (st' := []) rfl ?_
      refine k_run 4 (pc' := 75) (l' := [(0, .inr (.inr 361)), (1, .inl 1), (2, .inl x), (3, .inl a), (4, .inl b), (5, .inl 1), (6, .inr (.inr 13)), (7, .inl (H.1 16 (x).toNat))]) (st' := [.inl (H.1 16 (x).toNat), .inl x, .inl 1, .inr (.inr 361)]) rfl ?_
      refine h_cs (i := 153) (j := 48) (M' := mt_48) (xs := [.inl (H.1 16 (x).toNat), .inl x, .inl 1]) (rest := [.inr (.inr 361)]) rfl rfl rfl rfl rfl (Nat.le_of_ble_eq_true rfl) (Nat.le_of_ble_eq_true rfl) (by omega) (k_Term_codeOf (by omega)  (by decide) (by omega) (by omega)) ?_
      rintro _ _ ⟨z8, rfl, g4, rfl⟩
      refine k_run 0 (pc' := 78) (l' := [(0, .inr (.inr 361)), (1, .inl 1), (2, .inl x), (3, .inl a), (4, .inl b), (5, .inl 1), (6, .inr (.inr 13)), (7, .inl (H.1 16 (x).toNat))]) (st' := [.inl z8, .inr (.inr 361)]) rfl ?_
      refine h_cv (i := 157) (j := 77) (b := 361) (M' := mt_77) (xs := [.inl z8]) (rest := []) rfl rfl rfl rfl (zs_K (x := kx_361) rfl (by decide)) rfl (Nat.le_of_ble_eq_true rfl) (Nat.le_of_ble_eq_true rfl) (by omega) (k_Reader_addName (by omega) hI (by omega)) ?_
      rintro _ H10 ⟨z13, rfl, g9, hI11, hq12⟩
      have hf14 : fq [(361, 3), (361, 4), (361, 5), (361, 9)] [362] true H H10 := fq_t (fq_rf _ _ _ _) hq12 rfl rfl rfl
      refine k_run 0 (pc' := 81) (l' := [(0, .inr (.inr 361)), (1, .inl 1), (2, .inl x), (3, .inl a), (4, .inl b), (5, .inl 1), (6, .inr (.inr 13)), (7, .inl (H.1 16 (x).toNat))]) (st' := [.inl z13]) rfl ?_
      refine k_run 3 (pc' := 86) (l' := [(0, .inr (.inr 361)), (1, .inl 1), (2, .inl x), (3, .inl a), (4, .inl b), (5, .inl 1), (6, .inr (.inr 13)), (7, .inl (H.1 16 (x).toNat)), (8, .inl z13), (9, .inl 0)]) (st' := []) rfl ?_
      exact (k_readApplied_a1_cut hd hI hx ha hb hp0 hp1 _) H10 hI11 hf14 (H.1 16 (x).toNat) z13 (0 : Int) (by omega) (by omega) (by decide) (by omega) (by omega) (by omega) (Nat.lt_succ_self _)
    · refine k_run 0 (pc' := 53) (l' := [(0, .inr (.inr 361)), (1, .inl 1), (2, .inl x), (3, .inl a), (4, .inl b), (5, .inl 1), (6, .inr (.inr 13)), (7, .inl (H.1 16 (x).toNat))]) (st' := []) rfl ?_
      refine k_run 3 (pc' := 59) (l' := [(0, .inr (.inr 361)), (1, .inl 1), (2, .inl x), (3, .inl a), (4, .inl b), (5, .inl 1), (6, .inr (.inr 13)), (7, .inl (H.1 16 (x).toNat))]) (st' := [.inl x, .inr (.inr 15)]) rfl ?_
      refine k_ild (c := 15) (j := (x).toNat) (i := x) (x := kx_15) rfl rfl (by decide) rfl (by decide) (by omega) (by omega) ?_
      have g15 : -2 ≤ (H.1 15 (x).toNat) ∧ (H.1 15 (x).toNat) ≤ 100 := kn (x := kx_15) hI rfl (x).toNat
      refine k_run 0 (pc' := 60) (l' := [(0, .inr (.inr 361)), (1, .inl 1), (2, .inl x), (3, .inl a), (4, .inl b), (5, .inl 1), (6, .inr (.inr 13)), (7, .inl (H.1 16 (x).toNat))]) (st' := [.inl (H.1 15 (x).toNat)]) rfl ?_
      refine k_run 1 (pc' := 61) (l' := [(0, .inr (.inr 361)), (1, .inl 1), (2, .inl x), (3, .inl a), (4, .inl b), (5, .inl 1), (6, .inr (.inr 13)), (7, .inl (H.1 16 (x).toNat))]) (st' := [.inl a, .inl (H.1 15 (x).toNat)]) rfl ?_
      refine h_ieq (off := 9) (t := 70) rfl rfl (by omega) (by omega) (fun c16 => ?_) (fun c16 => ?_)
      · refine k_run 0 (pc' := 70) (l' := [(0, .inr (.inr 361)), (1, .inl 1), (2, .inl x), (3, .inl a), (4, .inl b), (5, .inl 1), (6, .inr (.inr 13)), (7, .inl (H.1 16 (x).toNat))]) (st' := []) rfl ?_
        refine k_run 4 (pc' := 75) (l' := [(0, .inr (.inr 361)), (1, .inl 1), (2, .inl x), (3, .inl a), (4, .inl b), (5, .inl 1), (6, .inr (.inr 13)), (7, .inl (H.1 16 (x).toNat))]) (st' := [.inl (H.1 16 (x).toNat), .inl x, .inl 1, .inr (.inr 361)]) rfl ?_
        refine h_cs (i := 153) (j := 48) (M' := mt_48) (xs := [.inl (H.1 16 (x).toNat), .inl x, .inl 1]) (rest := [.inr (.inr 361)]) rfl rfl rfl rfl rfl (Nat.le_of_ble_eq_true rfl) (Nat.le_of_ble_eq_true rfl) (by omega) (k_Term_codeOf (by omega)  (by decide) (by omega) (by omega)) ?_
        rintro _ _ ⟨z21, rfl, g17, rfl⟩
        refine k_run 0 (pc' := 78) (l' := [(0, .inr (.inr 361)), (1, .inl 1), (2, .inl x), (3, .inl a), (4, .inl b), (5, .inl 1), (6, .inr (.inr 13)), (7, .inl (H.1 16 (x).toNat))]) (st' := [.inl z21, .inr (.inr 361)]) rfl ?_
        refine h_cv (i := 157) (j := 77) (b := 361) (M' := mt_77) (xs := [.inl z21]) (rest := []) rfl rfl rfl rfl (zs_K (x := kx_361) rfl (by decide)) rfl (Nat.le_of_ble_eq_true rfl) (Nat.le_of_ble_eq_true rfl) (by omega) (k_Reader_addName (by omega) hI (by omega)) ?_
        rintro _ H23 ⟨z26, rfl, g22, hI24, hq25⟩
        have hf27 : fq [(361, 3), (361, 4), (361, 5), (361, 9)] [362] true H H23 := fq_t (fq_rf _ _ _ _) hq25 rfl rfl rfl
        refine k_run 0 (pc' := 81) (l' := [(0, .inr (.inr 361)), (1, .inl 1), (2, .inl x), (3, .inl a), (4, .inl b), (5, .inl 1), (6, .inr (.inr 13)), (7, .inl (H.1 16 (x).toNat))]) (st' := [.inl z26]) rfl ?_
        refine k_run 3 (pc' := 86) (l' := [(0, .inr (.inr 361)), (1, .inl 1), (2, .inl x), (3, .inl a), (4, .inl b), (5, .inl 1), (6, .inr (.inr 13)), (7, .inl (H.1 16 (x).toNat)), (8, .inl z26), (9, .inl 0)]) (st' := []) rfl ?_
        exact (k_readApplied_a1_cut hd hI hx ha hb hp0 hp1 _) H23 hI24 hf27 (H.1 16 (x).toNat) z26 (0 : Int) (by omega) (by omega) (by decide) (by omega) (by omega) (by omega) (Nat.lt_succ_self _)
      · refine k_run 0 (pc' := 64) (l' := [(0, .inr (.inr 361)), (1, .inl 1), (2, .inl x), (3, .inl a), (4, .inl b), (5, .inl 1), (6, .inr (.inr 13)), (7, .inl (H.1 16 (x).toNat))]) (st' := []) rfl ?_
        refine k_run 2 (pc' := 66) (l' := [(0, .inr (.inr 361)), (1, .inl 1), (2, .inl x), (3, .inl a), (4, .inl b), (5, .inl 1), (6, .inr (.inr 13)), (7, .inl (H.1 16 (x).toNat))]) (st' := [.inl 4, .inr (.inr 361)]) rfl ?_
        refine h_cv (i := 128) (j := 86) (b := 361) (M' := mt_86) (xs := [.inl 4]) (rest := []) rfl rfl rfl rfl (zs_K (x := kx_361) rfl (by decide)) rfl (Nat.le_of_ble_eq_true rfl) (Nat.le_of_ble_eq_true rfl) (by omega) (k_Reader_fails (by omega) hI (by decide)) ?_
        rintro _ H29 ⟨z32, rfl, g28, hI30, hq31⟩
        have hf33 : fq [(361, 3), (361, 4), (361, 5), (361, 9)] [362] true H H29 := fq_t (fq_rf _ _ _ _) hq31 rfl rfl rfl
        refine k_run 0 (pc' := 69) (l' := [(0, .inr (.inr 361)), (1, .inl 1), (2, .inl x), (3, .inl a), (4, .inl b), (5, .inl 1), (6, .inr (.inr 13)), (7, .inl (H.1 16 (x).toNat))]) (st' := [.inl z32]) rfl ?_
        refine h_retz (x := z32) rfl rfl (by omega) ?_
        exact ⟨_, rfl, (by omega), hI30, hf33⟩
  · refine k_run 0 (pc' := 43) (l' := [(0, .inr (.inr 361)), (1, .inl 1), (2, .inl x), (3, .inl a), (4, .inl b), (5, .inl 1), (6, .inr (.inr 13)), (7, .inl (H.1 16 (x).toNat))]) (st' := []) rfl ?_
    refine k_run 2 (pc' := 45) (l' := [(0, .inr (.inr 361)), (1, .inl 1), (2, .inl x), (3, .inl a), (4, .inl b), (5, .inl 1), (6, .inr (.inr 13)), (7, .inl (H.1 16 (x).toNat))]) (st' := [.inl 2, .inr (.inr 361)]) rfl ?_
    refine h_cv (i := 128) (j := 86) (b := 361) (M' := mt_86) (xs := [.inl 2]) (rest := []) rfl rfl rfl rfl (zs_K (x := kx_361) rfl (by decide)) rfl (Nat.le_of_ble_eq_true rfl) (Nat.le_of_ble_eq_true rfl) (by omega) (k_Reader_fails (by omega) hI (by decide)) ?_
    rintro _ H35 ⟨z38, rfl, g34, hI36, hq37⟩
    have hf39 : fq [(361, 3), (361, 4), (361, 5), (361, 9)] [362] true H H35 := fq_t (fq_rf _ _ _ _) hq37 rfl rfl rfl
    refine k_run 0 (pc' := 48) (l' := [(0, .inr (.inr 361)), (1, .inl 1), (2, .inl x), (3, .inl a), (4, .inl b), (5, .inl 1), (6, .inr (.inr 13)), (7, .inl (H.1 16 (x).toNat))]) (st' := [.inl z38]) rfl ?_
    refine h_retz (x := z38) rfl rfl (by omega) ?_
    exact ⟨_, rfl, (by omega), hI36, hf39⟩

/-! Reader.readTerm -/
set_option maxRecDepth 100000 in
theorem k_readTerm_1 {m : Nat} {d : Nat} (hd : 3 * m + 8 ≤ d) {H : hp} (hI : Inv H) {a : Int} {b : Int} (ha : -2147483648 ≤ a ∧ a ≤ 2147483647) (hb : -2147483648 ≤ b ∧ b ≤ 2147483647) (hp0 : -2 ≤ a ∧ a ≤ 100 ∧ 0 ≤ b ∧ b ≤ 10 ∧ 10 ≤ b + (m : Int)) (hR : ∀ m1, m1 < m → RTc m1) : hG (zs zK) d mt_73 0 (zargs 0 [.inr (.inr 361), .inl a, .inl b, .inl 1]) [] H (fun r9 H9 => ∃ z : Int, r9 = some (.inl z) ∧ ((0 ≤ z ∧ z ≤ 1)) ∧ Inv H9 ∧ fq [(361, 3), (361, 4), (361, 5), (361, 9)] [362] true H H9) := by
  refine k_run 0 (pc' := 0) (l' := [(0, .inr (.inr 361)), (1, .inl a), (2, .inl b), (3, .inl 1)]) (st' := []) rfl ?_
  refine k_run 1 (pc' := 1) (l' := [(0, .inr (.inr 361)), (1, .inl a), (2, .inl b), (3, .inl 1)]) (st' := [.inr (.inr 361)]) rfl ?_
  refine h_cv (i := 72) (j := 83) (b := 361) (M' := mt_83) (xs := []) (rest := []) rfl rfl rfl rfl (zs_K (x := kx_361) rfl (by decide)) rfl (Nat.le_of_ble_eq_true rfl) (Nat.le_of_ble_eq_true rfl) (by omega) (k_Reader_token (by omega) hI ) ?_
  rintro _ _ ⟨z5, rfl, g1, rfl⟩
  refine k_run 0 (pc' := 4) (l' := [(0, .inr (.inr 361)), (1, .inl a), (2, .inl b), (3, .inl 1)]) (st' := [.inl z5]) rfl ?_
  rcases (show (z5 ≠ 2 ∧ z5 ≠ 3 ∧ z5 ≠ 40 ∧ z5 ≠ 95) ∨ z5 = 2 ∨ z5 = 3 ∨ z5 = 40 ∨ z5 = 95 by omega) with c6 | c6 | c6 | c6 | c6
  · refine k_lsw (t := 193) rfl (by omega) (by decide) (lsw_no (by intro q9 hq9; simp only [List.mem_cons, List.not_mem_nil, or_false] at hq9; rcases hq9 with rfl | rfl | rfl | rfl <;> (dsimp only; omega))) rfl ?_
    refine k_run 1 (pc' := 194) (l' := [(0, .inr (.inr 361)), (1, .inl a), (2, .inl b), (3, .inl 1)]) (st' := [.inr (.inr 361)]) rfl ?_
    refine h_cv (i := 89) (j := 85) (b := 361) (M' := mt_85) (xs := []) (rest := []) rfl rfl rfl rfl (zs_K (x := kx_361) rfl (by decide)) rfl (Nat.le_of_ble_eq_true rfl) (Nat.le_of_ble_eq_true rfl) (by omega) (k_Reader_misplaced (by omega) hI ) ?_
    rintro _ H8 ⟨z11, rfl, g7, hI9, hq10⟩
    have hf12 : fq [(361, 3), (361, 4), (361, 5), (361, 9)] [362] true H H8 := fq_t (fq_rf _ _ _ _) hq10 rfl rfl rfl
    refine k_run 0 (pc' := 197) (l' := [(0, .inr (.inr 361)), (1, .inl a), (2, .inl b), (3, .inl 1)]) (st' := [.inl z11]) rfl ?_
    refine h_retz (x := z11) rfl rfl (by omega) ?_
    exact ⟨_, rfl, (by omega), hI9, hf12⟩
  · refine k_lsw (t := 48) rfl (by omega) (by decide) (by rw [c6]) rfl ?_
    refine k_run 4 (pc' := 56) (l' := [(0, .inr (.inr 361)), (1, .inl a), (2, .inl b), (3, .inl 1)]) (st' := [.inr (.inr 361), .inr (.inr 18)]) rfl ?_
    refine h_cv (i := 120) (j := 84) (b := 361) (M' := mt_84) (xs := []) (rest := [.inr (.inr 18)]) rfl rfl rfl rfl (zs_K (x := kx_361) rfl (by decide)) rfl (Nat.le_of_ble_eq_true rfl) (Nat.le_of_ble_eq_true rfl) (by omega) (k_Reader_name (by omega) hI ) ?_
    rintro _ _ ⟨z17, rfl, g13, rfl⟩
    refine k_run 0 (pc' := 59) (l' := [(0, .inr (.inr 361)), (1, .inl a), (2, .inl b), (3, .inl 1)]) (st' := [.inr (.inl z17), .inr (.inr 18)]) rfl ?_
    have g18 : 0 ≤ (H.1 18 4) ∧ (H.1 18 4) ≤ 16 := kn (x := kx_18) hI rfl 4
    refine h_cv (i := 124) (j := 41) (b := 18) (M' := mt_41) (xs := [.inr (.inl z17)]) (rest := []) rfl rfl rfl rfl (zs_K (x := kx_18) rfl (by decide)) rfl (Nat.le_of_ble_eq_true rfl) (Nat.le_of_ble_eq_true rfl) (by omega) (k_Symbols_find_18 (by omega) hI ) ?_
    rintro _ _ ⟨z23, rfl, g19, rfl⟩
    refine k_run 0 (pc' := 62) (l' := [(0, .inr (.inr 361)), (1, .inl a), (2, .inl b), (3, .inl 1)]) (st' := [.inl z23]) rfl ?_
    refine k_run 2 (pc' := 66) (l' := [(0, .inr (.inr 361)), (1, .inl a), (2, .inl b), (3, .inl 1), (4, .inl z23)]) (st' := [.inl z23]) rfl ?_
    refine h_zge (off := 9) (t := 75) rfl rfl (by omega) (fun c24 => ?_) (fun c24 => ?_)
    · refine k_run 0 (pc' := 75) (l' := [(0, .inr (.inr 361)), (1, .inl a), (2, .inl b), (3, .inl 1), (4, .inl z23)]) (st' := []) rfl ?_
      refine k_run 6 (pc' := 82) (l' := [(0, .inr (.inr 361)), (1, .inl a), (2, .inl b), (3, .inl 1), (4, .inl z23)]) (st' := [.inl 1, .inl b, .inl a, .inl z23, .inl 2, .inr (.inr 361)]) rfl ?_
      refine h_cv (i := 215) (j := 74) (b := 361) (M' := mt_74) (xs := [.inl 1, .inl b, .inl a, .inl z23, .inl 2]) (rest := []) rfl rfl rfl rfl (zs_K (x := kx_361) rfl (by decide)) rfl (Nat.le_of_ble_eq_true rfl) (Nat.le_of_ble_eq_true rfl) (by omega) (k_readApplied_a2 (by omega) hI (by omega) (by omega) (by omega) (by omega) (by omega)) ?_
      rintro _ H26 ⟨z29, rfl, g25, hI27, hq28⟩
      have hf30 : fq [(361, 3), (361, 4), (361, 5), (361, 9)] [362] true H H26 := fq_t (fq_rf _ _ _ _) hq28 rfl rfl rfl
      refine k_run 0 (pc' := 85) (l' := [(0, .inr (.inr 361)), (1, .inl a), (2, .inl b), (3, .inl 1), (4, .inl z23)]) (st' := [.inl z29]) rfl ?_
      refine h_retz (x := z29) rfl rfl (by omega) ?_
      exact ⟨_, rfl, (by omega), hI27, hf30⟩
    · refine k_run 0 (pc' := 69) (l' := [(0, .inr (.inr 361)), (1, .inl a), (2, .inl b), (3, .inl 1), (4, .inl z23)]) (st' := []) rfl ?_
      refine k_run 2 (pc' := 71) (l' := [(0, .inr (.inr 361)), (1, .inl a), (2, .inl b), (3, .inl 1), (4, .inl z23)]) (st' := [.inl a, .inr (.inr 361)]) rfl ?_
      refine h_cv (i := 212) (j := 75) (b := 361) (M' := mt_75) (xs := [.inl a]) (rest := []) rfl rfl rfl rfl (zs_K (x := kx_361) rfl (by decide)) rfl (Nat.le_of_ble_eq_true rfl) (Nat.le_of_ble_eq_true rfl) (by omega) (k_Reader_readVariable (by omega) hI (by omega) (by omega)) ?_
      rintro _ H32 ⟨z35, rfl, g31, hI33, hq34⟩
      have hf36 : fq [(361, 3), (361, 4), (361, 5), (361, 9)] [362] true H H32 := fq_t (fq_rf _ _ _ _) hq34 rfl rfl rfl
      refine k_run 0 (pc' := 74) (l' := [(0, .inr (.inr 361)), (1, .inl a), (2, .inl b), (3, .inl 1), (4, .inl z23)]) (st' := [.inl z35]) rfl ?_
      refine h_retz (x := z35) rfl rfl (by omega) ?_
      exact ⟨_, rfl, (by omega), hI33, hf36⟩
  · refine k_lsw (t := 86) rfl (by omega) (by decide) (by rw [c6]) rfl ?_
    refine k_run 4 (pc' := 94) (l' := [(0, .inr (.inr 361)), (1, .inl a), (2, .inl b), (3, .inl 1)]) (st' := [.inr (.inr 361), .inr (.inr 13)]) rfl ?_
    refine h_cv (i := 120) (j := 84) (b := 361) (M' := mt_84) (xs := []) (rest := [.inr (.inr 13)]) rfl rfl rfl rfl (zs_K (x := kx_361) rfl (by decide)) rfl (Nat.le_of_ble_eq_true rfl) (Nat.le_of_ble_eq_true rfl) (by omega) (k_Reader_name (by omega) hI ) ?_
    rintro _ _ ⟨z41, rfl, g37, rfl⟩
    refine k_run 0 (pc' := 97) (l' := [(0, .inr (.inr 361)), (1, .inl a), (2, .inl b), (3, .inl 1)]) (st' := [.inr (.inl z41), .inr (.inr 13)]) rfl ?_
    have g42 : 0 ≤ (H.1 13 4) ∧ (H.1 13 4) ≤ 16 := kn (x := kx_13) hI rfl 4
    refine h_cv (i := 124) (j := 41) (b := 13) (M' := mt_41) (xs := [.inr (.inl z41)]) (rest := []) rfl rfl rfl rfl (zs_K (x := kx_13) rfl (by decide)) rfl (Nat.le_of_ble_eq_true rfl) (Nat.le_of_ble_eq_true rfl) (by omega) (k_Symbols_find_13 (by omega) hI ) ?_
    rintro _ _ ⟨z47, rfl, g43, rfl⟩
    refine k_run 0 (pc' := 100) (l' := [(0, .inr (.inr 361)), (1, .inl a), (2, .inl b), (3, .inl 1)]) (st' := [.inl z47]) rfl ?_
    refine k_run 2 (pc' := 104) (l' := [(0, .inr (.inr 361)), (1, .inl a), (2, .inl b), (3, .inl 1), (5, .inl z47)]) (st' := [.inl z47]) rfl ?_
    refine h_zge (off := 9) (t := 113) rfl rfl (by omega) (fun c48 => ?_) (fun c48 => ?_)
    · refine k_run 0 (pc' := 113) (l' := [(0, .inr (.inr 361)), (1, .inl a), (2, .inl b), (3, .inl 1), (5, .inl z47)]) (st' := []) rfl ?_
      refine k_run 6 (pc' := 120) (l' := [(0, .inr (.inr 361)), (1, .inl a), (2, .inl b), (3, .inl 1), (5, .inl z47)]) (st' := [.inl 1, .inl b, .inl a, .inl z47, .inl 1, .inr (.inr 361)]) rfl ?_
      refine h_cv (i := 215) (j := 74) (b := 361) (M' := mt_74) (xs := [.inl 1, .inl b, .inl a, .inl z47, .inl 1]) (rest := []) rfl rfl rfl rfl (zs_K (x := kx_361) rfl (by decide)) rfl (Nat.le_of_ble_eq_true rfl) (Nat.le_of_ble_eq_true rfl) (by omega) (k_readApplied_a1 (by omega) hI (by omega) (by omega) (by omega) (by omega) (by omega)) ?_
      rintro _ H50 ⟨z53, rfl, g49, hI51, hq52⟩
      have hf54 : fq [(361, 3), (361, 4), (361, 5), (361, 9)] [362] true H H50 := fq_t (fq_rf _ _ _ _) hq52 rfl rfl rfl
      refine k_run 0 (pc' := 123) (l' := [(0, .inr (.inr 361)), (1, .inl a), (2, .inl b), (3, .inl 1), (5, .inl z47)]) (st' := [.inl z53]) rfl ?_
      refine h_retz (x := z53) rfl rfl (by omega) ?_
      exact ⟨_, rfl, (by omega), hI51, hf54⟩
    · refine k_run 0 (pc' := 107) (l' := [(0, .inr (.inr 361)), (1, .inl a), (2, .inl b), (3, .inl 1), (5, .inl z47)]) (st' := []) rfl ?_
      refine k_run 2 (pc' := 109) (l' := [(0, .inr (.inr 361)), (1, .inl a), (2, .inl b), (3, .inl 1), (5, .inl z47)]) (st' := [.inl 3, .inr (.inr 361)]) rfl ?_
      refine h_cv (i := 128) (j := 86) (b := 361) (M' := mt_86) (xs := [.inl 3]) (rest := []) rfl rfl rfl rfl (zs_K (x := kx_361) rfl (by decide)) rfl (Nat.le_of_ble_eq_true rfl) (Nat.le_of_ble_eq_true rfl) (by omega) (k_Reader_fails (by omega) hI (by decide)) ?_
      rintro _ H56 ⟨z59, rfl, g55, hI57, hq58⟩
      have hf60 : fq [(361, 3), (361, 4), (361, 5), (361, 9)] [362] true H H56 := fq_t (fq_rf _ _ _ _) hq58 rfl rfl rfl
      refine k_run 0 (pc' := 112) (l' := [(0, .inr (.inr 361)), (1, .inl a), (2, .inl b), (3, .inl 1), (5, .inl z47)]) (st' := [.inl z59]) rfl ?_
      refine h_retz (x := z59) rfl rfl (by omega) ?_
      exact ⟨_, rfl, (by omega), hI57, hf60⟩
  · refine k_lsw (t := 144) rfl (by omega) (by decide) (by rw [c6]) rfl ?_
    refine k_run 2 (pc' := 147) (l' := [(0, .inr (.inr 361)), (1, .inl a), (2, .inl b), (3, .inl 1)]) (st' := [.inl 10, .inl b]) rfl ?_
    refine h_ilt (off := 9) (t := 156) rfl rfl (by omega) (by decide) (fun c61 => ?_) (fun c61 => ?_)
    · refine k_run 0 (pc' := 156) (l' := [(0, .inr (.inr 361)), (1, .inl a), (2, .inl b), (3, .inl 1)]) (st' := []) rfl ?_
      refine k_run 3 (pc' := 161) (l' := [(0, .inr (.inr 361)), (1, .inl a), (2, .inl b), (3, .inl 1)]) (st' := [.inl (H.1 361 3), .inr (.inr 361)]) rfl ?_
      have g62 : -2147483648 ≤ (H.1 361 3) ∧ (H.1 361 3) ≤ 2147483647 := kn (x := kx_361) hI rfl 3
      refine k_run 2 (pc' := 163) (l' := [(0, .inr (.inr 361)), (1, .inl a), (2, .inl b), (3, .inl 1)]) (st' := [.inl ((H.1 361 3) + 1), .inr (.inr 361)]) rfl ?_
      refine k_putw (a := 361) (x := kx_361) rfl rfl rfl (by decide) (by decide) rfl rfl rfl rfl hI rfl (fun H63 hI64 hw65 => ?_)
      have hf67 : fq [(361, 3), (361, 4), (361, 5), (361, 9)] [362] true H H63 := fq_w (fq_rf _ _ _ _) hw65 (fpo (by decide) rfl)
      refine k_run 0 (pc' := 166) (l' := [(0, .inr (.inr 361)), (1, .inl a), (2, .inl b), (3, .inl 1)]) (st' := []) rfl ?_
      refine k_run 6 (pc' := 172) (l' := [(0, .inr (.inr 361)), (1, .inl a), (2, .inl b), (3, .inl 1)]) (st' := [.inl 0, .inl (b + 1), .inl a, .inr (.inr 361)]) rfl ?_
      refine h_cv (i := 109) (j := 73) (b := 361) (M' := mt_73) (xs := [.inl 0, .inl (b + 1), .inl a]) (rest := []) rfl rfl rfl rfl (zs_K (x := kx_361) rfl (by decide)) rfl (Nat.le_of_ble_eq_true rfl) (Nat.le_of_ble_eq_true rfl) (by omega) (hR (m - 1) (by omega) (by omega) hI64 (by omega) (by omega) (by decide) (by omega)) ?_
      rintro _ H69 ⟨z72, rfl, g68, hI70, hq71⟩
      have hf73 : fq [(361, 3), (361, 4), (361, 5), (361, 9)] [362] true H H69 := fq_t hf67 hq71 rfl rfl rfl
      refine k_run 0 (pc' := 175) (l' := [(0, .inr (.inr 361)), (1, .inl a), (2, .inl b), (3, .inl 1)]) (st' := [.inl z72]) rfl ?_
      refine h_zeq (off := 16) (t := 191) rfl rfl (by omega) (fun c74 => ?_) (fun c74 => ?_)
      · refine k_run 0 (pc' := 191) (l' := [(0, .inr (.inr 361)), (1, .inl a), (2, .inl b), (3, .inl 1)]) (st' := []) rfl ?_
        refine k_run 1 (pc' := 192) (l' := [(0, .inr (.inr 361)), (1, .inl a), (2, .inl b), (3, .inl 1)]) (st' := [.inl 0]) rfl ?_
        refine h_retz (x := 0) rfl rfl (by decide) ?_
        exact ⟨_, rfl, (by omega), hI70, hf73⟩
      · refine k_run 0 (pc' := 178) (l' := [(0, .inr (.inr 361)), (1, .inl a), (2, .inl b), (3, .inl 1)]) (st' := []) rfl ?_
        refine k_run 2 (pc' := 181) (l' := [(0, .inr (.inr 361)), (1, .inl a), (2, .inl b), (3, .inl 1)]) (st' := [.inl 41, .inr (.inr 361)]) rfl ?_
        refine h_cv (i := 92) (j := 82) (b := 361) (M' := mt_82) (xs := [.inl 41]) (rest := []) rfl rfl rfl rfl (zs_K (x := kx_361) rfl (by decide)) rfl (Nat.le_of_ble_eq_true rfl) (Nat.le_of_ble_eq_true rfl) (by omega) (k_Reader_take (by omega) hI70 (by decide)) ?_
        rintro _ H76 ⟨z79, rfl, g75, hI77, hq78⟩
        have hf80 : fq [(361, 3), (361, 4), (361, 5), (361, 9)] [362] true H H76 := fq_t hf73 hq78 rfl rfl rfl
        refine k_run 0 (pc' := 184) (l' := [(0, .inr (.inr 361)), (1, .inl a), (2, .inl b), (3, .inl 1)]) (st' := [.inl z79]) rfl ?_
        refine h_zeq (off := 7) (t := 191) rfl rfl (by omega) (fun c81 => ?_) (fun c81 => ?_)
        · refine k_run 0 (pc' := 191) (l' := [(0, .inr (.inr 361)), (1, .inl a), (2, .inl b), (3, .inl 1)]) (st' := []) rfl ?_
          refine k_run 1 (pc' := 192) (l' := [(0, .inr (.inr 361)), (1, .inl a), (2, .inl b), (3, .inl 1)]) (st' := [.inl 0]) rfl ?_
          refine h_retz (x := 0) rfl rfl (by decide) ?_
          exact ⟨_, rfl, (by omega), hI77, hf80⟩
        · refine k_run 0 (pc' := 187) (l' := [(0, .inr (.inr 361)), (1, .inl a), (2, .inl b), (3, .inl 1)]) (st' := []) rfl ?_
          refine k_run 2 (pc' := 192) (l' := [(0, .inr (.inr 361)), (1, .inl a), (2, .inl b), (3, .inl 1)]) (st' := [.inl 1]) rfl ?_
          refine h_retz (x := 1) rfl rfl (by decide) ?_
          exact ⟨_, rfl, (by omega), hI77, hf80⟩
    · refine k_run 0 (pc' := 150) (l' := [(0, .inr (.inr 361)), (1, .inl a), (2, .inl b), (3, .inl 1)]) (st' := []) rfl ?_
      refine k_run 2 (pc' := 152) (l' := [(0, .inr (.inr 361)), (1, .inl a), (2, .inl b), (3, .inl 1)]) (st' := [.inl 5, .inr (.inr 361)]) rfl ?_
      refine h_cv (i := 128) (j := 86) (b := 361) (M' := mt_86) (xs := [.inl 5]) (rest := []) rfl rfl rfl rfl (zs_K (x := kx_361) rfl (by decide)) rfl (Nat.le_of_ble_eq_true rfl) (Nat.le_of_ble_eq_true rfl) (by omega) (k_Reader_fails (by omega) hI (by decide)) ?_
      rintro _ H83 ⟨z86, rfl, g82, hI84, hq85⟩
      have hf87 : fq [(361, 3), (361, 4), (361, 5), (361, 9)] [362] true H H83 := fq_t (fq_rf _ _ _ _) hq85 rfl rfl rfl
      refine k_run 0 (pc' := 155) (l' := [(0, .inr (.inr 361)), (1, .inl a), (2, .inl b), (3, .inl 1)]) (st' := [.inl z86]) rfl ?_
      refine h_retz (x := z86) rfl rfl (by omega) ?_
      exact ⟨_, rfl, (by omega), hI84, hf87⟩
  · refine k_lsw (t := 124) rfl (by omega) (by decide) (by rw [c6]) rfl ?_
    refine k_run 2 (pc' := 127) (l' := [(0, .inr (.inr 361)), (1, .inl a), (2, .inl b), (3, .inl 1)]) (st' := [.inl (-2), .inl a]) rfl ?_
    refine h_ine (off := 11) (t := 138) rfl rfl (by omega) (by decide) (fun c88 => ?_) (fun c88 => ?_)
    · refine k_run 0 (pc' := 138) (l' := [(0, .inr (.inr 361)), (1, .inl a), (2, .inl b), (3, .inl 1)]) (st' := []) rfl ?_
      refine k_run 2 (pc' := 140) (l' := [(0, .inr (.inr 361)), (1, .inl a), (2, .inl b), (3, .inl 1)]) (st' := [.inl 0, .inr (.inr 361)]) rfl ?_
      refine h_cv (i := 157) (j := 77) (b := 361) (M' := mt_77) (xs := [.inl 0]) (rest := []) rfl rfl rfl rfl (zs_K (x := kx_361) rfl (by decide)) rfl (Nat.le_of_ble_eq_true rfl) (Nat.le_of_ble_eq_true rfl) (by omega) (k_Reader_addName (by omega) hI (by decide)) ?_
      rintro _ H90 ⟨z93, rfl, g89, hI91, hq92⟩
      have hf94 : fq [(361, 3), (361, 4), (361, 5), (361, 9)] [362] true H H90 := fq_t (fq_rf _ _ _ _) hq92 rfl rfl rfl
      refine k_run 0 (pc' := 143) (l' := [(0, .inr (.inr 361)), (1, .inl a), (2, .inl b), (3, .inl 1)]) (st' := [.inl z93]) rfl ?_
      refine h_retz (x := z93) rfl rfl (by omega) ?_
      exact ⟨_, rfl, (by omega), hI91, hf94⟩
    · refine k_run 0 (pc' := 130) (l' := [(0, .inr (.inr 361)), (1, .inl a), (2, .inl b), (3, .inl 1)]) (st' := []) rfl ?_
      refine k_run 2 (pc' := 132) (l' := [(0, .inr (.inr 361)), (1, .inl a), (2, .inl b), (3, .inl 1)]) (st' := [.inl 2, .inr (.inr 361)]) rfl ?_
      refine h_cv (i := 128) (j := 86) (b := 361) (M' := mt_86) (xs := [.inl 2]) (rest := []) rfl rfl rfl rfl (zs_K (x := kx_361) rfl (by decide)) rfl (Nat.le_of_ble_eq_true rfl) (Nat.le_of_ble_eq_true rfl) (by omega) (k_Reader_fails (by omega) hI (by decide)) ?_
      rintro _ H96 ⟨z99, rfl, g95, hI97, hq98⟩
      have hf100 : fq [(361, 3), (361, 4), (361, 5), (361, 9)] [362] true H H96 := fq_t (fq_rf _ _ _ _) hq98 rfl rfl rfl
      refine k_run 0 (pc' := 135) (l' := [(0, .inr (.inr 361)), (1, .inl a), (2, .inl b), (3, .inl 1)]) (st' := [.inl z99]) rfl ?_
      refine k_run 1 (pc' := 143) (l' := [(0, .inr (.inr 361)), (1, .inl a), (2, .inl b), (3, .inl 1)]) (st' := [.inl z99]) rfl ?_
      refine h_retz (x := z99) rfl rfl (by omega) ?_
      exact ⟨_, rfl, (by omega), hI97, hf100⟩

/-! Reader.readApplied -/
set_option maxRecDepth 100000 in
theorem k_readApplied_2_cut {m : Nat} {d : Nat} (hd : 3 * m + 9 ≤ d) {H : hp} (hI : Inv H) {x : Int} {a : Int} {b : Int} {c : Int} (hx : -2147483648 ≤ x ∧ x ≤ 2147483647) (ha : -2147483648 ≤ a ∧ a ≤ 2147483647) (hb : -2147483648 ≤ b ∧ b ≤ 2147483647) (hc : 0 ≤ c ∧ c ≤ 1) (hp0 : 0 ≤ x ∧ x < 16) (hp1 : -2 ≤ a ∧ a ≤ 100 ∧ 0 ≤ b ∧ b ≤ 10 ∧ 10 ≤ b + (m : Int)) (hR1 : RT1c m) : ∀ w : Nat, (∀ (H1 : hp), Inv H1 → fq [(361, 3), (361, 4), (361, 5), (361, 9)] [362] true H H1 → ∀ (x7 : Int) (x8 : Int) (x9 : Int) , (-2147483648 ≤ x7 ∧ x7 ≤ 2147483647) → (-2147483648 ≤ x8 ∧ x8 ≤ 2147483647) → (-2147483648 ≤ x9 ∧ x9 ≤ 2147483647) → (0 ≤ x9) → (x7 ≤ 4) → (0 ≤ x8 ∧ x8 ≤ 1) → (((100 - x9).toNat) < w) → hG (zs zK) d mt_74 86 [(0, .inr (.inr 361)), (1, .inl 2), (2, .inl x), (3, .inl a), (4, .inl b), (5, .inl c), (6, .inr (.inr 18)), (7, .inl x7), (8, .inl x8), (9, .inl x9)] [] H1 (fun r9 H9 => ∃ z : Int, r9 = some (.inl z) ∧ ((0 ≤ z ∧ z ≤ 1)) ∧ Inv H9 ∧ fq [(361, 3), (361, 4), (361, 5), (361, 9)] [362] true H H9)) := by
  intro w
  induction w with
  | zero => exact fun _ _ _ _ _ _ _ _ _ _ _ _ h => absurd h (Nat.not_lt_zero _)
  | succ w ih =>
    intro H1 hI1 hf1 x7 x8 x9 hx7 hx8 hx9 hi0 hi1 hi2 hw
    refine k_run 1 (pc' := 88) (l' := [(0, .inr (.inr 361)), (1, .inl 2), (2, .inl x), (3, .inl a), (4, .inl b), (5, .inl c), (6, .inr (.inr 18)), (7, .inl x7), (8, .inl x8), (9, .inl x9)]) (st' := [.inl x8]) rfl ?_
    refine h_zeq (off := 33) (t := 121) rfl rfl (by omega) (fun c72 => ?_) (fun c72 => ?_)
    · refine k_run 0 (pc' := 121) (l' := [(0, .inr (.inr 361)), (1, .inl 2), (2, .inl x), (3, .inl a), (4, .inl b), (5, .inl c), (6, .inr (.inr 18)), (7, .inl x7), (8, .inl x8), (9, .inl x9)]) (st' := []) rfl ?_
      refine k_run 1 (pc' := 123) (l' := [(0, .inr (.inr 361)), (1, .inl 2), (2, .inl x), (3, .inl a), (4, .inl b), (5, .inl c), (6, .inr (.inr 18)), (7, .inl x7), (8, .inl x8), (9, .inl x9)]) (st' := [.inl x8]) rfl ?_
      refine h_retz (x := x8) rfl rfl (by omega) ?_
      exact ⟨_, rfl, (by omega), hI1, hf1⟩
    · refine k_run 0 (pc' := 91) (l' := [(0, .inr (.inr 361)), (1, .inl 2), (2, .inl x), (3, .inl a), (4, .inl b), (5, .inl c), (6, .inr (.inr 18)), (7, .inl x7), (8, .inl x8), (9, .inl x9)]) (st' := []) rfl ?_
      refine k_run 2 (pc' := 95) (l' := [(0, .inr (.inr 361)), (1, .inl 2), (2, .inl x), (3, .inl a), (4, .inl b), (5, .inl c), (6, .inr (.inr 18)), (7, .inl x7), (8, .inl x8), (9, .inl x9)]) (st' := [.inl x7, .inl x9]) rfl ?_
      refine h_ige (off := 26) (t := 121) rfl rfl (by omega) (by omega) (fun c73 => ?_) (fun c73 => ?_)
      · refine k_run 0 (pc' := 121) (l' := [(0, .inr (.inr 361)), (1, .inl 2), (2, .inl x), (3, .inl a), (4, .inl b), (5, .inl c), (6, .inr (.inr 18)), (7, .inl x7), (8, .inl x8), (9, .inl x9)]) (st' := []) rfl ?_
        refine k_run 1 (pc' := 123) (l' := [(0, .inr (.inr 361)), (1, .inl 2), (2, .inl x), (3, .inl a), (4, .inl b), (5, .inl c), (6, .inr (.inr 18)), (7, .inl x7), (8, .inl x8), (9, .inl x9)]) (st' := [.inl x8]) rfl ?_
        refine h_retz (x := x8) rfl rfl (by omega) ?_
        exact ⟨_, rfl, (by omega), hI1, hf1⟩
      · refine k_run 0 (pc' := 98) (l' := [(0, .inr (.inr 361)), (1, .inl 2), (2, .inl x), (3, .inl a), (4, .inl b), (5, .inl c), (6, .inr (.inr 18)), (7, .inl x7), (8, .inl x8), (9, .inl x9)]) (st' := []) rfl ?_
        refine k_run 4 (pc' := 104) (l' := [(0, .inr (.inr 361)), (1, .inl 2), (2, .inl x), (3, .inl a), (4, .inl b), (5, .inl c), (6, .inr (.inr 18)), (7, .inl x7), (8, .inl x8), (9, .inl x9)]) (st' := [.inl x9, .inl x, .inr (.inr 18), .inr (.inr 361)]) rfl ?_
        refine h_cv (i := 160) (j := 45) (b := 18) (M' := mt_45) (xs := [.inl x9, .inl x]) (rest := [.inr (.inr 361)]) rfl rfl rfl rfl (zs_K (x := kx_18) rfl (by decide)) rfl (Nat.le_of_ble_eq_true rfl) (Nat.le_of_ble_eq_true rfl) (by omega) (k_Symbols_argument_18 (by omega) hI1 (by omega) (by omega) (by omega)) ?_
        rintro _ _ ⟨z78, rfl, g74, rfl⟩
        refine k_run 0 (pc' := 107) (l' := [(0, .inr (.inr 361)), (1, .inl 2), (2, .inl x), (3, .inl a), (4, .inl b), (5, .inl c), (6, .inr (.inr 18)), (7, .inl x7), (8, .inl x8), (9, .inl x9)]) (st' := [.inl z78, .inr (.inr 361)]) rfl ?_
        refine k_run 2 (pc' := 110) (l' := [(0, .inr (.inr 361)), (1, .inl 2), (2, .inl x), (3, .inl a), (4, .inl b), (5, .inl c), (6, .inr (.inr 18)), (7, .inl x7), (8, .inl x8), (9, .inl x9)]) (st' := [.inl 1, .inl b, .inl z78, .inr (.inr 361)]) rfl ?_
        refine h_cv (i := 109) (j := 73) (b := 361) (M' := mt_73) (xs := [.inl 1, .inl b, .inl z78]) (rest := []) rfl rfl rfl rfl (zs_K (x := kx_361) rfl (by decide)) rfl (Nat.le_of_ble_eq_true rfl) (Nat.le_of_ble_eq_true rfl) (by omega) (hR1 (by omega) hI1 (by omega) (by omega) (by omega)) ?_
        rintro _ H80 ⟨z83, rfl, g79, hI81, hq82⟩
        have hf84 : fq [(361, 3), (361, 4), (361, 5), (361, 9)] [362] true H H80 := fq_t hf1 hq82 rfl rfl rfl
        refine k_run 0 (pc' := 113) (l' := [(0, .inr (.inr 361)), (1, .inl 2), (2, .inl x), (3, .inl a), (4, .inl b), (5, .inl c), (6, .inr (.inr 18)), (7, .inl x7), (8, .inl x8), (9, .inl x9)]) (st' := [.inl z83]) rfl ?_
        refine k_run 3 (pc' := 86) (l' := [(0, .inr (.inr 361)), (1, .inl 2), (2, .inl x), (3, .inl a), (4, .inl b), (5, .inl c), (6, .inr (.inr 18)), (7, .inl x7), (8, .inl z83), (9, .inl (x9 + 1))]) (st' := []) rfl ?_
        exact ih H80 hI81 hf84 x7 z83 (x9 + 1) (by omega) (by omega) (by omega) (by omega) (by omega) (by omega) (by omega)
set_option maxRecDepth 100000 in
theorem k_readApplied_2 {m : Nat} {d : Nat} (hd : 3 * m + 9 ≤ d) {H : hp} (hI : Inv H) {x : Int} {a : Int} {b : Int} {c : Int} (hx : -2147483648 ≤ x ∧ x ≤ 2147483647) (ha : -2147483648 ≤ a ∧ a ≤ 2147483647) (hb : -2147483648 ≤ b ∧ b ≤ 2147483647) (hc : 0 ≤ c ∧ c ≤ 1) (hp0 : 0 ≤ x ∧ x < 16) (hp1 : -2 ≤ a ∧ a ≤ 100 ∧ 0 ≤ b ∧ b ≤ 10 ∧ 10 ≤ b + (m : Int)) (hR1 : RT1c m) : hG (zs zK) d mt_74 0 (zargs 0 [.inr (.inr 361), .inl 2, .inl x, .inl a, .inl b, .inl c]) [] H (fun r9 H9 => ∃ z : Int, r9 = some (.inl z) ∧ ((0 ≤ z ∧ z ≤ 1)) ∧ Inv H9 ∧ fq [(361, 3), (361, 4), (361, 5), (361, 9)] [362] true H H9) := by
  refine k_run 0 (pc' := 0) (l' := [(0, .inr (.inr 361)), (1, .inl 2), (2, .inl x), (3, .inl a), (4, .inl b), (5, .inl c)]) (st' := []) rfl ?_
  refine k_run 2 (pc' := 2) (l' := [(0, .inr (.inr 361)), (1, .inl 2), (2, .inl x), (3, .inl a), (4, .inl b), (5, .inl c)]) (st' := [.inl 2, .inl 2]) rfl ?_
  refine h_ine (off := 13) (t := 15) rfl rfl (by decide) (by decide) (fun c => absurd c (by decide)) (fun _ => ?_)
  refine k_run 0 (pc' := 5) (l' := [(0, .inr (.inr 361)), (1, .inl 2), (2, .inl x), (3, .inl a), (4, .inl b), (5, .inl c)]) (st' := []) rfl ?_
  refine k_run 8 (pc' := 30) (l' := [(0, .inr (.inr 361)), (1, .inl 2), (2, .inl x), (3, .inl a), (4, .inl b), (5, .inl c), (6, .inr (.inr 18))]) (st' := [.inl x, .inr (.inr 21)]) rfl ?_
  refine k_ild (c := 21) (j := (x).toNat) (i := x) (x := kx_21) rfl rfl (by decide) rfl (by decide) (by omega) (by omega) ?_
  have g1 : 0 ≤ (H.1 21 (x).toNat) ∧ (H.1 21 (x).toNat) ≤ 4 := kn (x := kx_21) hI rfl (x).toNat
  refine k_run 0 (pc' := 31) (l' := [(0, .inr (.inr 361)), (1, .inl 2), (2, .inl x), (3, .inl a), (4, .inl b), (5, .inl c), (6, .inr (.inr 18))]) (st' := [.inl (H.1 21 (x).toNat)]) rfl ?_
  refine k_run 2 (pc' := 35) (l' := [(0, .inr (.inr 361)), (1, .inl 2), (2, .inl x), (3, .inl a), (4, .inl b), (5, .inl c), (6, .inr (.inr 18)), (7, .inl (H.1 21 (x).toNat))]) (st' := [.inl c]) rfl ?_
  refine h_zeq (off := 14) (t := 49) rfl rfl (by omega) (fun c2 => ?_) (fun c2 => ?_)
  · refine k_run 0 (pc' := 49) (l' := [(0, .inr (.inr 361)), (1, .inl 2), (2, .inl x), (3, .inl a), (4, .inl b), (5, .inl c), (6, .inr (.inr 18)), (7, .inl (H.1 21 (x).toNat))]) (st' := []) rfl ?_
    refine k_run 1 (pc' := 50) (l' := [(0, .inr (.inr 361)), (1, .inl 2), (2, .inl x), (3, .inl a), (4, .inl b), (5, .inl c), (6, .inr (.inr 18)), (7, .inl (H.1 21 (x).toNat))]) (st' := [.inl a]) rfl ?_
    refine h_zlt (off := 20) (t := 70) rfl rfl (by omega) (fun c3 => ?_) (fun c3 => ?_)
    · refine k_run 0 (pc' := 70) (l' := [(0, .inr (.inr 361)), (1, .inl 2), (2, .inl x), (3, .inl a), (4, .inl b), (5, .inl c), (6, .inr (.inr 18)), (7, .inl (H.1 21 (x).toNat))]) (st' := []) rfl ?_
      refine k_run 4 (pc' := 75) (l' := [(0, .inr (.inr 361)), (1, .inl 2), (2, .inl x), (3, .inl a), (4, .inl b), (5, .inl c), (6, .inr (.inr 18)), (7, .inl (H.1 21 (x).toNat))]) (st' := [.inl (H.1 21 (x).toNat), .inl x, .inl 2, .inr (.inr 361)]) rfl ?_
      refine h_cs (i := 153) (j := 48) (M' := mt_48) (xs := [.inl (H.1 21 (x).toNat), .inl x, .inl 2]) (rest := [.inr (.inr 361)]) rfl rfl rfl rfl rfl (Nat.le_of_ble_eq_true rfl) (Nat.le_of_ble_eq_true rfl) (by omega) (k_Term_codeOf (by omega)  (by decide) (by omega) (by omega)) ?_
      rintro _ _ ⟨z8, rfl, g4, rfl⟩
      refine k_run 0 (pc' := 78) (l' := [(0, .inr (.inr 361)), (1, .inl 2), (2, .inl x), (3, .inl a), (4, .inl b), (5, .inl c), (6, .inr (.inr 18)), (7, .inl (H.1 21 (x).toNat))]) (st' := [.inl z8, .inr (.inr 361)]) rfl ?_
      refine h_cv (i := 157) (j := 77) (b := 361) (M' := mt_77) (xs := [.inl z8]) (rest := []) rfl rfl rfl rfl (zs_K (x := kx_361) rfl (by decide)) rfl (Nat.le_of_ble_eq_true rfl) (Nat.le_of_ble_eq_true rfl) (by omega) (k_Reader_addName (by omega) hI (by omega)) ?_
      rintro _ H10 ⟨z13, rfl, g9, hI11, hq12⟩
      have hf14 : fq [(361, 3), (361, 4), (361, 5), (361, 9)] [362] true H H10 := fq_t (fq_rf _ _ _ _) hq12 rfl rfl rfl
      refine k_run 0 (pc' := 81) (l' := [(0, .inr (.inr 361)), (1, .inl 2), (2, .inl x), (3, .inl a), (4, .inl b), (5, .inl c), (6, .inr (.inr 18)), (7, .inl (H.1 21 (x).toNat))]) (st' := [.inl z13]) rfl ?_
      refine k_run 3 (pc' := 86) (l' := [(0, .inr (.inr 361)), (1, .inl 2), (2, .inl x), (3, .inl a), (4, .inl b), (5, .inl c), (6, .inr (.inr 18)), (7, .inl (H.1 21 (x).toNat)), (8, .inl z13), (9, .inl 0)]) (st' := []) rfl ?_
      exact (k_readApplied_2_cut hd hI hx ha hb hc hp0 hp1 hR1 _) H10 hI11 hf14 (H.1 21 (x).toNat) z13 (0 : Int) (by omega) (by omega) (by decide) (by omega) (by omega) (by omega) (Nat.lt_succ_self _)
    · refine k_run 0 (pc' := 53) (l' := [(0, .inr (.inr 361)), (1, .inl 2), (2, .inl x), (3, .inl a), (4, .inl b), (5, .inl c), (6, .inr (.inr 18)), (7, .inl (H.1 21 (x).toNat))]) (st' := []) rfl ?_
      refine k_run 3 (pc' := 59) (l' := [(0, .inr (.inr 361)), (1, .inl 2), (2, .inl x), (3, .inl a), (4, .inl b), (5, .inl c), (6, .inr (.inr 18)), (7, .inl (H.1 21 (x).toNat))]) (st' := [.inl x, .inr (.inr 20)]) rfl ?_
      refine k_ild (c := 20) (j := (x).toNat) (i := x) (x := kx_20) rfl rfl (by decide) rfl (by decide) (by omega) (by omega) ?_
      have g15 : -2 ≤ (H.1 20 (x).toNat) ∧ (H.1 20 (x).toNat) ≤ 100 := kn (x := kx_20) hI rfl (x).toNat
      refine k_run 0 (pc' := 60) (l' := [(0, .inr (.inr 361)), (1, .inl 2), (2, .inl x), (3, .inl a), (4, .inl b), (5, .inl c), (6, .inr (.inr 18)), (7, .inl (H.1 21 (x).toNat))]) (st' := [.inl (H.1 20 (x).toNat)]) rfl ?_
      refine k_run 1 (pc' := 61) (l' := [(0, .inr (.inr 361)), (1, .inl 2), (2, .inl x), (3, .inl a), (4, .inl b), (5, .inl c), (6, .inr (.inr 18)), (7, .inl (H.1 21 (x).toNat))]) (st' := [.inl a, .inl (H.1 20 (x).toNat)]) rfl ?_
      refine h_ieq (off := 9) (t := 70) rfl rfl (by omega) (by omega) (fun c16 => ?_) (fun c16 => ?_)
      · refine k_run 0 (pc' := 70) (l' := [(0, .inr (.inr 361)), (1, .inl 2), (2, .inl x), (3, .inl a), (4, .inl b), (5, .inl c), (6, .inr (.inr 18)), (7, .inl (H.1 21 (x).toNat))]) (st' := []) rfl ?_
        refine k_run 4 (pc' := 75) (l' := [(0, .inr (.inr 361)), (1, .inl 2), (2, .inl x), (3, .inl a), (4, .inl b), (5, .inl c), (6, .inr (.inr 18)), (7, .inl (H.1 21 (x).toNat))]) (st' := [.inl (H.1 21 (x).toNat), .inl x, .inl 2, .inr (.inr 361)]) rfl ?_
        refine h_cs (i := 153) (j := 48) (M' := mt_48) (xs := [.inl (H.1 21 (x).toNat), .inl x, .inl 2]) (rest := [.inr (.inr 361)]) rfl rfl rfl rfl rfl (Nat.le_of_ble_eq_true rfl) (Nat.le_of_ble_eq_true rfl) (by omega) (k_Term_codeOf (by omega)  (by decide) (by omega) (by omega)) ?_
        rintro _ _ ⟨z21, rfl, g17, rfl⟩
        refine k_run 0 (pc' := 78) (l' := [(0, .inr (.inr 361)), (1, .inl 2), (2, .inl x), (3, .inl a), (4, .inl b), (5, .inl c), (6, .inr (.inr 18)), (7, .inl (H.1 21 (x).toNat))]) (st' := [.inl z21, .inr (.inr 361)]) rfl ?_
        refine h_cv (i := 157) (j := 77) (b := 361) (M' := mt_77) (xs := [.inl z21]) (rest := []) rfl rfl rfl rfl (zs_K (x := kx_361) rfl (by decide)) rfl (Nat.le_of_ble_eq_true rfl) (Nat.le_of_ble_eq_true rfl) (by omega) (k_Reader_addName (by omega) hI (by omega)) ?_
        rintro _ H23 ⟨z26, rfl, g22, hI24, hq25⟩
        have hf27 : fq [(361, 3), (361, 4), (361, 5), (361, 9)] [362] true H H23 := fq_t (fq_rf _ _ _ _) hq25 rfl rfl rfl
        refine k_run 0 (pc' := 81) (l' := [(0, .inr (.inr 361)), (1, .inl 2), (2, .inl x), (3, .inl a), (4, .inl b), (5, .inl c), (6, .inr (.inr 18)), (7, .inl (H.1 21 (x).toNat))]) (st' := [.inl z26]) rfl ?_
        refine k_run 3 (pc' := 86) (l' := [(0, .inr (.inr 361)), (1, .inl 2), (2, .inl x), (3, .inl a), (4, .inl b), (5, .inl c), (6, .inr (.inr 18)), (7, .inl (H.1 21 (x).toNat)), (8, .inl z26), (9, .inl 0)]) (st' := []) rfl ?_
        exact (k_readApplied_2_cut hd hI hx ha hb hc hp0 hp1 hR1 _) H23 hI24 hf27 (H.1 21 (x).toNat) z26 (0 : Int) (by omega) (by omega) (by decide) (by omega) (by omega) (by omega) (Nat.lt_succ_self _)
      · refine k_run 0 (pc' := 64) (l' := [(0, .inr (.inr 361)), (1, .inl 2), (2, .inl x), (3, .inl a), (4, .inl b), (5, .inl c), (6, .inr (.inr 18)), (7, .inl (H.1 21 (x).toNat))]) (st' := []) rfl ?_
        refine k_run 2 (pc' := 66) (l' := [(0, .inr (.inr 361)), (1, .inl 2), (2, .inl x), (3, .inl a), (4, .inl b), (5, .inl c), (6, .inr (.inr 18)), (7, .inl (H.1 21 (x).toNat))]) (st' := [.inl 4, .inr (.inr 361)]) rfl ?_
        refine h_cv (i := 128) (j := 86) (b := 361) (M' := mt_86) (xs := [.inl 4]) (rest := []) rfl rfl rfl rfl (zs_K (x := kx_361) rfl (by decide)) rfl (Nat.le_of_ble_eq_true rfl) (Nat.le_of_ble_eq_true rfl) (by omega) (k_Reader_fails (by omega) hI (by decide)) ?_
        rintro _ H29 ⟨z32, rfl, g28, hI30, hq31⟩
        have hf33 : fq [(361, 3), (361, 4), (361, 5), (361, 9)] [362] true H H29 := fq_t (fq_rf _ _ _ _) hq31 rfl rfl rfl
        refine k_run 0 (pc' := 69) (l' := [(0, .inr (.inr 361)), (1, .inl 2), (2, .inl x), (3, .inl a), (4, .inl b), (5, .inl c), (6, .inr (.inr 18)), (7, .inl (H.1 21 (x).toNat))]) (st' := [.inl z32]) rfl ?_
        refine h_retz (x := z32) rfl rfl (by omega) ?_
        exact ⟨_, rfl, (by omega), hI30, hf33⟩
  · refine k_run 0 (pc' := 38) (l' := [(0, .inr (.inr 361)), (1, .inl 2), (2, .inl x), (3, .inl a), (4, .inl b), (5, .inl c), (6, .inr (.inr 18)), (7, .inl (H.1 21 (x).toNat))]) (st' := []) rfl ?_
    refine k_run 1 (pc' := 40) (l' := [(0, .inr (.inr 361)), (1, .inl 2), (2, .inl x), (3, .inl a), (4, .inl b), (5, .inl c), (6, .inr (.inr 18)), (7, .inl (H.1 21 (x).toNat))]) (st' := [.inl (H.1 21 (x).toNat)]) rfl ?_
    refine h_zle (off := 9) (t := 49) rfl rfl (by omega) (fun c34 => ?_) (fun c34 => ?_)
    · refine k_run 0 (pc' := 49) (l' := [(0, .inr (.inr 361)), (1, .inl 2), (2, .inl x), (3, .inl a), (4, .inl b), (5, .inl c), (6, .inr (.inr 18)), (7, .inl (H.1 21 (x).toNat))]) (st' := []) rfl ?_
      refine k_run 1 (pc' := 50) (l' := [(0, .inr (.inr 361)), (1, .inl 2), (2, .inl x), (3, .inl a), (4, .inl b), (5, .inl c), (6, .inr (.inr 18)), (7, .inl (H.1 21 (x).toNat))]) (st' := [.inl a]) rfl ?_
      refine h_zlt (off := 20) (t := 70) rfl rfl (by omega) (fun c35 => ?_) (fun c35 => ?_)
      · refine k_run 0 (pc' := 70) (l' := [(0, .inr (.inr 361)), (1, .inl 2), (2, .inl x), (3, .inl a), (4, .inl b), (5, .inl c), (6, .inr (.inr 18)), (7, .inl (H.1 21 (x).toNat))]) (st' := []) rfl ?_
        refine k_run 4 (pc' := 75) (l' := [(0, .inr (.inr 361)), (1, .inl 2), (2, .inl x), (3, .inl a), (4, .inl b), (5, .inl c), (6, .inr (.inr 18)), (7, .inl (H.1 21 (x).toNat))]) (st' := [.inl (H.1 21 (x).toNat), .inl x, .inl 2, .inr (.inr 361)]) rfl ?_
        refine h_cs (i := 153) (j := 48) (M' := mt_48) (xs := [.inl (H.1 21 (x).toNat), .inl x, .inl 2]) (rest := [.inr (.inr 361)]) rfl rfl rfl rfl rfl (Nat.le_of_ble_eq_true rfl) (Nat.le_of_ble_eq_true rfl) (by omega) (k_Term_codeOf (by omega)  (by decide) (by omega) (by omega)) ?_
        rintro _ _ ⟨z40, rfl, g36, rfl⟩
        refine k_run 0 (pc' := 78) (l' := [(0, .inr (.inr 361)), (1, .inl 2), (2, .inl x), (3, .inl a), (4, .inl b), (5, .inl c), (6, .inr (.inr 18)), (7, .inl (H.1 21 (x).toNat))]) (st' := [.inl z40, .inr (.inr 361)]) rfl ?_
        refine h_cv (i := 157) (j := 77) (b := 361) (M' := mt_77) (xs := [.inl z40]) (rest := []) rfl rfl rfl rfl (zs_K (x := kx_361) rfl (by decide)) rfl (Nat.le_of_ble_eq_true rfl) (Nat.le_of_ble_eq_true rfl) (by omega) (k_Reader_addName (by omega) hI (by omega)) ?_
        rintro _ H42 ⟨z45, rfl, g41, hI43, hq44⟩
        have hf46 : fq [(361, 3), (361, 4), (361, 5), (361, 9)] [362] true H H42 := fq_t (fq_rf _ _ _ _) hq44 rfl rfl rfl
        refine k_run 0 (pc' := 81) (l' := [(0, .inr (.inr 361)), (1, .inl 2), (2, .inl x), (3, .inl a), (4, .inl b), (5, .inl c), (6, .inr (.inr 18)), (7, .inl (H.1 21 (x).toNat))]) (st' := [.inl z45]) rfl ?_
        refine k_run 3 (pc' := 86) (l' := [(0, .inr (.inr 361)), (1, .inl 2), (2, .inl x), (3, .inl a), (4, .inl b), (5, .inl c), (6, .inr (.inr 18)), (7, .inl (H.1 21 (x).toNat)), (8, .inl z45), (9, .inl 0)]) (st' := []) rfl ?_
        exact (k_readApplied_2_cut hd hI hx ha hb hc hp0 hp1 hR1 _) H42 hI43 hf46 (H.1 21 (x).toNat) z45 (0 : Int) (by omega) (by omega) (by decide) (by omega) (by omega) (by omega) (Nat.lt_succ_self _)
      · refine k_run 0 (pc' := 53) (l' := [(0, .inr (.inr 361)), (1, .inl 2), (2, .inl x), (3, .inl a), (4, .inl b), (5, .inl c), (6, .inr (.inr 18)), (7, .inl (H.1 21 (x).toNat))]) (st' := []) rfl ?_
        refine k_run 3 (pc' := 59) (l' := [(0, .inr (.inr 361)), (1, .inl 2), (2, .inl x), (3, .inl a), (4, .inl b), (5, .inl c), (6, .inr (.inr 18)), (7, .inl (H.1 21 (x).toNat))]) (st' := [.inl x, .inr (.inr 20)]) rfl ?_
        refine k_ild (c := 20) (j := (x).toNat) (i := x) (x := kx_20) rfl rfl (by decide) rfl (by decide) (by omega) (by omega) ?_
        have g47 : -2 ≤ (H.1 20 (x).toNat) ∧ (H.1 20 (x).toNat) ≤ 100 := kn (x := kx_20) hI rfl (x).toNat
        refine k_run 0 (pc' := 60) (l' := [(0, .inr (.inr 361)), (1, .inl 2), (2, .inl x), (3, .inl a), (4, .inl b), (5, .inl c), (6, .inr (.inr 18)), (7, .inl (H.1 21 (x).toNat))]) (st' := [.inl (H.1 20 (x).toNat)]) rfl ?_
        refine k_run 1 (pc' := 61) (l' := [(0, .inr (.inr 361)), (1, .inl 2), (2, .inl x), (3, .inl a), (4, .inl b), (5, .inl c), (6, .inr (.inr 18)), (7, .inl (H.1 21 (x).toNat))]) (st' := [.inl a, .inl (H.1 20 (x).toNat)]) rfl ?_
        refine h_ieq (off := 9) (t := 70) rfl rfl (by omega) (by omega) (fun c48 => ?_) (fun c48 => ?_)
        · refine k_run 0 (pc' := 70) (l' := [(0, .inr (.inr 361)), (1, .inl 2), (2, .inl x), (3, .inl a), (4, .inl b), (5, .inl c), (6, .inr (.inr 18)), (7, .inl (H.1 21 (x).toNat))]) (st' := []) rfl ?_
          refine k_run 4 (pc' := 75) (l' := [(0, .inr (.inr 361)), (1, .inl 2), (2, .inl x), (3, .inl a), (4, .inl b), (5, .inl c), (6, .inr (.inr 18)), (7, .inl (H.1 21 (x).toNat))]) (st' := [.inl (H.1 21 (x).toNat), .inl x, .inl 2, .inr (.inr 361)]) rfl ?_
          refine h_cs (i := 153) (j := 48) (M' := mt_48) (xs := [.inl (H.1 21 (x).toNat), .inl x, .inl 2]) (rest := [.inr (.inr 361)]) rfl rfl rfl rfl rfl (Nat.le_of_ble_eq_true rfl) (Nat.le_of_ble_eq_true rfl) (by omega) (k_Term_codeOf (by omega)  (by decide) (by omega) (by omega)) ?_
          rintro _ _ ⟨z53, rfl, g49, rfl⟩
          refine k_run 0 (pc' := 78) (l' := [(0, .inr (.inr 361)), (1, .inl 2), (2, .inl x), (3, .inl a), (4, .inl b), (5, .inl c), (6, .inr (.inr 18)), (7, .inl (H.1 21 (x).toNat))]) (st' := [.inl z53, .inr (.inr 361)]) rfl ?_
          refine h_cv (i := 157) (j := 77) (b := 361) (M' := mt_77) (xs := [.inl z53]) (rest := []) rfl rfl rfl rfl (zs_K (x := kx_361) rfl (by decide)) rfl (Nat.le_of_ble_eq_true rfl) (Nat.le_of_ble_eq_true rfl) (by omega) (k_Reader_addName (by omega) hI (by omega)) ?_
          rintro _ H55 ⟨z58, rfl, g54, hI56, hq57⟩
          have hf59 : fq [(361, 3), (361, 4), (361, 5), (361, 9)] [362] true H H55 := fq_t (fq_rf _ _ _ _) hq57 rfl rfl rfl
          refine k_run 0 (pc' := 81) (l' := [(0, .inr (.inr 361)), (1, .inl 2), (2, .inl x), (3, .inl a), (4, .inl b), (5, .inl c), (6, .inr (.inr 18)), (7, .inl (H.1 21 (x).toNat))]) (st' := [.inl z58]) rfl ?_
          refine k_run 3 (pc' := 86) (l' := [(0, .inr (.inr 361)), (1, .inl 2), (2, .inl x), (3, .inl a), (4, .inl b), (5, .inl c), (6, .inr (.inr 18)), (7, .inl (H.1 21 (x).toNat)), (8, .inl z58), (9, .inl 0)]) (st' := []) rfl ?_
          exact (k_readApplied_2_cut hd hI hx ha hb hc hp0 hp1 hR1 _) H55 hI56 hf59 (H.1 21 (x).toNat) z58 (0 : Int) (by omega) (by omega) (by decide) (by omega) (by omega) (by omega) (Nat.lt_succ_self _)
        · refine k_run 0 (pc' := 64) (l' := [(0, .inr (.inr 361)), (1, .inl 2), (2, .inl x), (3, .inl a), (4, .inl b), (5, .inl c), (6, .inr (.inr 18)), (7, .inl (H.1 21 (x).toNat))]) (st' := []) rfl ?_
          refine k_run 2 (pc' := 66) (l' := [(0, .inr (.inr 361)), (1, .inl 2), (2, .inl x), (3, .inl a), (4, .inl b), (5, .inl c), (6, .inr (.inr 18)), (7, .inl (H.1 21 (x).toNat))]) (st' := [.inl 4, .inr (.inr 361)]) rfl ?_
          refine h_cv (i := 128) (j := 86) (b := 361) (M' := mt_86) (xs := [.inl 4]) (rest := []) rfl rfl rfl rfl (zs_K (x := kx_361) rfl (by decide)) rfl (Nat.le_of_ble_eq_true rfl) (Nat.le_of_ble_eq_true rfl) (by omega) (k_Reader_fails (by omega) hI (by decide)) ?_
          rintro _ H61 ⟨z64, rfl, g60, hI62, hq63⟩
          have hf65 : fq [(361, 3), (361, 4), (361, 5), (361, 9)] [362] true H H61 := fq_t (fq_rf _ _ _ _) hq63 rfl rfl rfl
          refine k_run 0 (pc' := 69) (l' := [(0, .inr (.inr 361)), (1, .inl 2), (2, .inl x), (3, .inl a), (4, .inl b), (5, .inl c), (6, .inr (.inr 18)), (7, .inl (H.1 21 (x).toNat))]) (st' := [.inl z64]) rfl ?_
          refine h_retz (x := z64) rfl rfl (by omega) ?_
          exact ⟨_, rfl, (by omega), hI62, hf65⟩
    · refine k_run 0 (pc' := 43) (l' := [(0, .inr (.inr 361)), (1, .inl 2), (2, .inl x), (3, .inl a), (4, .inl b), (5, .inl c), (6, .inr (.inr 18)), (7, .inl (H.1 21 (x).toNat))]) (st' := []) rfl ?_
      refine k_run 2 (pc' := 45) (l' := [(0, .inr (.inr 361)), (1, .inl 2), (2, .inl x), (3, .inl a), (4, .inl b), (5, .inl c), (6, .inr (.inr 18)), (7, .inl (H.1 21 (x).toNat))]) (st' := [.inl 2, .inr (.inr 361)]) rfl ?_
      refine h_cv (i := 128) (j := 86) (b := 361) (M' := mt_86) (xs := [.inl 2]) (rest := []) rfl rfl rfl rfl (zs_K (x := kx_361) rfl (by decide)) rfl (Nat.le_of_ble_eq_true rfl) (Nat.le_of_ble_eq_true rfl) (by omega) (k_Reader_fails (by omega) hI (by decide)) ?_
      rintro _ H67 ⟨z70, rfl, g66, hI68, hq69⟩
      have hf71 : fq [(361, 3), (361, 4), (361, 5), (361, 9)] [362] true H H67 := fq_t (fq_rf _ _ _ _) hq69 rfl rfl rfl
      refine k_run 0 (pc' := 48) (l' := [(0, .inr (.inr 361)), (1, .inl 2), (2, .inl x), (3, .inl a), (4, .inl b), (5, .inl c), (6, .inr (.inr 18)), (7, .inl (H.1 21 (x).toNat))]) (st' := [.inl z70]) rfl ?_
      refine h_retz (x := z70) rfl rfl (by omega) ?_
      exact ⟨_, rfl, (by omega), hI68, hf71⟩

/-! Reader.readApplied -/
set_option maxRecDepth 100000 in
theorem k_readApplied_1_cut {m : Nat} {d : Nat} (hd : 3 * m + 9 ≤ d) {H : hp} (hI : Inv H) {x : Int} {a : Int} {b : Int} {c : Int} (hx : -2147483648 ≤ x ∧ x ≤ 2147483647) (ha : -2147483648 ≤ a ∧ a ≤ 2147483647) (hb : -2147483648 ≤ b ∧ b ≤ 2147483647) (hc : 0 ≤ c ∧ c ≤ 1) (hp0 : 0 ≤ x ∧ x < 16) (hp1 : -2 ≤ a ∧ a ≤ 100 ∧ 0 ≤ b ∧ b ≤ 10 ∧ 10 ≤ b + (m : Int)) (hR1 : RT1c m) : ∀ w : Nat, (∀ (H1 : hp), Inv H1 → fq [(361, 3), (361, 4), (361, 5), (361, 9)] [362] true H H1 → ∀ (x7 : Int) (x8 : Int) (x9 : Int) , (-2147483648 ≤ x7 ∧ x7 ≤ 2147483647) → (-2147483648 ≤ x8 ∧ x8 ≤ 2147483647) → (-2147483648 ≤ x9 ∧ x9 ≤ 2147483647) → (0 ≤ x9) → (x7 ≤ 4) → (0 ≤ x8 ∧ x8 ≤ 1) → (((100 - x9).toNat) < w) → hG (zs zK) d mt_74 86 [(0, .inr (.inr 361)), (1, .inl 1), (2, .inl x), (3, .inl a), (4, .inl b), (5, .inl c), (6, .inr (.inr 13)), (7, .inl x7), (8, .inl x8), (9, .inl x9)] [] H1 (fun r9 H9 => ∃ z : Int, r9 = some (.inl z) ∧ ((0 ≤ z ∧ z ≤ 1)) ∧ Inv H9 ∧ fq [(361, 3), (361, 4), (361, 5), (361, 9)] [362] true H H9)) := by
  intro w
  induction w with
  | zero => exact fun _ _ _ _ _ _ _ _ _ _ _ _ h => absurd h (Nat.not_lt_zero _)
  | succ w ih =>
    intro H1 hI1 hf1 x7 x8 x9 hx7 hx8 hx9 hi0 hi1 hi2 hw
    refine k_run 1 (pc' := 88) (l' := [(0, .inr (.inr 361)), (1, .inl 1), (2, .inl x), (3, .inl a), (4, .inl b), (5, .inl c), (6, .inr (.inr 13)), (7, .inl x7), (8, .inl x8), (9, .inl x9)]) (st' := [.inl x8]) rfl ?_
    refine h_zeq (off := 33) (t := 121) rfl rfl (by omega) (fun c72 => ?_) (fun c72 => ?_)
    · refine k_run 0 (pc' := 121) (l' := [(0, .inr (.inr 361)), (1, .inl 1), (2, .inl x), (3, .inl a), (4, .inl b), (5, .inl c), (6, .inr (.inr 13)), (7, .inl x7), (8, .inl x8), (9, .inl x9)]) (st' := []) rfl ?_
      refine k_run 1 (pc' := 123) (l' := [(0, .inr (.inr 361)), (1, .inl 1), (2, .inl x), (3, .inl a), (4, .inl b), (5, .inl c), (6, .inr (.inr 13)), (7, .inl x7), (8, .inl x8), (9, .inl x9)]) (st' := [.inl x8]) rfl ?_
      refine h_retz (x := x8) rfl rfl (by omega) ?_
      exact ⟨_, rfl, (by omega), hI1, hf1⟩
    · refine k_run 0 (pc' := 91) (l' := [(0, .inr (.inr 361)), (1, .inl 1), (2, .inl x), (3, .inl a), (4, .inl b), (5, .inl c), (6, .inr (.inr 13)), (7, .inl x7), (8, .inl x8), (9, .inl x9)]) (st' := []) rfl ?_
      refine k_run 2 (pc' := 95) (l' := [(0, .inr (.inr 361)), (1, .inl 1), (2, .inl x), (3, .inl a), (4, .inl b), (5, .inl c), (6, .inr (.inr 13)), (7, .inl x7), (8, .inl x8), (9, .inl x9)]) (st' := [.inl x7, .inl x9]) rfl ?_
      refine h_ige (off := 26) (t := 121) rfl rfl (by omega) (by omega) (fun c73 => ?_) (fun c73 => ?_)
      · refine k_run 0 (pc' := 121) (l' := [(0, .inr (.inr 361)), (1, .inl 1), (2, .inl x), (3, .inl a), (4, .inl b), (5, .inl c), (6, .inr (.inr 13)), (7, .inl x7), (8, .inl x8), (9, .inl x9)]) (st' := []) rfl ?_
        refine k_run 1 (pc' := 123) (l' := [(0, .inr (.inr 361)), (1, .inl 1), (2, .inl x), (3, .inl a), (4, .inl b), (5, .inl c), (6, .inr (.inr 13)), (7, .inl x7), (8, .inl x8), (9, .inl x9)]) (st' := [.inl x8]) rfl ?_
        refine h_retz (x := x8) rfl rfl (by omega) ?_
        exact ⟨_, rfl, (by omega), hI1, hf1⟩
      · refine k_run 0 (pc' := 98) (l' := [(0, .inr (.inr 361)), (1, .inl 1), (2, .inl x), (3, .inl a), (4, .inl b), (5, .inl c), (6, .inr (.inr 13)), (7, .inl x7), (8, .inl x8), (9, .inl x9)]) (st' := []) rfl ?_
        refine k_run 4 (pc' := 104) (l' := [(0, .inr (.inr 361)), (1, .inl 1), (2, .inl x), (3, .inl a), (4, .inl b), (5, .inl c), (6, .inr (.inr 13)), (7, .inl x7), (8, .inl x8), (9, .inl x9)]) (st' := [.inl x9, .inl x, .inr (.inr 13), .inr (.inr 361)]) rfl ?_
        refine h_cv (i := 160) (j := 45) (b := 13) (M' := mt_45) (xs := [.inl x9, .inl x]) (rest := [.inr (.inr 361)]) rfl rfl rfl rfl (zs_K (x := kx_13) rfl (by decide)) rfl (Nat.le_of_ble_eq_true rfl) (Nat.le_of_ble_eq_true rfl) (by omega) (k_Symbols_argument_13 (by omega) hI1 (by omega) (by omega) (by omega)) ?_
        rintro _ _ ⟨z78, rfl, g74, rfl⟩
        refine k_run 0 (pc' := 107) (l' := [(0, .inr (.inr 361)), (1, .inl 1), (2, .inl x), (3, .inl a), (4, .inl b), (5, .inl c), (6, .inr (.inr 13)), (7, .inl x7), (8, .inl x8), (9, .inl x9)]) (st' := [.inl z78, .inr (.inr 361)]) rfl ?_
        refine k_run 2 (pc' := 110) (l' := [(0, .inr (.inr 361)), (1, .inl 1), (2, .inl x), (3, .inl a), (4, .inl b), (5, .inl c), (6, .inr (.inr 13)), (7, .inl x7), (8, .inl x8), (9, .inl x9)]) (st' := [.inl 1, .inl b, .inl z78, .inr (.inr 361)]) rfl ?_
        refine h_cv (i := 109) (j := 73) (b := 361) (M' := mt_73) (xs := [.inl 1, .inl b, .inl z78]) (rest := []) rfl rfl rfl rfl (zs_K (x := kx_361) rfl (by decide)) rfl (Nat.le_of_ble_eq_true rfl) (Nat.le_of_ble_eq_true rfl) (by omega) (hR1 (by omega) hI1 (by omega) (by omega) (by omega)) ?_
        rintro _ H80 ⟨z83, rfl, g79, hI81, hq82⟩
        have hf84 : fq [(361, 3), (361, 4), (361, 5), (361, 9)] [362] true H H80 := fq_t hf1 hq82 rfl rfl rfl
        refine k_run 0 (pc' := 113) (l' := [(0, .inr (.inr 361)), (1, .inl 1), (2, .inl x), (3, .inl a), (4, .inl b), (5, .inl c), (6, .inr (.inr 13)), (7, .inl x7), (8, .inl x8), (9, .inl x9)]) (st' := [.inl z83]) rfl ?_
        refine k_run 3 (pc' := 86) (l' := [(0, .inr (.inr 361)), (1, .inl 1), (2, .inl x), (3, .inl a), (4, .inl b), (5, .inl c), (6, .inr (.inr 13)), (7, .inl x7), (8, .inl z83), (9, .inl (x9 + 1))]) (st' := []) rfl ?_
        exact ih H80 hI81 hf84 x7 z83 (x9 + 1) (by omega) (by omega) (by omega) (by omega) (by omega) (by omega) (by omega)
set_option maxRecDepth 100000 in
theorem k_readApplied_1 {m : Nat} {d : Nat} (hd : 3 * m + 9 ≤ d) {H : hp} (hI : Inv H) {x : Int} {a : Int} {b : Int} {c : Int} (hx : -2147483648 ≤ x ∧ x ≤ 2147483647) (ha : -2147483648 ≤ a ∧ a ≤ 2147483647) (hb : -2147483648 ≤ b ∧ b ≤ 2147483647) (hc : 0 ≤ c ∧ c ≤ 1) (hp0 : 0 ≤ x ∧ x < 16) (hp1 : -2 ≤ a ∧ a ≤ 100 ∧ 0 ≤ b ∧ b ≤ 10 ∧ 10 ≤ b + (m : Int)) (hR1 : RT1c m) : hG (zs zK) d mt_74 0 (zargs 0 [.inr (.inr 361), .inl 1, .inl x, .inl a, .inl b, .inl c]) [] H (fun r9 H9 => ∃ z : Int, r9 = some (.inl z) ∧ ((0 ≤ z ∧ z ≤ 1)) ∧ Inv H9 ∧ fq [(361, 3), (361, 4), (361, 5), (361, 9)] [362] true H H9) := by
  refine k_run 0 (pc' := 0) (l' := [(0, .inr (.inr 361)), (1, .inl 1), (2, .inl x), (3, .inl a), (4, .inl b), (5, .inl c)]) (st' := []) rfl ?_
  refine k_run 2 (pc' := 2) (l' := [(0, .inr (.inr 361)), (1, .inl 1), (2, .inl x), (3, .inl a), (4, .inl b), (5, .inl c)]) (st' := [.inl 2, .inl 1]) rfl ?_
  refine h_ine (off := 13) (t := 15) rfl rfl (by decide) (by decide) (fun _ => ?_) (fun c => absurd c (by decide))
  refine k_run 0 (pc' := 15) (l' := [(0, .inr (.inr 361)), (1, .inl 1), (2, .inl x), (3, .inl a), (4, .inl b), (5, .inl c)]) (st' := []) rfl ?_
  refine k_run 7 (pc' := 30) (l' := [(0, .inr (.inr 361)), (1, .inl 1), (2, .inl x), (3, .inl a), (4, .inl b), (5, .inl c), (6, .inr (.inr 13))]) (st' := [.inl x, .inr (.inr 16)]) rfl ?_
  refine k_ild (c := 16) (j := (x).toNat) (i := x) (x := kx_16) rfl rfl (by decide) rfl (by decide) (by omega) (by omega) ?_
  have g1 : 0 ≤ (H.1 16 (x).toNat) ∧ (H.1 16 (x).toNat) ≤ 4 := kn (x := kx_16) hI rfl (x).toNat
  refine k_run 0 (pc' := 31) (l' := [(0, .inr (.inr 361)), (1, .inl 1), (2, .inl x), (3, .inl a), (4, .inl b), (5, .inl c), (6, .inr (.inr 13))]) (st' := [.inl (H.1 16 (x).toNat)]) rfl ?_
  refine k_run 2 (pc' := 35) (l' := [(0, .inr (.inr 361)), (1, .inl 1), (2, .inl x), (3, .inl a), (4, .inl b), (5, .inl c), (6, .inr (.inr 13)), (7, .inl (H.1 16 (x).toNat))]) (st' := [.inl c]) rfl ?_
  refine h_zeq (off := 14) (t := 49) rfl rfl (by omega) (fun c2 => ?_) (fun c2 => ?_)
  · refine k_run 0 (pc' := 49) (l' := [(0, .inr (.inr 361)), (1, .inl 1), (2, .inl x), (3, .inl a), (4, .inl b), (5, .inl c), (6, .inr (.inr 13)), (7, .inl (H.1 16 (x).toNat))]) (st' := []) rfl ?_
    refine k_run 1 (pc' := 50) (l' := [(0, .inr (.inr 361)), (1, .inl 1), (2, .inl x), (3, .inl a), (4, .inl b), (5, .inl c), (6, .inr (.inr 13)), (7, .inl (H.1 16 (x).toNat))]) (st' := [.inl a]) rfl ?_
    refine h_zlt (off := 20) (t := 70) rfl rfl (by omega) (fun c3 => ?_) (fun c3 => ?_)
    · refine k_run 0 (pc' := 70) (l' := [(0, .inr (.inr 361)), (1, .inl 1), (2, .inl x), (3, .inl a), (4, .inl b), (5, .inl c), (6, .inr (.inr 13)), (7, .inl (H.1 16 (x).toNat))]) (st' := []) rfl ?_
      refine k_run 4 (pc' := 75) (l' := [(0, .inr (.inr 361)), (1, .inl 1), (2, .inl x), (3, .inl a), (4, .inl b), (5, .inl c), (6, .inr (.inr 13)), (7, .inl (H.1 16 (x).toNat))]) (st' := [.inl (H.1 16 (x).toNat), .inl x, .inl 1, .inr (.inr 361)]) rfl ?_
      refine h_cs (i := 153) (j := 48) (M' := mt_48) (xs := [.inl (H.1 16 (x).toNat), .inl x, .inl 1]) (rest := [.inr (.inr 361)]) rfl rfl rfl rfl rfl (Nat.le_of_ble_eq_true rfl) (Nat.le_of_ble_eq_true rfl) (by omega) (k_Term_codeOf (by omega)  (by decide) (by omega) (by omega)) ?_
      rintro _ _ ⟨z8, rfl, g4, rfl⟩
      refine k_run 0 (pc' := 78) (l' := [(0, .inr (.inr 361)), (1, .inl 1), (2, .inl x), (3, .inl a), (4, .inl b), (5, .inl c), (6, .inr (.inr 13)), (7, .inl (H.1 16 (x).toNat))]) (st' := [.inl z8, .inr (.inr 361)]) rfl ?_
      refine h_cv (i := 157) (j := 77) (b := 361) (M' := mt_77) (xs := [.inl z8]) (rest := []) rfl rfl rfl rfl (zs_K (x := kx_361) rfl (by decide)) rfl (Nat.le_of_ble_eq_true rfl) (Nat.le_of_ble_eq_true rfl) (by omega) (k_Reader_addName (by omega) hI (by omega)) ?_
      rintro _ H10 ⟨z13, rfl, g9, hI11, hq12⟩
      have hf14 : fq [(361, 3), (361, 4), (361, 5), (361, 9)] [362] true H H10 := fq_t (fq_rf _ _ _ _) hq12 rfl rfl rfl
      refine k_run 0 (pc' := 81) (l' := [(0, .inr (.inr 361)), (1, .inl 1), (2, .inl x), (3, .inl a), (4, .inl b), (5, .inl c), (6, .inr (.inr 13)), (7, .inl (H.1 16 (x).toNat))]) (st' := [.inl z13]) rfl ?_
      refine k_run 3 (pc' := 86) (l' := [(0, .inr (.inr 361)), (1, .inl 1), (2, .inl x), (3, .inl a), (4, .inl b), (5, .inl c), (6, .inr (.inr 13)), (7, .inl (H.1 16 (x).toNat)), (8, .inl z13), (9, .inl 0)]) (st' := []) rfl ?_
      exact (k_readApplied_1_cut hd hI hx ha hb hc hp0 hp1 hR1 _) H10 hI11 hf14 (H.1 16 (x).toNat) z13 (0 : Int) (by omega) (by omega) (by decide) (by omega) (by omega) (by omega) (Nat.lt_succ_self _)
    · refine k_run 0 (pc' := 53) (l' := [(0, .inr (.inr 361)), (1, .inl 1), (2, .inl x), (3, .inl a), (4, .inl b), (5, .inl c), (6, .inr (.inr 13)), (7, .inl (H.1 16 (x).toNat))]) (st' := []) rfl ?_
      refine k_run 3 (pc' := 59) (l' := [(0, .inr (.inr 361)), (1, .inl 1), (2, .inl x), (3, .inl a), (4, .inl b), (5, .inl c), (6, .inr (.inr 13)), (7, .inl (H.1 16 (x).toNat))]) (st' := [.inl x, .inr (.inr 15)]) rfl ?_
      refine k_ild (c := 15) (j := (x).toNat) (i := x) (x := kx_15) rfl rfl (by decide) rfl (by decide) (by omega) (by omega) ?_
      have g15 : -2 ≤ (H.1 15 (x).toNat) ∧ (H.1 15 (x).toNat) ≤ 100 := kn (x := kx_15) hI rfl (x).toNat
      refine k_run 0 (pc' := 60) (l' := [(0, .inr (.inr 361)), (1, .inl 1), (2, .inl x), (3, .inl a), (4, .inl b), (5, .inl c), (6, .inr (.inr 13)), (7, .inl (H.1 16 (x).toNat))]) (st' := [.inl (H.1 15 (x).toNat)]) rfl ?_
      refine k_run 1 (pc' := 61) (l' := [(0, .inr (.inr 361)), (1, .inl 1), (2, .inl x), (3, .inl a), (4, .inl b), (5, .inl c), (6, .inr (.inr 13)), (7, .inl (H.1 16 (x).toNat))]) (st' := [.inl a, .inl (H.1 15 (x).toNat)]) rfl ?_
      refine h_ieq (off := 9) (t := 70) rfl rfl (by omega) (by omega) (fun c16 => ?_) (fun c16 => ?_)
      · refine k_run 0 (pc' := 70) (l' := [(0, .inr (.inr 361)), (1, .inl 1), (2, .inl x), (3, .inl a), (4, .inl b), (5, .inl c), (6, .inr (.inr 13)), (7, .inl (H.1 16 (x).toNat))]) (st' := []) rfl ?_
        refine k_run 4 (pc' := 75) (l' := [(0, .inr (.inr 361)), (1, .inl 1), (2, .inl x), (3, .inl a), (4, .inl b), (5, .inl c), (6, .inr (.inr 13)), (7, .inl (H.1 16 (x).toNat))]) (st' := [.inl (H.1 16 (x).toNat), .inl x, .inl 1, .inr (.inr 361)]) rfl ?_
        refine h_cs (i := 153) (j := 48) (M' := mt_48) (xs := [.inl (H.1 16 (x).toNat), .inl x, .inl 1]) (rest := [.inr (.inr 361)]) rfl rfl rfl rfl rfl (Nat.le_of_ble_eq_true rfl) (Nat.le_of_ble_eq_true rfl) (by omega) (k_Term_codeOf (by omega)  (by decide) (by omega) (by omega)) ?_
        rintro _ _ ⟨z21, rfl, g17, rfl⟩
        refine k_run 0 (pc' := 78) (l' := [(0, .inr (.inr 361)), (1, .inl 1), (2, .inl x), (3, .inl a), (4, .inl b), (5, .inl c), (6, .inr (.inr 13)), (7, .inl (H.1 16 (x).toNat))]) (st' := [.inl z21, .inr (.inr 361)]) rfl ?_
        refine h_cv (i := 157) (j := 77) (b := 361) (M' := mt_77) (xs := [.inl z21]) (rest := []) rfl rfl rfl rfl (zs_K (x := kx_361) rfl (by decide)) rfl (Nat.le_of_ble_eq_true rfl) (Nat.le_of_ble_eq_true rfl) (by omega) (k_Reader_addName (by omega) hI (by omega)) ?_
        rintro _ H23 ⟨z26, rfl, g22, hI24, hq25⟩
        have hf27 : fq [(361, 3), (361, 4), (361, 5), (361, 9)] [362] true H H23 := fq_t (fq_rf _ _ _ _) hq25 rfl rfl rfl
        refine k_run 0 (pc' := 81) (l' := [(0, .inr (.inr 361)), (1, .inl 1), (2, .inl x), (3, .inl a), (4, .inl b), (5, .inl c), (6, .inr (.inr 13)), (7, .inl (H.1 16 (x).toNat))]) (st' := [.inl z26]) rfl ?_
        refine k_run 3 (pc' := 86) (l' := [(0, .inr (.inr 361)), (1, .inl 1), (2, .inl x), (3, .inl a), (4, .inl b), (5, .inl c), (6, .inr (.inr 13)), (7, .inl (H.1 16 (x).toNat)), (8, .inl z26), (9, .inl 0)]) (st' := []) rfl ?_
        exact (k_readApplied_1_cut hd hI hx ha hb hc hp0 hp1 hR1 _) H23 hI24 hf27 (H.1 16 (x).toNat) z26 (0 : Int) (by omega) (by omega) (by decide) (by omega) (by omega) (by omega) (Nat.lt_succ_self _)
      · refine k_run 0 (pc' := 64) (l' := [(0, .inr (.inr 361)), (1, .inl 1), (2, .inl x), (3, .inl a), (4, .inl b), (5, .inl c), (6, .inr (.inr 13)), (7, .inl (H.1 16 (x).toNat))]) (st' := []) rfl ?_
        refine k_run 2 (pc' := 66) (l' := [(0, .inr (.inr 361)), (1, .inl 1), (2, .inl x), (3, .inl a), (4, .inl b), (5, .inl c), (6, .inr (.inr 13)), (7, .inl (H.1 16 (x).toNat))]) (st' := [.inl 4, .inr (.inr 361)]) rfl ?_
        refine h_cv (i := 128) (j := 86) (b := 361) (M' := mt_86) (xs := [.inl 4]) (rest := []) rfl rfl rfl rfl (zs_K (x := kx_361) rfl (by decide)) rfl (Nat.le_of_ble_eq_true rfl) (Nat.le_of_ble_eq_true rfl) (by omega) (k_Reader_fails (by omega) hI (by decide)) ?_
        rintro _ H29 ⟨z32, rfl, g28, hI30, hq31⟩
        have hf33 : fq [(361, 3), (361, 4), (361, 5), (361, 9)] [362] true H H29 := fq_t (fq_rf _ _ _ _) hq31 rfl rfl rfl
        refine k_run 0 (pc' := 69) (l' := [(0, .inr (.inr 361)), (1, .inl 1), (2, .inl x), (3, .inl a), (4, .inl b), (5, .inl c), (6, .inr (.inr 13)), (7, .inl (H.1 16 (x).toNat))]) (st' := [.inl z32]) rfl ?_
        refine h_retz (x := z32) rfl rfl (by omega) ?_
        exact ⟨_, rfl, (by omega), hI30, hf33⟩
  · refine k_run 0 (pc' := 38) (l' := [(0, .inr (.inr 361)), (1, .inl 1), (2, .inl x), (3, .inl a), (4, .inl b), (5, .inl c), (6, .inr (.inr 13)), (7, .inl (H.1 16 (x).toNat))]) (st' := []) rfl ?_
    refine k_run 1 (pc' := 40) (l' := [(0, .inr (.inr 361)), (1, .inl 1), (2, .inl x), (3, .inl a), (4, .inl b), (5, .inl c), (6, .inr (.inr 13)), (7, .inl (H.1 16 (x).toNat))]) (st' := [.inl (H.1 16 (x).toNat)]) rfl ?_
    refine h_zle (off := 9) (t := 49) rfl rfl (by omega) (fun c34 => ?_) (fun c34 => ?_)
    · refine k_run 0 (pc' := 49) (l' := [(0, .inr (.inr 361)), (1, .inl 1), (2, .inl x), (3, .inl a), (4, .inl b), (5, .inl c), (6, .inr (.inr 13)), (7, .inl (H.1 16 (x).toNat))]) (st' := []) rfl ?_
      refine k_run 1 (pc' := 50) (l' := [(0, .inr (.inr 361)), (1, .inl 1), (2, .inl x), (3, .inl a), (4, .inl b), (5, .inl c), (6, .inr (.inr 13)), (7, .inl (H.1 16 (x).toNat))]) (st' := [.inl a]) rfl ?_
      refine h_zlt (off := 20) (t := 70) rfl rfl (by omega) (fun c35 => ?_) (fun c35 => ?_)
      · refine k_run 0 (pc' := 70) (l' := [(0, .inr (.inr 361)), (1, .inl 1), (2, .inl x), (3, .inl a), (4, .inl b), (5, .inl c), (6, .inr (.inr 13)), (7, .inl (H.1 16 (x).toNat))]) (st' := []) rfl ?_
        refine k_run 4 (pc' := 75) (l' := [(0, .inr (.inr 361)), (1, .inl 1), (2, .inl x), (3, .inl a), (4, .inl b), (5, .inl c), (6, .inr (.inr 13)), (7, .inl (H.1 16 (x).toNat))]) (st' := [.inl (H.1 16 (x).toNat), .inl x, .inl 1, .inr (.inr 361)]) rfl ?_
        refine h_cs (i := 153) (j := 48) (M' := mt_48) (xs := [.inl (H.1 16 (x).toNat), .inl x, .inl 1]) (rest := [.inr (.inr 361)]) rfl rfl rfl rfl rfl (Nat.le_of_ble_eq_true rfl) (Nat.le_of_ble_eq_true rfl) (by omega) (k_Term_codeOf (by omega)  (by decide) (by omega) (by omega)) ?_
        rintro _ _ ⟨z40, rfl, g36, rfl⟩
        refine k_run 0 (pc' := 78) (l' := [(0, .inr (.inr 361)), (1, .inl 1), (2, .inl x), (3, .inl a), (4, .inl b), (5, .inl c), (6, .inr (.inr 13)), (7, .inl (H.1 16 (x).toNat))]) (st' := [.inl z40, .inr (.inr 361)]) rfl ?_
        refine h_cv (i := 157) (j := 77) (b := 361) (M' := mt_77) (xs := [.inl z40]) (rest := []) rfl rfl rfl rfl (zs_K (x := kx_361) rfl (by decide)) rfl (Nat.le_of_ble_eq_true rfl) (Nat.le_of_ble_eq_true rfl) (by omega) (k_Reader_addName (by omega) hI (by omega)) ?_
        rintro _ H42 ⟨z45, rfl, g41, hI43, hq44⟩
        have hf46 : fq [(361, 3), (361, 4), (361, 5), (361, 9)] [362] true H H42 := fq_t (fq_rf _ _ _ _) hq44 rfl rfl rfl
        refine k_run 0 (pc' := 81) (l' := [(0, .inr (.inr 361)), (1, .inl 1), (2, .inl x), (3, .inl a), (4, .inl b), (5, .inl c), (6, .inr (.inr 13)), (7, .inl (H.1 16 (x).toNat))]) (st' := [.inl z45]) rfl ?_
        refine k_run 3 (pc' := 86) (l' := [(0, .inr (.inr 361)), (1, .inl 1), (2, .inl x), (3, .inl a), (4, .inl b), (5, .inl c), (6, .inr (.inr 13)), (7, .inl (H.1 16 (x).toNat)), (8, .inl z45), (9, .inl 0)]) (st' := []) rfl ?_
        exact (k_readApplied_1_cut hd hI hx ha hb hc hp0 hp1 hR1 _) H42 hI43 hf46 (H.1 16 (x).toNat) z45 (0 : Int) (by omega) (by omega) (by decide) (by omega) (by omega) (by omega) (Nat.lt_succ_self _)
      · refine k_run 0 (pc' := 53) (l' := [(0, .inr (.inr 361)), (1, .inl 1), (2, .inl x), (3, .inl a), (4, .inl b), (5, .inl c), (6, .inr (.inr 13)), (7, .inl (H.1 16 (x).toNat))]) (st' := []) rfl ?_
        refine k_run 3 (pc' := 59) (l' := [(0, .inr (.inr 361)), (1, .inl 1), (2, .inl x), (3, .inl a), (4, .inl b), (5, .inl c), (6, .inr (.inr 13)), (7, .inl (H.1 16 (x).toNat))]) (st' := [.inl x, .inr (.inr 15)]) rfl ?_
        refine k_ild (c := 15) (j := (x).toNat) (i := x) (x := kx_15) rfl rfl (by decide) rfl (by decide) (by omega) (by omega) ?_
        have g47 : -2 ≤ (H.1 15 (x).toNat) ∧ (H.1 15 (x).toNat) ≤ 100 := kn (x := kx_15) hI rfl (x).toNat
        refine k_run 0 (pc' := 60) (l' := [(0, .inr (.inr 361)), (1, .inl 1), (2, .inl x), (3, .inl a), (4, .inl b), (5, .inl c), (6, .inr (.inr 13)), (7, .inl (H.1 16 (x).toNat))]) (st' := [.inl (H.1 15 (x).toNat)]) rfl ?_
        refine k_run 1 (pc' := 61) (l' := [(0, .inr (.inr 361)), (1, .inl 1), (2, .inl x), (3, .inl a), (4, .inl b), (5, .inl c), (6, .inr (.inr 13)), (7, .inl (H.1 16 (x).toNat))]) (st' := [.inl a, .inl (H.1 15 (x).toNat)]) rfl ?_
        refine h_ieq (off := 9) (t := 70) rfl rfl (by omega) (by omega) (fun c48 => ?_) (fun c48 => ?_)
        · refine k_run 0 (pc' := 70) (l' := [(0, .inr (.inr 361)), (1, .inl 1), (2, .inl x), (3, .inl a), (4, .inl b), (5, .inl c), (6, .inr (.inr 13)), (7, .inl (H.1 16 (x).toNat))]) (st' := []) rfl ?_
          refine k_run 4 (pc' := 75) (l' := [(0, .inr (.inr 361)), (1, .inl 1), (2, .inl x), (3, .inl a), (4, .inl b), (5, .inl c), (6, .inr (.inr 13)), (7, .inl (H.1 16 (x).toNat))]) (st' := [.inl (H.1 16 (x).toNat), .inl x, .inl 1, .inr (.inr 361)]) rfl ?_
          refine h_cs (i := 153) (j := 48) (M' := mt_48) (xs := [.inl (H.1 16 (x).toNat), .inl x, .inl 1]) (rest := [.inr (.inr 361)]) rfl rfl rfl rfl rfl (Nat.le_of_ble_eq_true rfl) (Nat.le_of_ble_eq_true rfl) (by omega) (k_Term_codeOf (by omega)  (by decide) (by omega) (by omega)) ?_
          rintro _ _ ⟨z53, rfl, g49, rfl⟩
          refine k_run 0 (pc' := 78) (l' := [(0, .inr (.inr 361)), (1, .inl 1), (2, .inl x), (3, .inl a), (4, .inl b), (5, .inl c), (6, .inr (.inr 13)), (7, .inl (H.1 16 (x).toNat))]) (st' := [.inl z53, .inr (.inr 361)]) rfl ?_
          refine h_cv (i := 157) (j := 77) (b := 361) (M' := mt_77) (xs := [.inl z53]) (rest := []) rfl rfl rfl rfl (zs_K (x := kx_361) rfl (by decide)) rfl (Nat.le_of_ble_eq_true rfl) (Nat.le_of_ble_eq_true rfl) (by omega) (k_Reader_addName (by omega) hI (by omega)) ?_
          rintro _ H55 ⟨z58, rfl, g54, hI56, hq57⟩
          have hf59 : fq [(361, 3), (361, 4), (361, 5), (361, 9)] [362] true H H55 := fq_t (fq_rf _ _ _ _) hq57 rfl rfl rfl
          refine k_run 0 (pc' := 81) (l' := [(0, .inr (.inr 361)), (1, .inl 1), (2, .inl x), (3, .inl a), (4, .inl b), (5, .inl c), (6, .inr (.inr 13)), (7, .inl (H.1 16 (x).toNat))]) (st' := [.inl z58]) rfl ?_
          refine k_run 3 (pc' := 86) (l' := [(0, .inr (.inr 361)), (1, .inl 1), (2, .inl x), (3, .inl a), (4, .inl b), (5, .inl c), (6, .inr (.inr 13)), (7, .inl (H.1 16 (x).toNat)), (8, .inl z58), (9, .inl 0)]) (st' := []) rfl ?_
          exact (k_readApplied_1_cut hd hI hx ha hb hc hp0 hp1 hR1 _) H55 hI56 hf59 (H.1 16 (x).toNat) z58 (0 : Int) (by omega) (by omega) (by decide) (by omega) (by omega) (by omega) (Nat.lt_succ_self _)
        · refine k_run 0 (pc' := 64) (l' := [(0, .inr (.inr 361)), (1, .inl 1), (2, .inl x), (3, .inl a), (4, .inl b), (5, .inl c), (6, .inr (.inr 13)), (7, .inl (H.1 16 (x).toNat))]) (st' := []) rfl ?_
          refine k_run 2 (pc' := 66) (l' := [(0, .inr (.inr 361)), (1, .inl 1), (2, .inl x), (3, .inl a), (4, .inl b), (5, .inl c), (6, .inr (.inr 13)), (7, .inl (H.1 16 (x).toNat))]) (st' := [.inl 4, .inr (.inr 361)]) rfl ?_
          refine h_cv (i := 128) (j := 86) (b := 361) (M' := mt_86) (xs := [.inl 4]) (rest := []) rfl rfl rfl rfl (zs_K (x := kx_361) rfl (by decide)) rfl (Nat.le_of_ble_eq_true rfl) (Nat.le_of_ble_eq_true rfl) (by omega) (k_Reader_fails (by omega) hI (by decide)) ?_
          rintro _ H61 ⟨z64, rfl, g60, hI62, hq63⟩
          have hf65 : fq [(361, 3), (361, 4), (361, 5), (361, 9)] [362] true H H61 := fq_t (fq_rf _ _ _ _) hq63 rfl rfl rfl
          refine k_run 0 (pc' := 69) (l' := [(0, .inr (.inr 361)), (1, .inl 1), (2, .inl x), (3, .inl a), (4, .inl b), (5, .inl c), (6, .inr (.inr 13)), (7, .inl (H.1 16 (x).toNat))]) (st' := [.inl z64]) rfl ?_
          refine h_retz (x := z64) rfl rfl (by omega) ?_
          exact ⟨_, rfl, (by omega), hI62, hf65⟩
    · refine k_run 0 (pc' := 43) (l' := [(0, .inr (.inr 361)), (1, .inl 1), (2, .inl x), (3, .inl a), (4, .inl b), (5, .inl c), (6, .inr (.inr 13)), (7, .inl (H.1 16 (x).toNat))]) (st' := []) rfl ?_
      refine k_run 2 (pc' := 45) (l' := [(0, .inr (.inr 361)), (1, .inl 1), (2, .inl x), (3, .inl a), (4, .inl b), (5, .inl c), (6, .inr (.inr 13)), (7, .inl (H.1 16 (x).toNat))]) (st' := [.inl 2, .inr (.inr 361)]) rfl ?_
      refine h_cv (i := 128) (j := 86) (b := 361) (M' := mt_86) (xs := [.inl 2]) (rest := []) rfl rfl rfl rfl (zs_K (x := kx_361) rfl (by decide)) rfl (Nat.le_of_ble_eq_true rfl) (Nat.le_of_ble_eq_true rfl) (by omega) (k_Reader_fails (by omega) hI (by decide)) ?_
      rintro _ H67 ⟨z70, rfl, g66, hI68, hq69⟩
      have hf71 : fq [(361, 3), (361, 4), (361, 5), (361, 9)] [362] true H H67 := fq_t (fq_rf _ _ _ _) hq69 rfl rfl rfl
      refine k_run 0 (pc' := 48) (l' := [(0, .inr (.inr 361)), (1, .inl 1), (2, .inl x), (3, .inl a), (4, .inl b), (5, .inl c), (6, .inr (.inr 13)), (7, .inl (H.1 16 (x).toNat))]) (st' := [.inl z70]) rfl ?_
      refine h_retz (x := z70) rfl rfl (by omega) ?_
      exact ⟨_, rfl, (by omega), hI68, hf71⟩

/-! Reader.readTerm -/
set_option maxRecDepth 100000 in
theorem k_readTerm_0 {m : Nat} {d : Nat} (hd : 3 * m + 10 ≤ d) {H : hp} (hI : Inv H) {a : Int} {b : Int} {c : Int} (ha : -2147483648 ≤ a ∧ a ≤ 2147483647) (hb : -2147483648 ≤ b ∧ b ≤ 2147483647) (hc : 0 ≤ c ∧ c ≤ 1) (hp0 : -2 ≤ a ∧ a ≤ 100 ∧ 0 ≤ b ∧ b ≤ 10 ∧ 10 ≤ b + (m : Int)) (hR : ∀ m1, m1 < m → RTc m1) (hA1 : RA1c m) (hA2 : RA2c m) : hG (zs zK) d mt_73 0 (zargs 0 [.inr (.inr 361), .inl a, .inl b, .inl c]) [] H (fun r9 H9 => ∃ z : Int, r9 = some (.inl z) ∧ ((0 ≤ z ∧ z ≤ 1)) ∧ Inv H9 ∧ fq [(361, 3), (361, 4), (361, 5), (361, 9)] [362] true H H9) := by
  refine k_run 0 (pc' := 0) (l' := [(0, .inr (.inr 361)), (1, .inl a), (2, .inl b), (3, .inl c)]) (st' := []) rfl ?_
  refine k_run 1 (pc' := 1) (l' := [(0, .inr (.inr 361)), (1, .inl a), (2, .inl b), (3, .inl c)]) (st' := [.inr (.inr 361)]) rfl ?_
  refine h_cv (i := 72) (j := 83) (b := 361) (M' := mt_83) (xs := []) (rest := []) rfl rfl rfl rfl (zs_K (x := kx_361) rfl (by decide)) rfl (Nat.le_of_ble_eq_true rfl) (Nat.le_of_ble_eq_true rfl) (by omega) (k_Reader_token (by omega) hI ) ?_
  rintro _ _ ⟨z5, rfl, g1, rfl⟩
  refine k_run 0 (pc' := 4) (l' := [(0, .inr (.inr 361)), (1, .inl a), (2, .inl b), (3, .inl c)]) (st' := [.inl z5]) rfl ?_
  rcases (show (z5 ≠ 2 ∧ z5 ≠ 3 ∧ z5 ≠ 40 ∧ z5 ≠ 95) ∨ z5 = 2 ∨ z5 = 3 ∨ z5 = 40 ∨ z5 = 95 by omega) with c6 | c6 | c6 | c6 | c6
  · refine k_lsw (t := 193) rfl (by omega) (by decide) (lsw_no (by intro q9 hq9; simp only [List.mem_cons, List.not_mem_nil, or_false] at hq9; rcases hq9 with rfl | rfl | rfl | rfl <;> (dsimp only; omega))) rfl ?_
    refine k_run 1 (pc' := 194) (l' := [(0, .inr (.inr 361)), (1, .inl a), (2, .inl b), (3, .inl c)]) (st' := [.inr (.inr 361)]) rfl ?_
    refine h_cv (i := 89) (j := 85) (b := 361) (M' := mt_85) (xs := []) (rest := []) rfl rfl rfl rfl (zs_K (x := kx_361) rfl (by decide)) rfl (Nat.le_of_ble_eq_true rfl) (Nat.le_of_ble_eq_true rfl) (by omega) (k_Reader_misplaced (by omega) hI ) ?_
    rintro _ H8 ⟨z11, rfl, g7, hI9, hq10⟩
    have hf12 : fq [(361, 3), (361, 4), (361, 5), (361, 9)] [362] true H H8 := fq_t (fq_rf _ _ _ _) hq10 rfl rfl rfl
    refine k_run 0 (pc' := 197) (l' := [(0, .inr (.inr 361)), (1, .inl a), (2, .inl b), (3, .inl c)]) (st' := [.inl z11]) rfl ?_
    refine h_retz (x := z11) rfl rfl (by omega) ?_
    exact ⟨_, rfl, (by omega), hI9, hf12⟩
  · refine k_lsw (t := 48) rfl (by omega) (by decide) (by rw [c6]) rfl ?_
    refine k_run 4 (pc' := 56) (l' := [(0, .inr (.inr 361)), (1, .inl a), (2, .inl b), (3, .inl c)]) (st' := [.inr (.inr 361), .inr (.inr 18)]) rfl ?_
    refine h_cv (i := 120) (j := 84) (b := 361) (M' := mt_84) (xs := []) (rest := [.inr (.inr 18)]) rfl rfl rfl rfl (zs_K (x := kx_361) rfl (by decide)) rfl (Nat.le_of_ble_eq_true rfl) (Nat.le_of_ble_eq_true rfl) (by omega) (k_Reader_name (by omega) hI ) ?_
    rintro _ _ ⟨z17, rfl, g13, rfl⟩
    refine k_run 0 (pc' := 59) (l' := [(0, .inr (.inr 361)), (1, .inl a), (2, .inl b), (3, .inl c)]) (st' := [.inr (.inl z17), .inr (.inr 18)]) rfl ?_
    have g18 : 0 ≤ (H.1 18 4) ∧ (H.1 18 4) ≤ 16 := kn (x := kx_18) hI rfl 4
    refine h_cv (i := 124) (j := 41) (b := 18) (M' := mt_41) (xs := [.inr (.inl z17)]) (rest := []) rfl rfl rfl rfl (zs_K (x := kx_18) rfl (by decide)) rfl (Nat.le_of_ble_eq_true rfl) (Nat.le_of_ble_eq_true rfl) (by omega) (k_Symbols_find_18 (by omega) hI ) ?_
    rintro _ _ ⟨z23, rfl, g19, rfl⟩
    refine k_run 0 (pc' := 62) (l' := [(0, .inr (.inr 361)), (1, .inl a), (2, .inl b), (3, .inl c)]) (st' := [.inl z23]) rfl ?_
    refine k_run 2 (pc' := 66) (l' := [(0, .inr (.inr 361)), (1, .inl a), (2, .inl b), (3, .inl c), (4, .inl z23)]) (st' := [.inl z23]) rfl ?_
    refine h_zge (off := 9) (t := 75) rfl rfl (by omega) (fun c24 => ?_) (fun c24 => ?_)
    · refine k_run 0 (pc' := 75) (l' := [(0, .inr (.inr 361)), (1, .inl a), (2, .inl b), (3, .inl c), (4, .inl z23)]) (st' := []) rfl ?_
      refine k_run 6 (pc' := 82) (l' := [(0, .inr (.inr 361)), (1, .inl a), (2, .inl b), (3, .inl c), (4, .inl z23)]) (st' := [.inl c, .inl b, .inl a, .inl z23, .inl 2, .inr (.inr 361)]) rfl ?_
      refine h_cv (i := 215) (j := 74) (b := 361) (M' := mt_74) (xs := [.inl c, .inl b, .inl a, .inl z23, .inl 2]) (rest := []) rfl rfl rfl rfl (zs_K (x := kx_361) rfl (by decide)) rfl (Nat.le_of_ble_eq_true rfl) (Nat.le_of_ble_eq_true rfl) (by omega) (hA2 (by omega) hI (by omega) (by omega) (by omega) (by omega) (by omega) (by omega)) ?_
      rintro _ H26 ⟨z29, rfl, g25, hI27, hq28⟩
      have hf30 : fq [(361, 3), (361, 4), (361, 5), (361, 9)] [362] true H H26 := fq_t (fq_rf _ _ _ _) hq28 rfl rfl rfl
      refine k_run 0 (pc' := 85) (l' := [(0, .inr (.inr 361)), (1, .inl a), (2, .inl b), (3, .inl c), (4, .inl z23)]) (st' := [.inl z29]) rfl ?_
      refine h_retz (x := z29) rfl rfl (by omega) ?_
      exact ⟨_, rfl, (by omega), hI27, hf30⟩
    · refine k_run 0 (pc' := 69) (l' := [(0, .inr (.inr 361)), (1, .inl a), (2, .inl b), (3, .inl c), (4, .inl z23)]) (st' := []) rfl ?_
      refine k_run 2 (pc' := 71) (l' := [(0, .inr (.inr 361)), (1, .inl a), (2, .inl b), (3, .inl c), (4, .inl z23)]) (st' := [.inl a, .inr (.inr 361)]) rfl ?_
      refine h_cv (i := 212) (j := 75) (b := 361) (M' := mt_75) (xs := [.inl a]) (rest := []) rfl rfl rfl rfl (zs_K (x := kx_361) rfl (by decide)) rfl (Nat.le_of_ble_eq_true rfl) (Nat.le_of_ble_eq_true rfl) (by omega) (k_Reader_readVariable (by omega) hI (by omega) (by omega)) ?_
      rintro _ H32 ⟨z35, rfl, g31, hI33, hq34⟩
      have hf36 : fq [(361, 3), (361, 4), (361, 5), (361, 9)] [362] true H H32 := fq_t (fq_rf _ _ _ _) hq34 rfl rfl rfl
      refine k_run 0 (pc' := 74) (l' := [(0, .inr (.inr 361)), (1, .inl a), (2, .inl b), (3, .inl c), (4, .inl z23)]) (st' := [.inl z35]) rfl ?_
      refine h_retz (x := z35) rfl rfl (by omega) ?_
      exact ⟨_, rfl, (by omega), hI33, hf36⟩
  · refine k_lsw (t := 86) rfl (by omega) (by decide) (by rw [c6]) rfl ?_
    refine k_run 4 (pc' := 94) (l' := [(0, .inr (.inr 361)), (1, .inl a), (2, .inl b), (3, .inl c)]) (st' := [.inr (.inr 361), .inr (.inr 13)]) rfl ?_
    refine h_cv (i := 120) (j := 84) (b := 361) (M' := mt_84) (xs := []) (rest := [.inr (.inr 13)]) rfl rfl rfl rfl (zs_K (x := kx_361) rfl (by decide)) rfl (Nat.le_of_ble_eq_true rfl) (Nat.le_of_ble_eq_true rfl) (by omega) (k_Reader_name (by omega) hI ) ?_
    rintro _ _ ⟨z41, rfl, g37, rfl⟩
    refine k_run 0 (pc' := 97) (l' := [(0, .inr (.inr 361)), (1, .inl a), (2, .inl b), (3, .inl c)]) (st' := [.inr (.inl z41), .inr (.inr 13)]) rfl ?_
    have g42 : 0 ≤ (H.1 13 4) ∧ (H.1 13 4) ≤ 16 := kn (x := kx_13) hI rfl 4
    refine h_cv (i := 124) (j := 41) (b := 13) (M' := mt_41) (xs := [.inr (.inl z41)]) (rest := []) rfl rfl rfl rfl (zs_K (x := kx_13) rfl (by decide)) rfl (Nat.le_of_ble_eq_true rfl) (Nat.le_of_ble_eq_true rfl) (by omega) (k_Symbols_find_13 (by omega) hI ) ?_
    rintro _ _ ⟨z47, rfl, g43, rfl⟩
    refine k_run 0 (pc' := 100) (l' := [(0, .inr (.inr 361)), (1, .inl a), (2, .inl b), (3, .inl c)]) (st' := [.inl z47]) rfl ?_
    refine k_run 2 (pc' := 104) (l' := [(0, .inr (.inr 361)), (1, .inl a), (2, .inl b), (3, .inl c), (5, .inl z47)]) (st' := [.inl z47]) rfl ?_
    refine h_zge (off := 9) (t := 113) rfl rfl (by omega) (fun c48 => ?_) (fun c48 => ?_)
    · refine k_run 0 (pc' := 113) (l' := [(0, .inr (.inr 361)), (1, .inl a), (2, .inl b), (3, .inl c), (5, .inl z47)]) (st' := []) rfl ?_
      refine k_run 6 (pc' := 120) (l' := [(0, .inr (.inr 361)), (1, .inl a), (2, .inl b), (3, .inl c), (5, .inl z47)]) (st' := [.inl c, .inl b, .inl a, .inl z47, .inl 1, .inr (.inr 361)]) rfl ?_
      refine h_cv (i := 215) (j := 74) (b := 361) (M' := mt_74) (xs := [.inl c, .inl b, .inl a, .inl z47, .inl 1]) (rest := []) rfl rfl rfl rfl (zs_K (x := kx_361) rfl (by decide)) rfl (Nat.le_of_ble_eq_true rfl) (Nat.le_of_ble_eq_true rfl) (by omega) (hA1 (by omega) hI (by omega) (by omega) (by omega) (by omega) (by omega) (by omega)) ?_
      rintro _ H50 ⟨z53, rfl, g49, hI51, hq52⟩
      have hf54 : fq [(361, 3), (361, 4), (361, 5), (361, 9)] [362] true H H50 := fq_t (fq_rf _ _ _ _) hq52 rfl rfl rfl
      refine k_run 0 (pc' := 123) (l' := [(0, .inr (.inr 361)), (1, .inl a), (2, .inl b), (3, .inl c), (5, .inl z47)]) (st' := [.inl z53]) rfl ?_
      refine h_retz (x := z53) rfl rfl (by omega) ?_
      exact ⟨_, rfl, (by omega), hI51, hf54⟩
    · refine k_run 0 (pc' := 107) (l' := [(0, .inr (.inr 361)), (1, .inl a), (2, .inl b), (3, .inl c), (5, .inl z47)]) (st' := []) rfl ?_
      refine k_run 2 (pc' := 109) (l' := [(0, .inr (.inr 361)), (1, .inl a), (2, .inl b), (3, .inl c), (5, .inl z47)]) (st' := [.inl 3, .inr (.inr 361)]) rfl ?_
      refine h_cv (i := 128) (j := 86) (b := 361) (M' := mt_86) (xs := [.inl 3]) (rest := []) rfl rfl rfl rfl (zs_K (x := kx_361) rfl (by decide)) rfl (Nat.le_of_ble_eq_true rfl) (Nat.le_of_ble_eq_true rfl) (by omega) (k_Reader_fails (by omega) hI (by decide)) ?_
      rintro _ H56 ⟨z59, rfl, g55, hI57, hq58⟩
      have hf60 : fq [(361, 3), (361, 4), (361, 5), (361, 9)] [362] true H H56 := fq_t (fq_rf _ _ _ _) hq58 rfl rfl rfl
      refine k_run 0 (pc' := 112) (l' := [(0, .inr (.inr 361)), (1, .inl a), (2, .inl b), (3, .inl c), (5, .inl z47)]) (st' := [.inl z59]) rfl ?_
      refine h_retz (x := z59) rfl rfl (by omega) ?_
      exact ⟨_, rfl, (by omega), hI57, hf60⟩
  · refine k_lsw (t := 144) rfl (by omega) (by decide) (by rw [c6]) rfl ?_
    refine k_run 2 (pc' := 147) (l' := [(0, .inr (.inr 361)), (1, .inl a), (2, .inl b), (3, .inl c)]) (st' := [.inl 10, .inl b]) rfl ?_
    refine h_ilt (off := 9) (t := 156) rfl rfl (by omega) (by decide) (fun c61 => ?_) (fun c61 => ?_)
    · refine k_run 0 (pc' := 156) (l' := [(0, .inr (.inr 361)), (1, .inl a), (2, .inl b), (3, .inl c)]) (st' := []) rfl ?_
      refine k_run 3 (pc' := 161) (l' := [(0, .inr (.inr 361)), (1, .inl a), (2, .inl b), (3, .inl c)]) (st' := [.inl (H.1 361 3), .inr (.inr 361)]) rfl ?_
      have g62 : -2147483648 ≤ (H.1 361 3) ∧ (H.1 361 3) ≤ 2147483647 := kn (x := kx_361) hI rfl 3
      refine k_run 2 (pc' := 163) (l' := [(0, .inr (.inr 361)), (1, .inl a), (2, .inl b), (3, .inl c)]) (st' := [.inl ((H.1 361 3) + 1), .inr (.inr 361)]) rfl ?_
      refine k_putw (a := 361) (x := kx_361) rfl rfl rfl (by decide) (by decide) rfl rfl rfl rfl hI rfl (fun H63 hI64 hw65 => ?_)
      have hf67 : fq [(361, 3), (361, 4), (361, 5), (361, 9)] [362] true H H63 := fq_w (fq_rf _ _ _ _) hw65 (fpo (by decide) rfl)
      refine k_run 0 (pc' := 166) (l' := [(0, .inr (.inr 361)), (1, .inl a), (2, .inl b), (3, .inl c)]) (st' := []) rfl ?_
      refine k_run 6 (pc' := 172) (l' := [(0, .inr (.inr 361)), (1, .inl a), (2, .inl b), (3, .inl c)]) (st' := [.inl 0, .inl (b + 1), .inl a, .inr (.inr 361)]) rfl ?_
      refine h_cv (i := 109) (j := 73) (b := 361) (M' := mt_73) (xs := [.inl 0, .inl (b + 1), .inl a]) (rest := []) rfl rfl rfl rfl (zs_K (x := kx_361) rfl (by decide)) rfl (Nat.le_of_ble_eq_true rfl) (Nat.le_of_ble_eq_true rfl) (by omega) (hR (m - 1) (by omega) (by omega) hI64 (by omega) (by omega) (by decide) (by omega)) ?_
      rintro _ H69 ⟨z72, rfl, g68, hI70, hq71⟩
      have hf73 : fq [(361, 3), (361, 4), (361, 5), (361, 9)] [362] true H H69 := fq_t hf67 hq71 rfl rfl rfl
      refine k_run 0 (pc' := 175) (l' := [(0, .inr (.inr 361)), (1, .inl a), (2, .inl b), (3, .inl c)]) (st' := [.inl z72]) rfl ?_
      refine h_zeq (off := 16) (t := 191) rfl rfl (by omega) (fun c74 => ?_) (fun c74 => ?_)
      · refine k_run 0 (pc' := 191) (l' := [(0, .inr (.inr 361)), (1, .inl a), (2, .inl b), (3, .inl c)]) (st' := []) rfl ?_
        refine k_run 1 (pc' := 192) (l' := [(0, .inr (.inr 361)), (1, .inl a), (2, .inl b), (3, .inl c)]) (st' := [.inl 0]) rfl ?_
        refine h_retz (x := 0) rfl rfl (by decide) ?_
        exact ⟨_, rfl, (by omega), hI70, hf73⟩
      · refine k_run 0 (pc' := 178) (l' := [(0, .inr (.inr 361)), (1, .inl a), (2, .inl b), (3, .inl c)]) (st' := []) rfl ?_
        refine k_run 2 (pc' := 181) (l' := [(0, .inr (.inr 361)), (1, .inl a), (2, .inl b), (3, .inl c)]) (st' := [.inl 41, .inr (.inr 361)]) rfl ?_
        refine h_cv (i := 92) (j := 82) (b := 361) (M' := mt_82) (xs := [.inl 41]) (rest := []) rfl rfl rfl rfl (zs_K (x := kx_361) rfl (by decide)) rfl (Nat.le_of_ble_eq_true rfl) (Nat.le_of_ble_eq_true rfl) (by omega) (k_Reader_take (by omega) hI70 (by decide)) ?_
        rintro _ H76 ⟨z79, rfl, g75, hI77, hq78⟩
        have hf80 : fq [(361, 3), (361, 4), (361, 5), (361, 9)] [362] true H H76 := fq_t hf73 hq78 rfl rfl rfl
        refine k_run 0 (pc' := 184) (l' := [(0, .inr (.inr 361)), (1, .inl a), (2, .inl b), (3, .inl c)]) (st' := [.inl z79]) rfl ?_
        refine h_zeq (off := 7) (t := 191) rfl rfl (by omega) (fun c81 => ?_) (fun c81 => ?_)
        · refine k_run 0 (pc' := 191) (l' := [(0, .inr (.inr 361)), (1, .inl a), (2, .inl b), (3, .inl c)]) (st' := []) rfl ?_
          refine k_run 1 (pc' := 192) (l' := [(0, .inr (.inr 361)), (1, .inl a), (2, .inl b), (3, .inl c)]) (st' := [.inl 0]) rfl ?_
          refine h_retz (x := 0) rfl rfl (by decide) ?_
          exact ⟨_, rfl, (by omega), hI77, hf80⟩
        · refine k_run 0 (pc' := 187) (l' := [(0, .inr (.inr 361)), (1, .inl a), (2, .inl b), (3, .inl c)]) (st' := []) rfl ?_
          refine k_run 2 (pc' := 192) (l' := [(0, .inr (.inr 361)), (1, .inl a), (2, .inl b), (3, .inl c)]) (st' := [.inl 1]) rfl ?_
          refine h_retz (x := 1) rfl rfl (by decide) ?_
          exact ⟨_, rfl, (by omega), hI77, hf80⟩
    · refine k_run 0 (pc' := 150) (l' := [(0, .inr (.inr 361)), (1, .inl a), (2, .inl b), (3, .inl c)]) (st' := []) rfl ?_
      refine k_run 2 (pc' := 152) (l' := [(0, .inr (.inr 361)), (1, .inl a), (2, .inl b), (3, .inl c)]) (st' := [.inl 5, .inr (.inr 361)]) rfl ?_
      refine h_cv (i := 128) (j := 86) (b := 361) (M' := mt_86) (xs := [.inl 5]) (rest := []) rfl rfl rfl rfl (zs_K (x := kx_361) rfl (by decide)) rfl (Nat.le_of_ble_eq_true rfl) (Nat.le_of_ble_eq_true rfl) (by omega) (k_Reader_fails (by omega) hI (by decide)) ?_
      rintro _ H83 ⟨z86, rfl, g82, hI84, hq85⟩
      have hf87 : fq [(361, 3), (361, 4), (361, 5), (361, 9)] [362] true H H83 := fq_t (fq_rf _ _ _ _) hq85 rfl rfl rfl
      refine k_run 0 (pc' := 155) (l' := [(0, .inr (.inr 361)), (1, .inl a), (2, .inl b), (3, .inl c)]) (st' := [.inl z86]) rfl ?_
      refine h_retz (x := z86) rfl rfl (by omega) ?_
      exact ⟨_, rfl, (by omega), hI84, hf87⟩
  · refine k_lsw (t := 124) rfl (by omega) (by decide) (by rw [c6]) rfl ?_
    refine k_run 2 (pc' := 127) (l' := [(0, .inr (.inr 361)), (1, .inl a), (2, .inl b), (3, .inl c)]) (st' := [.inl (-2), .inl a]) rfl ?_
    refine h_ine (off := 11) (t := 138) rfl rfl (by omega) (by decide) (fun c88 => ?_) (fun c88 => ?_)
    · refine k_run 0 (pc' := 138) (l' := [(0, .inr (.inr 361)), (1, .inl a), (2, .inl b), (3, .inl c)]) (st' := []) rfl ?_
      refine k_run 2 (pc' := 140) (l' := [(0, .inr (.inr 361)), (1, .inl a), (2, .inl b), (3, .inl c)]) (st' := [.inl 0, .inr (.inr 361)]) rfl ?_
      refine h_cv (i := 157) (j := 77) (b := 361) (M' := mt_77) (xs := [.inl 0]) (rest := []) rfl rfl rfl rfl (zs_K (x := kx_361) rfl (by decide)) rfl (Nat.le_of_ble_eq_true rfl) (Nat.le_of_ble_eq_true rfl) (by omega) (k_Reader_addName (by omega) hI (by decide)) ?_
      rintro _ H90 ⟨z93, rfl, g89, hI91, hq92⟩
      have hf94 : fq [(361, 3), (361, 4), (361, 5), (361, 9)] [362] true H H90 := fq_t (fq_rf _ _ _ _) hq92 rfl rfl rfl
      refine k_run 0 (pc' := 143) (l' := [(0, .inr (.inr 361)), (1, .inl a), (2, .inl b), (3, .inl c)]) (st' := [.inl z93]) rfl ?_
      refine h_retz (x := z93) rfl rfl (by omega) ?_
      exact ⟨_, rfl, (by omega), hI91, hf94⟩
    · refine k_run 0 (pc' := 130) (l' := [(0, .inr (.inr 361)), (1, .inl a), (2, .inl b), (3, .inl c)]) (st' := []) rfl ?_
      refine k_run 2 (pc' := 132) (l' := [(0, .inr (.inr 361)), (1, .inl a), (2, .inl b), (3, .inl c)]) (st' := [.inl 2, .inr (.inr 361)]) rfl ?_
      refine h_cv (i := 128) (j := 86) (b := 361) (M' := mt_86) (xs := [.inl 2]) (rest := []) rfl rfl rfl rfl (zs_K (x := kx_361) rfl (by decide)) rfl (Nat.le_of_ble_eq_true rfl) (Nat.le_of_ble_eq_true rfl) (by omega) (k_Reader_fails (by omega) hI (by decide)) ?_
      rintro _ H96 ⟨z99, rfl, g95, hI97, hq98⟩
      have hf100 : fq [(361, 3), (361, 4), (361, 5), (361, 9)] [362] true H H96 := fq_t (fq_rf _ _ _ _) hq98 rfl rfl rfl
      refine k_run 0 (pc' := 135) (l' := [(0, .inr (.inr 361)), (1, .inl a), (2, .inl b), (3, .inl c)]) (st' := [.inl z99]) rfl ?_
      refine k_run 1 (pc' := 143) (l' := [(0, .inr (.inr 361)), (1, .inl a), (2, .inl b), (3, .inl c)]) (st' := [.inl z99]) rfl ?_
      refine h_retz (x := z99) rfl rfl (by omega) ?_
      exact ⟨_, rfl, (by omega), hI97, hf100⟩

theorem k_RT : ∀ m, RTc m := by
  intro m
  induction m using Nat.strongRecOn with
  | ind m hR =>
    have h1 : RT1c m := fun hd _ hI _ _ ha hb hp => k_readTerm_1 hd hI ha hb hp hR
    have h2 : RA1c m := fun hd _ hI _ _ _ _ hx ha hb hc hp hq => k_readApplied_1 hd hI hx ha hb hc hp hq h1
    have h3 : RA2c m := fun hd _ hI _ _ _ _ hx ha hb hc hp hq => k_readApplied_2 hd hI hx ha hb hc hp hq h1
    have h4 : RTc m := fun hd _ hI _ _ _ ha hb hc hp => k_readTerm_0 hd hI ha hb hc hp hR h2 h3
    exact @h4
theorem k_Reader_readTerm {d : Nat} (hd : 40 ≤ d) {H : hp} (hI : Inv H) {a b c : Int} (ha : -2147483648 ≤ a ∧ a ≤ 2147483647) (hb : -2147483648 ≤ b ∧ b ≤ 2147483647) (hc : 0 ≤ c ∧ c ≤ 1) (hp0 : -2 ≤ a ∧ a ≤ 100 ∧ 0 ≤ b ∧ b ≤ 10) : hG (zs zK) d mt_73 0 (zargs 0 [.inr (.inr 361), .inl a, .inl b, .inl c]) [] H (fun r9 H9 => ∃ z : Int, r9 = some (.inl z) ∧ ((0 ≤ z ∧ z ≤ 1)) ∧ Inv H9 ∧ fq [(361, 3), (361, 4), (361, 5), (361, 9)] [362] true H H9) := k_RT 10 (by omega) hI ha hb hc (by omega)

def RPc (m : Nat) : Prop := ∀ {d : Nat} (_ : 2 * m + 10 ≤ d) {H : hp} (_ : Inv H) {a b : Int} (_ : -2147483648 ≤ a ∧ a ≤ 2147483647) (_ : -2147483648 ≤ b ∧ b ≤ 2147483647) (_ : -2 ≤ a ∧ a ≤ 100 ∧ 0 ≤ b ∧ b ≤ 10 ∧ 10 ≤ b + (m : Int)), hG (zs zK) d mt_70 0 (zargs 0 [.inr (.inr 361), .inl a, .inl b]) [] H (fun r9 H9 => ∃ z : Int, r9 = some (.inl z) ∧ ((0 ≤ z ∧ z ≤ 1)) ∧ Inv H9 ∧ fq [(361, 3), (361, 4), (361, 5), (361, 9)] [362] true H H9)

/-! Reader.readPatternConstructor -/
set_option maxRecDepth 100000 in
theorem k_readPC_0_cut {d : Nat} (hd : 3 ≤ d) {H : hp} (hI : Inv H) {a : Int} {b : Int} (ha : -2147483648 ≤ a ∧ a ≤ 2147483647) (hb : -2147483648 ≤ b ∧ b ≤ 2147483647) (hp0 : -2 ≤ a ∧ a ≤ 100 ∧ 0 ≤ b ∧ b ≤ 10) : ∀ w : Nat, (∀ (H1 : hp), Inv H1 → fq [(361, 3), (361, 4), (361, 5), (361, 9)] [362] true H H1 → ∀ (x4 : Int) (x5 : Int) (x6 : Int) (x7 : Int) , (-2147483648 ≤ x4 ∧ x4 ≤ 2147483647) → (-2147483648 ≤ x5 ∧ x5 ≤ 2147483647) → (-2147483648 ≤ x6 ∧ x6 ≤ 2147483647) → (-2147483648 ≤ x7 ∧ x7 ≤ 2147483647) → (0 ≤ x7) → (x5 ≤ 0) → (0 ≤ x6 ∧ x6 ≤ 1) → (((100 - x7).toNat) < w) → hG (zs zK) d mt_72 98 [(0, .inr (.inr 361)), (1, .inl a), (2, .inl b), (3, .inl 0), (4, .inl x4), (5, .inl x5), (6, .inl x6), (7, .inl x7)] [] H1 (fun r9 H9 => ∃ z : Int, r9 = some (.inl z) ∧ ((0 ≤ z ∧ z ≤ 1)) ∧ Inv H9 ∧ fq [(361, 3), (361, 4), (361, 5), (361, 9)] [362] true H H9)) := by
  intro w
  induction w with
  | zero => exact fun _ _ _ _ _ _ _ _ _ _ _ _ _ _ h => absurd h (Nat.not_lt_zero _)
  | succ w ih =>
    intro H1 hI1 hf1 x4 x5 x6 x7 hx4 hx5 hx6 hx7 hi0 hi1 hi2 hw
    refine k_run 1 (pc' := 100) (l' := [(0, .inr (.inr 361)), (1, .inl a), (2, .inl b), (3, .inl 0), (4, .inl x4), (5, .inl x5), (6, .inl x6), (7, .inl x7)]) (st' := [.inl x6]) rfl ?_
    refine h_zeq (off := 37) (t := 137) rfl rfl (by omega) (fun c46 => ?_) (fun c46 => ?_)
    · refine k_run 0 (pc' := 137) (l' := [(0, .inr (.inr 361)), (1, .inl a), (2, .inl b), (3, .inl 0), (4, .inl x4), (5, .inl x5), (6, .inl x6), (7, .inl x7)]) (st' := []) rfl ?_
      refine k_run 1 (pc' := 139) (l' := [(0, .inr (.inr 361)), (1, .inl a), (2, .inl b), (3, .inl 0), (4, .inl x4), (5, .inl x5), (6, .inl x6), (7, .inl x7)]) (st' := [.inl x6]) rfl ?_
      refine h_retz (x := x6) rfl rfl (by omega) ?_
      exact ⟨_, rfl, (by omega), hI1, hf1⟩
    · refine k_run 0 (pc' := 103) (l' := [(0, .inr (.inr 361)), (1, .inl a), (2, .inl b), (3, .inl 0), (4, .inl x4), (5, .inl x5), (6, .inl x6), (7, .inl x7)]) (st' := []) rfl ?_
      refine k_run 2 (pc' := 107) (l' := [(0, .inr (.inr 361)), (1, .inl a), (2, .inl b), (3, .inl 0), (4, .inl x4), (5, .inl x5), (6, .inl x6), (7, .inl x7)]) (st' := [.inl x5, .inl x7]) rfl ?_
      refine h_ige (off := 30) (t := 137) rfl rfl (by omega) (by omega) (fun c47 => ?_) (fun c47 => ?_)
      · refine k_run 0 (pc' := 137) (l' := [(0, .inr (.inr 361)), (1, .inl a), (2, .inl b), (3, .inl 0), (4, .inl x4), (5, .inl x5), (6, .inl x6), (7, .inl x7)]) (st' := []) rfl ?_
        refine k_run 1 (pc' := 139) (l' := [(0, .inr (.inr 361)), (1, .inl a), (2, .inl b), (3, .inl 0), (4, .inl x4), (5, .inl x5), (6, .inl x6), (7, .inl x7)]) (st' := [.inl x6]) rfl ?_
        refine h_retz (x := x6) rfl rfl (by omega) ?_
        exact ⟨_, rfl, (by omega), hI1, hf1⟩
      · refine k_run 0 (pc' := 110) (l' := [(0, .inr (.inr 361)), (1, .inl a), (2, .inl b), (3, .inl 0), (4, .inl x4), (5, .inl x5), (6, .inl x6), (7, .inl x7)]) (st' := []) rfl ?_
        exfalso
        omega
set_option maxRecDepth 100000 in
theorem k_readPC_0 {d : Nat} (hd : 3 ≤ d) {H : hp} (hI : Inv H) {a : Int} {b : Int} (ha : -2147483648 ≤ a ∧ a ≤ 2147483647) (hb : -2147483648 ≤ b ∧ b ≤ 2147483647) (hp0 : -2 ≤ a ∧ a ≤ 100 ∧ 0 ≤ b ∧ b ≤ 10) : hG (zs zK) d mt_72 0 (zargs 0 [.inr (.inr 361), .inl a, .inl b, .inl 0]) [] H (fun r9 H9 => ∃ z : Int, r9 = some (.inl z) ∧ ((0 ≤ z ∧ z ≤ 1)) ∧ Inv H9 ∧ fq [(361, 3), (361, 4), (361, 5), (361, 9)] [362] true H H9) := by
  refine k_run 0 (pc' := 0) (l' := [(0, .inr (.inr 361)), (1, .inl a), (2, .inl b), (3, .inl 0)]) (st' := []) rfl ?_
  refine k_run 4 (pc' := 8) (l' := [(0, .inr (.inr 361)), (1, .inl a), (2, .inl b), (3, .inl 0)]) (st' := [.inr (.inr 361), .inr (.inr 13)]) rfl ?_
  refine h_cv (i := 120) (j := 84) (b := 361) (M' := mt_84) (xs := []) (rest := [.inr (.inr 13)]) rfl rfl rfl rfl (zs_K (x := kx_361) rfl (by decide)) rfl (Nat.le_of_ble_eq_true rfl) (Nat.le_of_ble_eq_true rfl) (by omega) (k_Reader_name (by omega) hI ) ?_
  rintro _ _ ⟨z5, rfl, g1, rfl⟩
  refine k_run 0 (pc' := 11) (l' := [(0, .inr (.inr 361)), (1, .inl a), (2, .inl b), (3, .inl 0)]) (st' := [.inr (.inl z5), .inr (.inr 13)]) rfl ?_
  have g6 : 0 ≤ (H.1 13 4) ∧ (H.1 13 4) ≤ 16 := kn (x := kx_13) hI rfl 4
  refine h_cv (i := 124) (j := 41) (b := 13) (M' := mt_41) (xs := [.inr (.inl z5)]) (rest := []) rfl rfl rfl rfl (zs_K (x := kx_13) rfl (by decide)) rfl (Nat.le_of_ble_eq_true rfl) (Nat.le_of_ble_eq_true rfl) (by omega) (k_Symbols_find_13 (by omega) hI ) ?_
  rintro _ _ ⟨z11, rfl, g7, rfl⟩
  refine k_run 0 (pc' := 14) (l' := [(0, .inr (.inr 361)), (1, .inl a), (2, .inl b), (3, .inl 0)]) (st' := [.inl z11]) rfl ?_
  refine k_run 2 (pc' := 18) (l' := [(0, .inr (.inr 361)), (1, .inl a), (2, .inl b), (3, .inl 0), (4, .inl z11)]) (st' := [.inl z11]) rfl ?_
  refine h_zge (off := 9) (t := 27) rfl rfl (by omega) (fun c12 => ?_) (fun c12 => ?_)
  · refine k_run 0 (pc' := 27) (l' := [(0, .inr (.inr 361)), (1, .inl a), (2, .inl b), (3, .inl 0), (4, .inl z11)]) (st' := []) rfl ?_
    refine k_run 5 (pc' := 39) (l' := [(0, .inr (.inr 361)), (1, .inl a), (2, .inl b), (3, .inl 0), (4, .inl z11)]) (st' := [.inl z11, .inr (.inr 16)]) rfl ?_
    refine k_ild (c := 16) (j := (z11).toNat) (i := z11) (x := kx_16) rfl rfl (by decide) rfl (by decide) (by omega) (by omega) ?_
    have g13 : 0 ≤ (H.1 16 (z11).toNat) ∧ (H.1 16 (z11).toNat) ≤ 4 := kn (x := kx_16) hI rfl (z11).toNat
    refine k_run 0 (pc' := 40) (l' := [(0, .inr (.inr 361)), (1, .inl a), (2, .inl b), (3, .inl 0), (4, .inl z11)]) (st' := [.inl (H.1 16 (z11).toNat)]) rfl ?_
    refine k_run 2 (pc' := 44) (l' := [(0, .inr (.inr 361)), (1, .inl a), (2, .inl b), (3, .inl 0), (4, .inl z11), (5, .inl (H.1 16 (z11).toNat))]) (st' := [.inl (H.1 16 (z11).toNat)]) rfl ?_
    refine h_zle (off := 13) (t := 57) rfl rfl (by omega) (fun c14 => ?_) (fun c14 => ?_)
    · refine k_run 0 (pc' := 57) (l' := [(0, .inr (.inr 361)), (1, .inl a), (2, .inl b), (3, .inl 0), (4, .inl z11), (5, .inl (H.1 16 (z11).toNat))]) (st' := []) rfl ?_
      refine k_run 5 (pc' := 69) (l' := [(0, .inr (.inr 361)), (1, .inl a), (2, .inl b), (3, .inl 0), (4, .inl z11), (5, .inl (H.1 16 (z11).toNat))]) (st' := [.inl z11, .inr (.inr 15)]) rfl ?_
      refine k_ild (c := 15) (j := (z11).toNat) (i := z11) (x := kx_15) rfl rfl (by decide) rfl (by decide) (by omega) (by omega) ?_
      have g15 : -2 ≤ (H.1 15 (z11).toNat) ∧ (H.1 15 (z11).toNat) ≤ 100 := kn (x := kx_15) hI rfl (z11).toNat
      refine k_run 0 (pc' := 70) (l' := [(0, .inr (.inr 361)), (1, .inl a), (2, .inl b), (3, .inl 0), (4, .inl z11), (5, .inl (H.1 16 (z11).toNat))]) (st' := [.inl (H.1 15 (z11).toNat)]) rfl ?_
      refine k_run 1 (pc' := 71) (l' := [(0, .inr (.inr 361)), (1, .inl a), (2, .inl b), (3, .inl 0), (4, .inl z11), (5, .inl (H.1 16 (z11).toNat))]) (st' := [.inl a, .inl (H.1 15 (z11).toNat)]) rfl ?_
      refine h_ieq (off := 9) (t := 80) rfl rfl (by omega) (by omega) (fun c16 => ?_) (fun c16 => ?_)
      · refine k_run 0 (pc' := 80) (l' := [(0, .inr (.inr 361)), (1, .inl a), (2, .inl b), (3, .inl 0), (4, .inl z11), (5, .inl (H.1 16 (z11).toNat))]) (st' := []) rfl ?_
        refine k_run 4 (pc' := 87) (l' := [(0, .inr (.inr 361)), (1, .inl a), (2, .inl b), (3, .inl 0), (4, .inl z11), (5, .inl (H.1 16 (z11).toNat))]) (st' := [.inl z11, .inr (.inr 7), .inr (.inr 361)]) rfl ?_
        refine h_cv (i := 209) (j := 38) (b := 7) (M' := mt_38) (xs := [.inl z11]) (rest := [.inr (.inr 361)]) rfl rfl rfl rfl (zs_K (x := kx_7) rfl (by decide)) rfl (Nat.le_of_ble_eq_true rfl) (Nat.le_of_ble_eq_true rfl) (by omega) (k_Program_codeOfConstructor (by omega) hI (by omega)) ?_
        rintro _ _ ⟨z21, rfl, g17, rfl⟩
        refine k_run 0 (pc' := 90) (l' := [(0, .inr (.inr 361)), (1, .inl a), (2, .inl b), (3, .inl 0), (4, .inl z11), (5, .inl (H.1 16 (z11).toNat))]) (st' := [.inl z21, .inr (.inr 361)]) rfl ?_
        refine h_cv (i := 157) (j := 77) (b := 361) (M' := mt_77) (xs := [.inl z21]) (rest := []) rfl rfl rfl rfl (zs_K (x := kx_361) rfl (by decide)) rfl (Nat.le_of_ble_eq_true rfl) (Nat.le_of_ble_eq_true rfl) (by omega) (k_Reader_addName (by omega) hI (by omega)) ?_
        rintro _ H23 ⟨z26, rfl, g22, hI24, hq25⟩
        have hf27 : fq [(361, 3), (361, 4), (361, 5), (361, 9)] [362] true H H23 := fq_t (fq_rf _ _ _ _) hq25 rfl rfl rfl
        refine k_run 0 (pc' := 93) (l' := [(0, .inr (.inr 361)), (1, .inl a), (2, .inl b), (3, .inl 0), (4, .inl z11), (5, .inl (H.1 16 (z11).toNat))]) (st' := [.inl z26]) rfl ?_
        refine k_run 3 (pc' := 98) (l' := [(0, .inr (.inr 361)), (1, .inl a), (2, .inl b), (3, .inl 0), (4, .inl z11), (5, .inl (H.1 16 (z11).toNat)), (6, .inl z26), (7, .inl 0)]) (st' := []) rfl ?_
        exact (k_readPC_0_cut hd hI ha hb hp0 _) H23 hI24 hf27 z11 (H.1 16 (z11).toNat) z26 (0 : Int) (by omega) (by omega) (by omega) (by decide) (by omega) (by omega) (by omega) (Nat.lt_succ_self _)
      · refine k_run 0 (pc' := 74) (l' := [(0, .inr (.inr 361)), (1, .inl a), (2, .inl b), (3, .inl 0), (4, .inl z11), (5, .inl (H.1 16 (z11).toNat))]) (st' := []) rfl ?_
        refine k_run 2 (pc' := 76) (l' := [(0, .inr (.inr 361)), (1, .inl a), (2, .inl b), (3, .inl 0), (4, .inl z11), (5, .inl (H.1 16 (z11).toNat))]) (st' := [.inl 4, .inr (.inr 361)]) rfl ?_
        refine h_cv (i := 128) (j := 86) (b := 361) (M' := mt_86) (xs := [.inl 4]) (rest := []) rfl rfl rfl rfl (zs_K (x := kx_361) rfl (by decide)) rfl (Nat.le_of_ble_eq_true rfl) (Nat.le_of_ble_eq_true rfl) (by omega) (k_Reader_fails (by omega) hI (by decide)) ?_
        rintro _ H29 ⟨z32, rfl, g28, hI30, hq31⟩
        have hf33 : fq [(361, 3), (361, 4), (361, 5), (361, 9)] [362] true H H29 := fq_t (fq_rf _ _ _ _) hq31 rfl rfl rfl
        refine k_run 0 (pc' := 79) (l' := [(0, .inr (.inr 361)), (1, .inl a), (2, .inl b), (3, .inl 0), (4, .inl z11), (5, .inl (H.1 16 (z11).toNat))]) (st' := [.inl z32]) rfl ?_
        refine h_retz (x := z32) rfl rfl (by omega) ?_
        exact ⟨_, rfl, (by omega), hI30, hf33⟩
    · refine k_run 0 (pc' := 47) (l' := [(0, .inr (.inr 361)), (1, .inl a), (2, .inl b), (3, .inl 0), (4, .inl z11), (5, .inl (H.1 16 (z11).toNat))]) (st' := []) rfl ?_
      refine k_run 1 (pc' := 48) (l' := [(0, .inr (.inr 361)), (1, .inl a), (2, .inl b), (3, .inl 0), (4, .inl z11), (5, .inl (H.1 16 (z11).toNat))]) (st' := [.inl 0]) rfl ?_
      refine h_zne (off := 9) (t := 57) rfl rfl (by decide) (fun c => absurd c (by decide)) (fun _ => ?_)
      refine k_run 0 (pc' := 51) (l' := [(0, .inr (.inr 361)), (1, .inl a), (2, .inl b), (3, .inl 0), (4, .inl z11), (5, .inl (H.1 16 (z11).toNat))]) (st' := []) rfl ?_
      refine k_run 2 (pc' := 53) (l' := [(0, .inr (.inr 361)), (1, .inl a), (2, .inl b), (3, .inl 0), (4, .inl z11), (5, .inl (H.1 16 (z11).toNat))]) (st' := [.inl 2, .inr (.inr 361)]) rfl ?_
      refine h_cv (i := 128) (j := 86) (b := 361) (M' := mt_86) (xs := [.inl 2]) (rest := []) rfl rfl rfl rfl (zs_K (x := kx_361) rfl (by decide)) rfl (Nat.le_of_ble_eq_true rfl) (Nat.le_of_ble_eq_true rfl) (by omega) (k_Reader_fails (by omega) hI (by decide)) ?_
      rintro _ H35 ⟨z38, rfl, g34, hI36, hq37⟩
      have hf39 : fq [(361, 3), (361, 4), (361, 5), (361, 9)] [362] true H H35 := fq_t (fq_rf _ _ _ _) hq37 rfl rfl rfl
      refine k_run 0 (pc' := 56) (l' := [(0, .inr (.inr 361)), (1, .inl a), (2, .inl b), (3, .inl 0), (4, .inl z11), (5, .inl (H.1 16 (z11).toNat))]) (st' := [.inl z38]) rfl ?_
      refine h_retz (x := z38) rfl rfl (by omega) ?_
      exact ⟨_, rfl, (by omega), hI36, hf39⟩
  · refine k_run 0 (pc' := 21) (l' := [(0, .inr (.inr 361)), (1, .inl a), (2, .inl b), (3, .inl 0), (4, .inl z11)]) (st' := []) rfl ?_
    refine k_run 2 (pc' := 23) (l' := [(0, .inr (.inr 361)), (1, .inl a), (2, .inl b), (3, .inl 0), (4, .inl z11)]) (st' := [.inl 3, .inr (.inr 361)]) rfl ?_
    refine h_cv (i := 128) (j := 86) (b := 361) (M' := mt_86) (xs := [.inl 3]) (rest := []) rfl rfl rfl rfl (zs_K (x := kx_361) rfl (by decide)) rfl (Nat.le_of_ble_eq_true rfl) (Nat.le_of_ble_eq_true rfl) (by omega) (k_Reader_fails (by omega) hI (by decide)) ?_
    rintro _ H41 ⟨z44, rfl, g40, hI42, hq43⟩
    have hf45 : fq [(361, 3), (361, 4), (361, 5), (361, 9)] [362] true H H41 := fq_t (fq_rf _ _ _ _) hq43 rfl rfl rfl
    refine k_run 0 (pc' := 26) (l' := [(0, .inr (.inr 361)), (1, .inl a), (2, .inl b), (3, .inl 0), (4, .inl z11)]) (st' := [.inl z44]) rfl ?_
    refine h_retz (x := z44) rfl rfl (by omega) ?_
    exact ⟨_, rfl, (by omega), hI42, hf45⟩

/-! Reader.readPatternConstructor -/
set_option maxRecDepth 100000 in
theorem k_readPC_1_cut {m : Nat} {d : Nat} (hd : 2 * m + 11 ≤ d) {H : hp} (hI : Inv H) {a : Int} {b : Int} (ha : -2147483648 ≤ a ∧ a ≤ 2147483647) (hb : -2147483648 ≤ b ∧ b ≤ 2147483647) (hp0 : -2 ≤ a ∧ a ≤ 100 ∧ 0 ≤ b ∧ b ≤ 10 ∧ 10 ≤ b + (m : Int)) (hR : ∀ m1, m1 ≤ m → RPc m1) : ∀ w : Nat, (∀ (H1 : hp), Inv H1 → fq [(361, 3), (361, 4), (361, 5), (361, 9)] [362] true H H1 → ∀ (x4 : Int) (x5 : Int) (x6 : Int) (x7 : Int) , (-2147483648 ≤ x4 ∧ x4 ≤ 2147483647) → (-2147483648 ≤ x5 ∧ x5 ≤ 2147483647) → (-2147483648 ≤ x6 ∧ x6 ≤ 2147483647) → (-2147483648 ≤ x7 ∧ x7 ≤ 2147483647) → (0 ≤ x7) → (x5 ≤ 4) → (0 ≤ x4 ∧ x4 < 16) → (0 ≤ x6 ∧ x6 ≤ 1) → (((100 - x7).toNat) < w) → hG (zs zK) d mt_72 98 [(0, .inr (.inr 361)), (1, .inl a), (2, .inl b), (3, .inl 1), (4, .inl x4), (5, .inl x5), (6, .inl x6), (7, .inl x7)] [] H1 (fun r9 H9 => ∃ z : Int, r9 = some (.inl z) ∧ ((0 ≤ z ∧ z ≤ 1)) ∧ Inv H9 ∧ fq [(361, 3), (361, 4), (361, 5), (361, 9)] [362] true H H9)) := by
  intro w
  induction w with
  | zero => exact fun _ _ _ _ _ _ _ _ _ _ _ _ _ _ _ h => absurd h (Nat.not_lt_zero _)
  | succ w ih =>
    intro H1 hI1 hf1 x4 x5 x6 x7 hx4 hx5 hx6 hx7 hi0 hi1 hi2 hi3 hw
    refine k_run 1 (pc' := 100) (l' := [(0, .inr (.inr 361)), (1, .inl a), (2, .inl b), (3, .inl 1), (4, .inl x4), (5, .inl x5), (6, .inl x6), (7, .inl x7)]) (st' := [.inl x6]) rfl ?_
    refine h_zeq (off := 37) (t := 137) rfl rfl (by omega) (fun c59 => ?_) (fun c59 => ?_)
    · refine k_run 0 (pc' := 137) (l' := [(0, .inr (.inr 361)), (1, .inl a), (2, .inl b), (3, .inl 1), (4, .inl x4), (5, .inl x5), (6, .inl x6), (7, .inl x7)]) (st' := []) rfl ?_
      refine k_run 1 (pc' := 139) (l' := [(0, .inr (.inr 361)), (1, .inl a), (2, .inl b), (3, .inl 1), (4, .inl x4), (5, .inl x5), (6, .inl x6), (7, .inl x7)]) (st' := [.inl x6]) rfl ?_
      refine h_retz (x := x6) rfl rfl (by omega) ?_
      exact ⟨_, rfl, (by omega), hI1, hf1⟩
    · refine k_run 0 (pc' := 103) (l' := [(0, .inr (.inr 361)), (1, .inl a), (2, .inl b), (3, .inl 1), (4, .inl x4), (5, .inl x5), (6, .inl x6), (7, .inl x7)]) (st' := []) rfl ?_
      refine k_run 2 (pc' := 107) (l' := [(0, .inr (.inr 361)), (1, .inl a), (2, .inl b), (3, .inl 1), (4, .inl x4), (5, .inl x5), (6, .inl x6), (7, .inl x7)]) (st' := [.inl x5, .inl x7]) rfl ?_
      refine h_ige (off := 30) (t := 137) rfl rfl (by omega) (by omega) (fun c60 => ?_) (fun c60 => ?_)
      · refine k_run 0 (pc' := 137) (l' := [(0, .inr (.inr 361)), (1, .inl a), (2, .inl b), (3, .inl 1), (4, .inl x4), (5, .inl x5), (6, .inl x6), (7, .inl x7)]) (st' := []) rfl ?_
        refine k_run 1 (pc' := 139) (l' := [(0, .inr (.inr 361)), (1, .inl a), (2, .inl b), (3, .inl 1), (4, .inl x4), (5, .inl x5), (6, .inl x6), (7, .inl x7)]) (st' := [.inl x6]) rfl ?_
        refine h_retz (x := x6) rfl rfl (by omega) ?_
        exact ⟨_, rfl, (by omega), hI1, hf1⟩
      · refine k_run 0 (pc' := 110) (l' := [(0, .inr (.inr 361)), (1, .inl a), (2, .inl b), (3, .inl 1), (4, .inl x4), (5, .inl x5), (6, .inl x6), (7, .inl x7)]) (st' := []) rfl ?_
        refine k_run 6 (pc' := 122) (l' := [(0, .inr (.inr 361)), (1, .inl a), (2, .inl b), (3, .inl 1), (4, .inl x4), (5, .inl x5), (6, .inl x6), (7, .inl x7)]) (st' := [.inl x7, .inl x4, .inr (.inr 13), .inr (.inr 361)]) rfl ?_
        refine h_cv (i := 160) (j := 45) (b := 13) (M' := mt_45) (xs := [.inl x7, .inl x4]) (rest := [.inr (.inr 361)]) rfl rfl rfl rfl (zs_K (x := kx_13) rfl (by decide)) rfl (Nat.le_of_ble_eq_true rfl) (Nat.le_of_ble_eq_true rfl) (by omega) (k_Symbols_argument_13 (by omega) hI1 (by omega) (by omega) (by omega)) ?_
        rintro _ _ ⟨z65, rfl, g61, rfl⟩
        refine k_run 0 (pc' := 125) (l' := [(0, .inr (.inr 361)), (1, .inl a), (2, .inl b), (3, .inl 1), (4, .inl x4), (5, .inl x5), (6, .inl x6), (7, .inl x7)]) (st' := [.inl z65, .inr (.inr 361)]) rfl ?_
        refine k_run 1 (pc' := 126) (l' := [(0, .inr (.inr 361)), (1, .inl a), (2, .inl b), (3, .inl 1), (4, .inl x4), (5, .inl x5), (6, .inl x6), (7, .inl x7)]) (st' := [.inl b, .inl z65, .inr (.inr 361)]) rfl ?_
        refine h_cv (i := 164) (j := 70) (b := 361) (M' := mt_70) (xs := [.inl b, .inl z65]) (rest := []) rfl rfl rfl rfl (zs_K (x := kx_361) rfl (by decide)) rfl (Nat.le_of_ble_eq_true rfl) (Nat.le_of_ble_eq_true rfl) (by omega) (hR m (by omega) (by omega) hI1 (by omega) (by omega) (by omega)) ?_
        rintro _ H67 ⟨z70, rfl, g66, hI68, hq69⟩
        have hf71 : fq [(361, 3), (361, 4), (361, 5), (361, 9)] [362] true H H67 := fq_t hf1 hq69 rfl rfl rfl
        refine k_run 0 (pc' := 129) (l' := [(0, .inr (.inr 361)), (1, .inl a), (2, .inl b), (3, .inl 1), (4, .inl x4), (5, .inl x5), (6, .inl x6), (7, .inl x7)]) (st' := [.inl z70]) rfl ?_
        refine k_run 3 (pc' := 98) (l' := [(0, .inr (.inr 361)), (1, .inl a), (2, .inl b), (3, .inl 1), (4, .inl x4), (5, .inl x5), (6, .inl z70), (7, .inl (x7 + 1))]) (st' := []) rfl ?_
        exact ih H67 hI68 hf71 x4 x5 z70 (x7 + 1) (by omega) (by omega) (by omega) (by omega) (by omega) (by omega) (by omega) (by omega) (by omega)
set_option maxRecDepth 100000 in
theorem k_readPC_1 {m : Nat} {d : Nat} (hd : 2 * m + 11 ≤ d) {H : hp} (hI : Inv H) {a : Int} {b : Int} (ha : -2147483648 ≤ a ∧ a ≤ 2147483647) (hb : -2147483648 ≤ b ∧ b ≤ 2147483647) (hp0 : -2 ≤ a ∧ a ≤ 100 ∧ 0 ≤ b ∧ b ≤ 10 ∧ 10 ≤ b + (m : Int)) (hR : ∀ m1, m1 ≤ m → RPc m1) : hG (zs zK) d mt_72 0 (zargs 0 [.inr (.inr 361), .inl a, .inl b, .inl 1]) [] H (fun r9 H9 => ∃ z : Int, r9 = some (.inl z) ∧ ((0 ≤ z ∧ z ≤ 1)) ∧ Inv H9 ∧ fq [(361, 3), (361, 4), (361, 5), (361, 9)] [362] true H H9) := by
  refine k_run 0 (pc' := 0) (l' := [(0, .inr (.inr 361)), (1, .inl a), (2, .inl b), (3, .inl 1)]) (st' := []) rfl ?_
  refine k_run 4 (pc' := 8) (l' := [(0, .inr (.inr 361)), (1, .inl a), (2, .inl b), (3, .inl 1)]) (st' := [.inr (.inr 361), .inr (.inr 13)]) rfl ?_
  refine h_cv (i := 120) (j := 84) (b := 361) (M' := mt_84) (xs := []) (rest := [.inr (.inr 13)]) rfl rfl rfl rfl (zs_K (x := kx_361) rfl (by decide)) rfl (Nat.le_of_ble_eq_true rfl) (Nat.le_of_ble_eq_true rfl) (by omega) (k_Reader_name (by omega) hI ) ?_
  rintro _ _ ⟨z5, rfl, g1, rfl⟩
  refine k_run 0 (pc' := 11) (l' := [(0, .inr (.inr 361)), (1, .inl a), (2, .inl b), (3, .inl 1)]) (st' := [.inr (.inl z5), .inr (.inr 13)]) rfl ?_
  have g6 : 0 ≤ (H.1 13 4) ∧ (H.1 13 4) ≤ 16 := kn (x := kx_13) hI rfl 4
  refine h_cv (i := 124) (j := 41) (b := 13) (M' := mt_41) (xs := [.inr (.inl z5)]) (rest := []) rfl rfl rfl rfl (zs_K (x := kx_13) rfl (by decide)) rfl (Nat.le_of_ble_eq_true rfl) (Nat.le_of_ble_eq_true rfl) (by omega) (k_Symbols_find_13 (by omega) hI ) ?_
  rintro _ _ ⟨z11, rfl, g7, rfl⟩
  refine k_run 0 (pc' := 14) (l' := [(0, .inr (.inr 361)), (1, .inl a), (2, .inl b), (3, .inl 1)]) (st' := [.inl z11]) rfl ?_
  refine k_run 2 (pc' := 18) (l' := [(0, .inr (.inr 361)), (1, .inl a), (2, .inl b), (3, .inl 1), (4, .inl z11)]) (st' := [.inl z11]) rfl ?_
  refine h_zge (off := 9) (t := 27) rfl rfl (by omega) (fun c12 => ?_) (fun c12 => ?_)
  · refine k_run 0 (pc' := 27) (l' := [(0, .inr (.inr 361)), (1, .inl a), (2, .inl b), (3, .inl 1), (4, .inl z11)]) (st' := []) rfl ?_
    refine k_run 5 (pc' := 39) (l' := [(0, .inr (.inr 361)), (1, .inl a), (2, .inl b), (3, .inl 1), (4, .inl z11)]) (st' := [.inl z11, .inr (.inr 16)]) rfl ?_
    refine k_ild (c := 16) (j := (z11).toNat) (i := z11) (x := kx_16) rfl rfl (by decide) rfl (by decide) (by omega) (by omega) ?_
    have g13 : 0 ≤ (H.1 16 (z11).toNat) ∧ (H.1 16 (z11).toNat) ≤ 4 := kn (x := kx_16) hI rfl (z11).toNat
    refine k_run 0 (pc' := 40) (l' := [(0, .inr (.inr 361)), (1, .inl a), (2, .inl b), (3, .inl 1), (4, .inl z11)]) (st' := [.inl (H.1 16 (z11).toNat)]) rfl ?_
    refine k_run 2 (pc' := 44) (l' := [(0, .inr (.inr 361)), (1, .inl a), (2, .inl b), (3, .inl 1), (4, .inl z11), (5, .inl (H.1 16 (z11).toNat))]) (st' := [.inl (H.1 16 (z11).toNat)]) rfl ?_
    refine h_zle (off := 13) (t := 57) rfl rfl (by omega) (fun c14 => ?_) (fun c14 => ?_)
    · refine k_run 0 (pc' := 57) (l' := [(0, .inr (.inr 361)), (1, .inl a), (2, .inl b), (3, .inl 1), (4, .inl z11), (5, .inl (H.1 16 (z11).toNat))]) (st' := []) rfl ?_
      refine k_run 5 (pc' := 69) (l' := [(0, .inr (.inr 361)), (1, .inl a), (2, .inl b), (3, .inl 1), (4, .inl z11), (5, .inl (H.1 16 (z11).toNat))]) (st' := [.inl z11, .inr (.inr 15)]) rfl ?_
      refine k_ild (c := 15) (j := (z11).toNat) (i := z11) (x := kx_15) rfl rfl (by decide) rfl (by decide) (by omega) (by omega) ?_
      have g15 : -2 ≤ (H.1 15 (z11).toNat) ∧ (H.1 15 (z11).toNat) ≤ 100 := kn (x := kx_15) hI rfl (z11).toNat
      refine k_run 0 (pc' := 70) (l' := [(0, .inr (.inr 361)), (1, .inl a), (2, .inl b), (3, .inl 1), (4, .inl z11), (5, .inl (H.1 16 (z11).toNat))]) (st' := [.inl (H.1 15 (z11).toNat)]) rfl ?_
      refine k_run 1 (pc' := 71) (l' := [(0, .inr (.inr 361)), (1, .inl a), (2, .inl b), (3, .inl 1), (4, .inl z11), (5, .inl (H.1 16 (z11).toNat))]) (st' := [.inl a, .inl (H.1 15 (z11).toNat)]) rfl ?_
      refine h_ieq (off := 9) (t := 80) rfl rfl (by omega) (by omega) (fun c16 => ?_) (fun c16 => ?_)
      · refine k_run 0 (pc' := 80) (l' := [(0, .inr (.inr 361)), (1, .inl a), (2, .inl b), (3, .inl 1), (4, .inl z11), (5, .inl (H.1 16 (z11).toNat))]) (st' := []) rfl ?_
        refine k_run 4 (pc' := 87) (l' := [(0, .inr (.inr 361)), (1, .inl a), (2, .inl b), (3, .inl 1), (4, .inl z11), (5, .inl (H.1 16 (z11).toNat))]) (st' := [.inl z11, .inr (.inr 7), .inr (.inr 361)]) rfl ?_
        refine h_cv (i := 209) (j := 38) (b := 7) (M' := mt_38) (xs := [.inl z11]) (rest := [.inr (.inr 361)]) rfl rfl rfl rfl (zs_K (x := kx_7) rfl (by decide)) rfl (Nat.le_of_ble_eq_true rfl) (Nat.le_of_ble_eq_true rfl) (by omega) (k_Program_codeOfConstructor (by omega) hI (by omega)) ?_
        rintro _ _ ⟨z21, rfl, g17, rfl⟩
        refine k_run 0 (pc' := 90) (l' := [(0, .inr (.inr 361)), (1, .inl a), (2, .inl b), (3, .inl 1), (4, .inl z11), (5, .inl (H.1 16 (z11).toNat))]) (st' := [.inl z21, .inr (.inr 361)]) rfl ?_
        refine h_cv (i := 157) (j := 77) (b := 361) (M' := mt_77) (xs := [.inl z21]) (rest := []) rfl rfl rfl rfl (zs_K (x := kx_361) rfl (by decide)) rfl (Nat.le_of_ble_eq_true rfl) (Nat.le_of_ble_eq_true rfl) (by omega) (k_Reader_addName (by omega) hI (by omega)) ?_
        rintro _ H23 ⟨z26, rfl, g22, hI24, hq25⟩
        have hf27 : fq [(361, 3), (361, 4), (361, 5), (361, 9)] [362] true H H23 := fq_t (fq_rf _ _ _ _) hq25 rfl rfl rfl
        refine k_run 0 (pc' := 93) (l' := [(0, .inr (.inr 361)), (1, .inl a), (2, .inl b), (3, .inl 1), (4, .inl z11), (5, .inl (H.1 16 (z11).toNat))]) (st' := [.inl z26]) rfl ?_
        refine k_run 3 (pc' := 98) (l' := [(0, .inr (.inr 361)), (1, .inl a), (2, .inl b), (3, .inl 1), (4, .inl z11), (5, .inl (H.1 16 (z11).toNat)), (6, .inl z26), (7, .inl 0)]) (st' := []) rfl ?_
        exact (k_readPC_1_cut hd hI ha hb hp0 hR _) H23 hI24 hf27 z11 (H.1 16 (z11).toNat) z26 (0 : Int) (by omega) (by omega) (by omega) (by decide) (by omega) (by omega) (by omega) (by omega) (Nat.lt_succ_self _)
      · refine k_run 0 (pc' := 74) (l' := [(0, .inr (.inr 361)), (1, .inl a), (2, .inl b), (3, .inl 1), (4, .inl z11), (5, .inl (H.1 16 (z11).toNat))]) (st' := []) rfl ?_
        refine k_run 2 (pc' := 76) (l' := [(0, .inr (.inr 361)), (1, .inl a), (2, .inl b), (3, .inl 1), (4, .inl z11), (5, .inl (H.1 16 (z11).toNat))]) (st' := [.inl 4, .inr (.inr 361)]) rfl ?_
        refine h_cv (i := 128) (j := 86) (b := 361) (M' := mt_86) (xs := [.inl 4]) (rest := []) rfl rfl rfl rfl (zs_K (x := kx_361) rfl (by decide)) rfl (Nat.le_of_ble_eq_true rfl) (Nat.le_of_ble_eq_true rfl) (by omega) (k_Reader_fails (by omega) hI (by decide)) ?_
        rintro _ H29 ⟨z32, rfl, g28, hI30, hq31⟩
        have hf33 : fq [(361, 3), (361, 4), (361, 5), (361, 9)] [362] true H H29 := fq_t (fq_rf _ _ _ _) hq31 rfl rfl rfl
        refine k_run 0 (pc' := 79) (l' := [(0, .inr (.inr 361)), (1, .inl a), (2, .inl b), (3, .inl 1), (4, .inl z11), (5, .inl (H.1 16 (z11).toNat))]) (st' := [.inl z32]) rfl ?_
        refine h_retz (x := z32) rfl rfl (by omega) ?_
        exact ⟨_, rfl, (by omega), hI30, hf33⟩
    · refine k_run 0 (pc' := 47) (l' := [(0, .inr (.inr 361)), (1, .inl a), (2, .inl b), (3, .inl 1), (4, .inl z11), (5, .inl (H.1 16 (z11).toNat))]) (st' := []) rfl ?_
      refine k_run 1 (pc' := 48) (l' := [(0, .inr (.inr 361)), (1, .inl a), (2, .inl b), (3, .inl 1), (4, .inl z11), (5, .inl (H.1 16 (z11).toNat))]) (st' := [.inl 1]) rfl ?_
      refine h_zne (off := 9) (t := 57) rfl rfl (by decide) (fun _ => ?_) (fun c => absurd c (by decide))
      refine k_run 0 (pc' := 57) (l' := [(0, .inr (.inr 361)), (1, .inl a), (2, .inl b), (3, .inl 1), (4, .inl z11), (5, .inl (H.1 16 (z11).toNat))]) (st' := []) rfl ?_
      refine k_run 5 (pc' := 69) (l' := [(0, .inr (.inr 361)), (1, .inl a), (2, .inl b), (3, .inl 1), (4, .inl z11), (5, .inl (H.1 16 (z11).toNat))]) (st' := [.inl z11, .inr (.inr 15)]) rfl ?_
      refine k_ild (c := 15) (j := (z11).toNat) (i := z11) (x := kx_15) rfl rfl (by decide) rfl (by decide) (by omega) (by omega) ?_
      have g34 : -2 ≤ (H.1 15 (z11).toNat) ∧ (H.1 15 (z11).toNat) ≤ 100 := kn (x := kx_15) hI rfl (z11).toNat
      refine k_run 0 (pc' := 70) (l' := [(0, .inr (.inr 361)), (1, .inl a), (2, .inl b), (3, .inl 1), (4, .inl z11), (5, .inl (H.1 16 (z11).toNat))]) (st' := [.inl (H.1 15 (z11).toNat)]) rfl ?_
      refine k_run 1 (pc' := 71) (l' := [(0, .inr (.inr 361)), (1, .inl a), (2, .inl b), (3, .inl 1), (4, .inl z11), (5, .inl (H.1 16 (z11).toNat))]) (st' := [.inl a, .inl (H.1 15 (z11).toNat)]) rfl ?_
      refine h_ieq (off := 9) (t := 80) rfl rfl (by omega) (by omega) (fun c35 => ?_) (fun c35 => ?_)
      · refine k_run 0 (pc' := 80) (l' := [(0, .inr (.inr 361)), (1, .inl a), (2, .inl b), (3, .inl 1), (4, .inl z11), (5, .inl (H.1 16 (z11).toNat))]) (st' := []) rfl ?_
        refine k_run 4 (pc' := 87) (l' := [(0, .inr (.inr 361)), (1, .inl a), (2, .inl b), (3, .inl 1), (4, .inl z11), (5, .inl (H.1 16 (z11).toNat))]) (st' := [.inl z11, .inr (.inr 7), .inr (.inr 361)]) rfl ?_
        refine h_cv (i := 209) (j := 38) (b := 7) (M' := mt_38) (xs := [.inl z11]) (rest := [.inr (.inr 361)]) rfl rfl rfl rfl (zs_K (x := kx_7) rfl (by decide)) rfl (Nat.le_of_ble_eq_true rfl) (Nat.le_of_ble_eq_true rfl) (by omega) (k_Program_codeOfConstructor (by omega) hI (by omega)) ?_
        rintro _ _ ⟨z40, rfl, g36, rfl⟩
        refine k_run 0 (pc' := 90) (l' := [(0, .inr (.inr 361)), (1, .inl a), (2, .inl b), (3, .inl 1), (4, .inl z11), (5, .inl (H.1 16 (z11).toNat))]) (st' := [.inl z40, .inr (.inr 361)]) rfl ?_
        refine h_cv (i := 157) (j := 77) (b := 361) (M' := mt_77) (xs := [.inl z40]) (rest := []) rfl rfl rfl rfl (zs_K (x := kx_361) rfl (by decide)) rfl (Nat.le_of_ble_eq_true rfl) (Nat.le_of_ble_eq_true rfl) (by omega) (k_Reader_addName (by omega) hI (by omega)) ?_
        rintro _ H42 ⟨z45, rfl, g41, hI43, hq44⟩
        have hf46 : fq [(361, 3), (361, 4), (361, 5), (361, 9)] [362] true H H42 := fq_t (fq_rf _ _ _ _) hq44 rfl rfl rfl
        refine k_run 0 (pc' := 93) (l' := [(0, .inr (.inr 361)), (1, .inl a), (2, .inl b), (3, .inl 1), (4, .inl z11), (5, .inl (H.1 16 (z11).toNat))]) (st' := [.inl z45]) rfl ?_
        refine k_run 3 (pc' := 98) (l' := [(0, .inr (.inr 361)), (1, .inl a), (2, .inl b), (3, .inl 1), (4, .inl z11), (5, .inl (H.1 16 (z11).toNat)), (6, .inl z45), (7, .inl 0)]) (st' := []) rfl ?_
        exact (k_readPC_1_cut hd hI ha hb hp0 hR _) H42 hI43 hf46 z11 (H.1 16 (z11).toNat) z45 (0 : Int) (by omega) (by omega) (by omega) (by decide) (by omega) (by omega) (by omega) (by omega) (Nat.lt_succ_self _)
      · refine k_run 0 (pc' := 74) (l' := [(0, .inr (.inr 361)), (1, .inl a), (2, .inl b), (3, .inl 1), (4, .inl z11), (5, .inl (H.1 16 (z11).toNat))]) (st' := []) rfl ?_
        refine k_run 2 (pc' := 76) (l' := [(0, .inr (.inr 361)), (1, .inl a), (2, .inl b), (3, .inl 1), (4, .inl z11), (5, .inl (H.1 16 (z11).toNat))]) (st' := [.inl 4, .inr (.inr 361)]) rfl ?_
        refine h_cv (i := 128) (j := 86) (b := 361) (M' := mt_86) (xs := [.inl 4]) (rest := []) rfl rfl rfl rfl (zs_K (x := kx_361) rfl (by decide)) rfl (Nat.le_of_ble_eq_true rfl) (Nat.le_of_ble_eq_true rfl) (by omega) (k_Reader_fails (by omega) hI (by decide)) ?_
        rintro _ H48 ⟨z51, rfl, g47, hI49, hq50⟩
        have hf52 : fq [(361, 3), (361, 4), (361, 5), (361, 9)] [362] true H H48 := fq_t (fq_rf _ _ _ _) hq50 rfl rfl rfl
        refine k_run 0 (pc' := 79) (l' := [(0, .inr (.inr 361)), (1, .inl a), (2, .inl b), (3, .inl 1), (4, .inl z11), (5, .inl (H.1 16 (z11).toNat))]) (st' := [.inl z51]) rfl ?_
        refine h_retz (x := z51) rfl rfl (by omega) ?_
        exact ⟨_, rfl, (by omega), hI49, hf52⟩
  · refine k_run 0 (pc' := 21) (l' := [(0, .inr (.inr 361)), (1, .inl a), (2, .inl b), (3, .inl 1), (4, .inl z11)]) (st' := []) rfl ?_
    refine k_run 2 (pc' := 23) (l' := [(0, .inr (.inr 361)), (1, .inl a), (2, .inl b), (3, .inl 1), (4, .inl z11)]) (st' := [.inl 3, .inr (.inr 361)]) rfl ?_
    refine h_cv (i := 128) (j := 86) (b := 361) (M' := mt_86) (xs := [.inl 3]) (rest := []) rfl rfl rfl rfl (zs_K (x := kx_361) rfl (by decide)) rfl (Nat.le_of_ble_eq_true rfl) (Nat.le_of_ble_eq_true rfl) (by omega) (k_Reader_fails (by omega) hI (by decide)) ?_
    rintro _ H54 ⟨z57, rfl, g53, hI55, hq56⟩
    have hf58 : fq [(361, 3), (361, 4), (361, 5), (361, 9)] [362] true H H54 := fq_t (fq_rf _ _ _ _) hq56 rfl rfl rfl
    refine k_run 0 (pc' := 26) (l' := [(0, .inr (.inr 361)), (1, .inl a), (2, .inl b), (3, .inl 1), (4, .inl z11)]) (st' := [.inl z57]) rfl ?_
    refine h_retz (x := z57) rfl rfl (by omega) ?_
    exact ⟨_, rfl, (by omega), hI55, hf58⟩

/-! Reader.readPattern -/
set_option maxRecDepth 100000 in
theorem k_readP {m : Nat} {d : Nat} (hd : 2 * m + 10 ≤ d) {H : hp} (hI : Inv H) {a : Int} {b : Int} (ha : -2147483648 ≤ a ∧ a ≤ 2147483647) (hb : -2147483648 ≤ b ∧ b ≤ 2147483647) (hp0 : -2 ≤ a ∧ a ≤ 100 ∧ 0 ≤ b ∧ b ≤ 10 ∧ 10 ≤ b + (m : Int)) (hR : ∀ m1, m1 < m → RPc m1) : hG (zs zK) d mt_70 0 (zargs 0 [.inr (.inr 361), .inl a, .inl b]) [] H (fun r9 H9 => ∃ z : Int, r9 = some (.inl z) ∧ ((0 ≤ z ∧ z ≤ 1)) ∧ Inv H9 ∧ fq [(361, 3), (361, 4), (361, 5), (361, 9)] [362] true H H9) := by
  refine k_run 0 (pc' := 0) (l' := [(0, .inr (.inr 361)), (1, .inl a), (2, .inl b)]) (st' := []) rfl ?_
  refine k_run 1 (pc' := 1) (l' := [(0, .inr (.inr 361)), (1, .inl a), (2, .inl b)]) (st' := [.inr (.inr 361)]) rfl ?_
  refine h_cv (i := 72) (j := 83) (b := 361) (M' := mt_83) (xs := []) (rest := []) rfl rfl rfl rfl (zs_K (x := kx_361) rfl (by decide)) rfl (Nat.le_of_ble_eq_true rfl) (Nat.le_of_ble_eq_true rfl) (by omega) (k_Reader_token (by omega) hI ) ?_
  rintro _ _ ⟨z5, rfl, g1, rfl⟩
  refine k_run 0 (pc' := 4) (l' := [(0, .inr (.inr 361)), (1, .inl a), (2, .inl b)]) (st' := [.inl z5]) rfl ?_
  rcases (show (z5 ≠ 2 ∧ z5 ≠ 3 ∧ z5 ≠ 40) ∨ z5 = 2 ∨ z5 = 3 ∨ z5 = 40 by omega) with c6 | c6 | c6 | c6
  · refine k_lsw (t := 116) rfl (by omega) (by decide) (lsw_no (by intro q9 hq9; simp only [List.mem_cons, List.not_mem_nil, or_false] at hq9; rcases hq9 with rfl | rfl | rfl <;> (dsimp only; omega))) rfl ?_
    refine k_run 1 (pc' := 117) (l' := [(0, .inr (.inr 361)), (1, .inl a), (2, .inl b)]) (st' := [.inr (.inr 361)]) rfl ?_
    refine h_cv (i := 89) (j := 85) (b := 361) (M' := mt_85) (xs := []) (rest := []) rfl rfl rfl rfl (zs_K (x := kx_361) rfl (by decide)) rfl (Nat.le_of_ble_eq_true rfl) (Nat.le_of_ble_eq_true rfl) (by omega) (k_Reader_misplaced (by omega) hI ) ?_
    rintro _ H8 ⟨z11, rfl, g7, hI9, hq10⟩
    have hf12 : fq [(361, 3), (361, 4), (361, 5), (361, 9)] [362] true H H8 := fq_t (fq_rf _ _ _ _) hq10 rfl rfl rfl
    refine k_run 0 (pc' := 120) (l' := [(0, .inr (.inr 361)), (1, .inl a), (2, .inl b)]) (st' := [.inl z11]) rfl ?_
    refine h_retz (x := z11) rfl rfl (by omega) ?_
    exact ⟨_, rfl, (by omega), hI9, hf12⟩
  · refine k_lsw (t := 40) rfl (by omega) (by decide) (by rw [c6]) rfl ?_
    refine k_run 2 (pc' := 42) (l' := [(0, .inr (.inr 361)), (1, .inl a), (2, .inl b)]) (st' := [.inl a, .inr (.inr 361)]) rfl ?_
    refine h_cv (i := 197) (j := 71) (b := 361) (M' := mt_71) (xs := [.inl a]) (rest := []) rfl rfl rfl rfl (zs_K (x := kx_361) rfl (by decide)) rfl (Nat.le_of_ble_eq_true rfl) (Nat.le_of_ble_eq_true rfl) (by omega) (k_Reader_readPatternVariable (by omega) hI (by omega) (by omega)) ?_
    rintro _ H14 ⟨z17, rfl, g13, hI15, hq16⟩
    have hf18 : fq [(361, 3), (361, 4), (361, 5), (361, 9)] [362] true H H14 := fq_t (fq_rf _ _ _ _) hq16 rfl rfl rfl
    refine k_run 0 (pc' := 45) (l' := [(0, .inr (.inr 361)), (1, .inl a), (2, .inl b)]) (st' := [.inl z17]) rfl ?_
    refine h_retz (x := z17) rfl rfl (by omega) ?_
    exact ⟨_, rfl, (by omega), hI15, hf18⟩
  · refine k_lsw (t := 46) rfl (by omega) (by decide) (by rw [c6]) rfl ?_
    refine k_run 4 (pc' := 50) (l' := [(0, .inr (.inr 361)), (1, .inl a), (2, .inl b)]) (st' := [.inl 0, .inl b, .inl a, .inr (.inr 361)]) rfl ?_
    refine h_cv (i := 200) (j := 72) (b := 361) (M' := mt_72) (xs := [.inl 0, .inl b, .inl a]) (rest := []) rfl rfl rfl rfl (zs_K (x := kx_361) rfl (by decide)) rfl (Nat.le_of_ble_eq_true rfl) (Nat.le_of_ble_eq_true rfl) (by omega) (k_readPC_0 (by omega) hI (by omega) (by omega) (by omega)) ?_
    rintro _ H20 ⟨z23, rfl, g19, hI21, hq22⟩
    have hf24 : fq [(361, 3), (361, 4), (361, 5), (361, 9)] [362] true H H20 := fq_t (fq_rf _ _ _ _) hq22 rfl rfl rfl
    refine k_run 0 (pc' := 53) (l' := [(0, .inr (.inr 361)), (1, .inl a), (2, .inl b)]) (st' := [.inl z23]) rfl ?_
    refine h_retz (x := z23) rfl rfl (by omega) ?_
    exact ⟨_, rfl, (by omega), hI21, hf24⟩
  · refine k_lsw (t := 54) rfl (by omega) (by decide) (by rw [c6]) rfl ?_
    refine k_run 2 (pc' := 57) (l' := [(0, .inr (.inr 361)), (1, .inl a), (2, .inl b)]) (st' := [.inl 10, .inl b]) rfl ?_
    refine h_ilt (off := 9) (t := 66) rfl rfl (by omega) (by decide) (fun c25 => ?_) (fun c25 => ?_)
    · refine k_run 0 (pc' := 66) (l' := [(0, .inr (.inr 361)), (1, .inl a), (2, .inl b)]) (st' := []) rfl ?_
      refine k_run 3 (pc' := 71) (l' := [(0, .inr (.inr 361)), (1, .inl a), (2, .inl b)]) (st' := [.inl (H.1 361 3), .inr (.inr 361)]) rfl ?_
      have g26 : -2147483648 ≤ (H.1 361 3) ∧ (H.1 361 3) ≤ 2147483647 := kn (x := kx_361) hI rfl 3
      refine k_run 2 (pc' := 73) (l' := [(0, .inr (.inr 361)), (1, .inl a), (2, .inl b)]) (st' := [.inl ((H.1 361 3) + 1), .inr (.inr 361)]) rfl ?_
      refine k_putw (a := 361) (x := kx_361) rfl rfl rfl (by decide) (by decide) rfl rfl rfl rfl hI rfl (fun H27 hI28 hw29 => ?_)
      have hf31 : fq [(361, 3), (361, 4), (361, 5), (361, 9)] [362] true H H27 := fq_w (fq_rf _ _ _ _) hw29 (fpo (by decide) rfl)
      refine k_run 0 (pc' := 76) (l' := [(0, .inr (.inr 361)), (1, .inl a), (2, .inl b)]) (st' := []) rfl ?_
      refine k_run 1 (pc' := 77) (l' := [(0, .inr (.inr 361)), (1, .inl a), (2, .inl b)]) (st' := [.inr (.inr 361)]) rfl ?_
      refine h_cv (i := 72) (j := 83) (b := 361) (M' := mt_83) (xs := []) (rest := []) rfl rfl rfl rfl (zs_K (x := kx_361) rfl (by decide)) rfl (Nat.le_of_ble_eq_true rfl) (Nat.le_of_ble_eq_true rfl) (by omega) (k_Reader_token (by omega) hI28 ) ?_
      rintro _ _ ⟨z36, rfl, g32, rfl⟩
      refine k_run 0 (pc' := 80) (l' := [(0, .inr (.inr 361)), (1, .inl a), (2, .inl b)]) (st' := [.inl z36]) rfl ?_
      refine k_run 1 (pc' := 81) (l' := [(0, .inr (.inr 361)), (1, .inl a), (2, .inl b)]) (st' := [.inl 3, .inl z36]) rfl ?_
      refine h_ieq (off := 8) (t := 89) rfl rfl (by omega) (by decide) (fun c37 => ?_) (fun c37 => ?_)
      · refine k_run 0 (pc' := 89) (l' := [(0, .inr (.inr 361)), (1, .inl a), (2, .inl b)]) (st' := []) rfl ?_
        refine k_run 6 (pc' := 95) (l' := [(0, .inr (.inr 361)), (1, .inl a), (2, .inl b)]) (st' := [.inl 1, .inl (b + 1), .inl a, .inr (.inr 361)]) rfl ?_
        refine h_cv (i := 200) (j := 72) (b := 361) (M' := mt_72) (xs := [.inl 1, .inl (b + 1), .inl a]) (rest := []) rfl rfl rfl rfl (zs_K (x := kx_361) rfl (by decide)) rfl (Nat.le_of_ble_eq_true rfl) (Nat.le_of_ble_eq_true rfl) (by omega) (k_readPC_1 (by omega) hI28 (by omega) (by omega) (by omega) (m := m - 1) (fun m1 h1 => hR m1 (by omega))) ?_
        rintro _ H39 ⟨z42, rfl, g38, hI40, hq41⟩
        have hf43 : fq [(361, 3), (361, 4), (361, 5), (361, 9)] [362] true H H39 := fq_t hf31 hq41 rfl rfl rfl
        refine k_run 0 (pc' := 98) (l' := [(0, .inr (.inr 361)), (1, .inl a), (2, .inl b)]) (st' := [.inl z42]) rfl ?_
        refine h_zeq (off := 16) (t := 114) rfl rfl (by omega) (fun c44 => ?_) (fun c44 => ?_)
        · refine k_run 0 (pc' := 114) (l' := [(0, .inr (.inr 361)), (1, .inl a), (2, .inl b)]) (st' := []) rfl ?_
          refine k_run 1 (pc' := 115) (l' := [(0, .inr (.inr 361)), (1, .inl a), (2, .inl b)]) (st' := [.inl 0]) rfl ?_
          refine h_retz (x := 0) rfl rfl (by decide) ?_
          exact ⟨_, rfl, (by omega), hI40, hf43⟩
        · refine k_run 0 (pc' := 101) (l' := [(0, .inr (.inr 361)), (1, .inl a), (2, .inl b)]) (st' := []) rfl ?_
          refine k_run 2 (pc' := 104) (l' := [(0, .inr (.inr 361)), (1, .inl a), (2, .inl b)]) (st' := [.inl 41, .inr (.inr 361)]) rfl ?_
          refine h_cv (i := 92) (j := 82) (b := 361) (M' := mt_82) (xs := [.inl 41]) (rest := []) rfl rfl rfl rfl (zs_K (x := kx_361) rfl (by decide)) rfl (Nat.le_of_ble_eq_true rfl) (Nat.le_of_ble_eq_true rfl) (by omega) (k_Reader_take (by omega) hI40 (by decide)) ?_
          rintro _ H46 ⟨z49, rfl, g45, hI47, hq48⟩
          have hf50 : fq [(361, 3), (361, 4), (361, 5), (361, 9)] [362] true H H46 := fq_t hf43 hq48 rfl rfl rfl
          refine k_run 0 (pc' := 107) (l' := [(0, .inr (.inr 361)), (1, .inl a), (2, .inl b)]) (st' := [.inl z49]) rfl ?_
          refine h_zeq (off := 7) (t := 114) rfl rfl (by omega) (fun c51 => ?_) (fun c51 => ?_)
          · refine k_run 0 (pc' := 114) (l' := [(0, .inr (.inr 361)), (1, .inl a), (2, .inl b)]) (st' := []) rfl ?_
            refine k_run 1 (pc' := 115) (l' := [(0, .inr (.inr 361)), (1, .inl a), (2, .inl b)]) (st' := [.inl 0]) rfl ?_
            refine h_retz (x := 0) rfl rfl (by decide) ?_
            exact ⟨_, rfl, (by omega), hI47, hf50⟩
          · refine k_run 0 (pc' := 110) (l' := [(0, .inr (.inr 361)), (1, .inl a), (2, .inl b)]) (st' := []) rfl ?_
            refine k_run 2 (pc' := 115) (l' := [(0, .inr (.inr 361)), (1, .inl a), (2, .inl b)]) (st' := [.inl 1]) rfl ?_
            refine h_retz (x := 1) rfl rfl (by decide) ?_
            exact ⟨_, rfl, (by omega), hI47, hf50⟩
      · refine k_run 0 (pc' := 84) (l' := [(0, .inr (.inr 361)), (1, .inl a), (2, .inl b)]) (st' := []) rfl ?_
        refine k_run 1 (pc' := 85) (l' := [(0, .inr (.inr 361)), (1, .inl a), (2, .inl b)]) (st' := [.inr (.inr 361)]) rfl ?_
        refine h_cv (i := 89) (j := 85) (b := 361) (M' := mt_85) (xs := []) (rest := []) rfl rfl rfl rfl (zs_K (x := kx_361) rfl (by decide)) rfl (Nat.le_of_ble_eq_true rfl) (Nat.le_of_ble_eq_true rfl) (by omega) (k_Reader_misplaced (by omega) hI28 ) ?_
        rintro _ H53 ⟨z56, rfl, g52, hI54, hq55⟩
        have hf57 : fq [(361, 3), (361, 4), (361, 5), (361, 9)] [362] true H H53 := fq_t hf31 hq55 rfl rfl rfl
        refine k_run 0 (pc' := 88) (l' := [(0, .inr (.inr 361)), (1, .inl a), (2, .inl b)]) (st' := [.inl z56]) rfl ?_
        refine h_retz (x := z56) rfl rfl (by omega) ?_
        exact ⟨_, rfl, (by omega), hI54, hf57⟩
    · refine k_run 0 (pc' := 60) (l' := [(0, .inr (.inr 361)), (1, .inl a), (2, .inl b)]) (st' := []) rfl ?_
      refine k_run 2 (pc' := 62) (l' := [(0, .inr (.inr 361)), (1, .inl a), (2, .inl b)]) (st' := [.inl 5, .inr (.inr 361)]) rfl ?_
      refine h_cv (i := 128) (j := 86) (b := 361) (M' := mt_86) (xs := [.inl 5]) (rest := []) rfl rfl rfl rfl (zs_K (x := kx_361) rfl (by decide)) rfl (Nat.le_of_ble_eq_true rfl) (Nat.le_of_ble_eq_true rfl) (by omega) (k_Reader_fails (by omega) hI (by decide)) ?_
      rintro _ H59 ⟨z62, rfl, g58, hI60, hq61⟩
      have hf63 : fq [(361, 3), (361, 4), (361, 5), (361, 9)] [362] true H H59 := fq_t (fq_rf _ _ _ _) hq61 rfl rfl rfl
      refine k_run 0 (pc' := 65) (l' := [(0, .inr (.inr 361)), (1, .inl a), (2, .inl b)]) (st' := [.inl z62]) rfl ?_
      refine h_retz (x := z62) rfl rfl (by omega) ?_
      exact ⟨_, rfl, (by omega), hI60, hf63⟩

theorem k_RP : ∀ m, RPc m := by
  intro m
  induction m using Nat.strongRecOn with
  | ind m hR =>
    have h4 : RPc m := fun hd _ hI _ _ ha hb hp => k_readP hd hI ha hb hp hR
    exact @h4
theorem k_Reader_readPattern {d : Nat} (hd : 30 ≤ d) {H : hp} (hI : Inv H) {a b : Int} (ha : -2147483648 ≤ a ∧ a ≤ 2147483647) (hb : -2147483648 ≤ b ∧ b ≤ 2147483647) (hp0 : -2 ≤ a ∧ a ≤ 100 ∧ 0 ≤ b ∧ b ≤ 10) : hG (zs zK) d mt_70 0 (zargs 0 [.inr (.inr 361), .inl a, .inl b]) [] H (fun r9 H9 => ∃ z : Int, r9 = some (.inl z) ∧ ((0 ≤ z ∧ z ≤ 1)) ∧ Inv H9 ∧ fq [(361, 3), (361, 4), (361, 5), (361, 9)] [362] true H H9) := k_RP 10 (by omega) hI ha hb (by omega)
