/-! the reference prints: how many bytes -/
theorem cR_go {x s y : Int} {n : Nat} (hs : s = 56 - 8 * (n : Int)) (h : 0 < bR x s) (hy : y = cR x n + 1) : y = cR x (n + 1) := by
  unfold cR
  rw [← hs, if_pos h]
  exact hy
theorem cR_no {x s y : Int} {n : Nat} (hs : s = 56 - 8 * (n : Int)) (h : ¬ 0 < bR x s) (hy : y = cR x n) : y = cR x (n + 1) := by
  unfold cR
  rw [← hs, if_neg h, Int.add_zero]
  exact hy
/-- how many bytes a sign's name has -/
def lenR (fn cn : Nat → Int) (s : Int) : Int := if s = 0 then 1 else if 1000 ≤ s then (if 2000 ≤ s then 1 + (if 9 < s - 2000 then 2 else 1) else 1 + (if 9 < s - 1000 then 2 else 1)) else if 100 ≤ s then cR (fn (s - 100).toNat) 8 else cR (cn (s - 1).toNat) 8

/-! letter -/
set_option maxRecDepth 100000 in
theorem n_letter {zC : Nat → Option zsh} {d : Nat} (hd : 1 ≤ d) {H : hp} {x : Int} (ho : 0 ≤ (H.1 1826 59) ∧ (H.1 1826 59) ≤ 7950) : hG (zs zC) d mt_203 0 (zargs 0 [.inr (.inr 1826), .inl x]) [] H (fun r9 H2 => r9 = none ∧ fr [59] [1858] H H2 ∧ (H2.1 1826 59) = (H.1 1826 59) + 1) := by
  refine h_rng (fun hrg0 => ?_)
  refine h_run 0 (pc' := 0) (l' := [(0, .inr (.inr 1826)), (1, .inl x)]) (st' := []) rfl ?_
  refine h_run 4 (pc' := 8) (l' := [(0, .inr (.inr 1826)), (1, .inl x)]) (st' := [.inl (H.1 1826 59), .inr (.inr 1858)]) rfl ?_
  have g1 : -2147483648 ≤ (H.1 1826 59) ∧ (H.1 1826 59) ≤ 2147483647 := hrg0.1 1826 13 59 _ .int rfl rfl
  refine h_run 2 (pc' := 10) (l' := [(0, .inr (.inr 1826)), (1, .inl x)]) (st' := [.inl (z_i2b x), .inl (H.1 1826 59), .inr (.inr 1858)]) rfl ?_
  refine h_bst (c := 1858) (j := ((H.1 1826 59)).toNat) (i := (H.1 1826 59)) (x := (z_i2b x)) (Or.inl rfl) rfl rfl (by decide) (by decide) (by omega) (by omega) (z_i2b_rng _) ?_
  refine h_run 3 (pc' := 16) (l' := [(0, .inr (.inr 1826)), (1, .inl x)]) (st' := [.inl (H.1 1826 59), .inr (.inr 1826)]) rfl ?_
  refine h_run 2 (pc' := 18) (l' := [(0, .inr (.inr 1826)), (1, .inl x)]) (st' := [.inl ((H.1 1826 59) + 1), .inr (.inr 1826)]) rfl ?_
  refine h_puti (i := 470) (ci := 13) (k := 59) (a := 1826) (x := ((H.1 1826 59) + 1)) rfl rfl rfl rfl rfl rfl (by decide) (by omega) ?_
  refine h_ret rfl rfl ?_
  exact ⟨rfl, (fr_o (fr_a (fr_rf _ _ _) (by decide)) (by decide)), (by omega : ((H.1 1826 59) + 1) = (H.1 1826 59) + 1)⟩

/-! putNumber -/
set_option maxRecDepth 100000 in
theorem n_putNumber {zC : Nat → Option zsh} {d : Nat} (hd : 2 ≤ d) {H : hp} {x : Int} (ho : 0 ≤ (H.1 1826 59) ∧ (H.1 1826 59) ≤ 7900) (hx : -2147483648 ≤ x ∧ x ≤ 2147483647) : hG (zs zC) d mt_205 0 (zargs 0 [.inr (.inr 1826), .inl x]) [] H (fun r9 H2 => r9 = none ∧ fr [59] [1858] H H2 ∧ (H2.1 1826 59) = (H.1 1826 59) + (if 9 < x then 2 else 1)) := by
  refine h_rng (fun hrg0 => ?_)
  refine h_run 0 (pc' := 0) (l' := [(0, .inr (.inr 1826)), (1, .inl x)]) (st' := []) rfl ?_
  refine h_run 2 (pc' := 3) (l' := [(0, .inr (.inr 1826)), (1, .inl x)]) (st' := [.inl 9, .inl x]) rfl ?_
  refine h_ile (off := 14) (t := 17) rfl rfl (by omega) (by decide) (fun c1 => ?_) (fun c1 => ?_)
  · refine h_run 4 (pc' := 23) (l' := [(0, .inr (.inr 1826)), (1, .inl x)]) (st' := [.inl 10, .inl x, .inl 48, .inr (.inr 1826)]) rfl ?_
    refine h_irem (x := x) (y := 10) rfl (by omega) (by decide) (by omega : (10 : Int) ≠ 0) ?_
    refine h_run 0 (pc' := 24) (l' := [(0, .inr (.inr 1826)), (1, .inl x)]) (st' := [.inl (z_rem x 10), .inl 48, .inr (.inr 1826)]) rfl ?_
    refine h_run 1 (pc' := 25) (l' := [(0, .inr (.inr 1826)), (1, .inl x)]) (st' := [.inl (48 + (z_rem x 10)), .inr (.inr 1826)]) rfl ?_
    have g2 : -2147483648 ≤ (H.1 1826 59) ∧ (H.1 1826 59) ≤ 2147483647 := hrg0.1 1826 13 59 _ .int rfl rfl
    refine h_cv (i := 473) (j := 203) (b := 1826) (M' := mt_203) (xs := [.inl (48 + (z_rem x 10))]) (rest := []) rfl rfl rfl rfl rfl rfl (Nat.le_of_ble_eq_true rfl) (Nat.le_of_ble_eq_true rfl) (by omega) (n_letter (by omega) (by omega : 0 ≤ (H.1 1826 59) ∧ (H.1 1826 59) ≤ 7950)) ?_
    rintro _ H3 ⟨rfl, hx3f, hx3z⟩
    refine h_rng (fun hrg4 => ?_)
    have hf5 : fr [59] [1858] H H3 := fr_t (fr_rf _ _ _) hx3f (by decide) (by decide)
    replace hx3z : (H3.1 1826 59) = (H.1 1826 59) + 1 := hx3z
    refine h_run 0 (pc' := 28) (l' := [(0, .inr (.inr 1826)), (1, .inl x)]) (st' := []) rfl ?_
    refine h_ret rfl rfl ?_
    have g6 : -2147483648 ≤ (H3.1 1826 59) ∧ (H3.1 1826 59) ≤ 2147483647 := hrg4.1 1826 13 59 _ .int rfl rfl
    exact ⟨rfl, hf5, (by first | (rw [if_pos (by omega)]; exact (by omega : (H3.1 1826 59) = (H.1 1826 59) + 2)) | (rw [if_neg (by omega)]; exact (by omega : (H3.1 1826 59) = (H.1 1826 59) + 1)))⟩
  · refine h_run 4 (pc' := 12) (l' := [(0, .inr (.inr 1826)), (1, .inl x)]) (st' := [.inl 10, .inl x, .inl 48, .inr (.inr 1826)]) rfl ?_
    refine h_idiv (x := x) (y := 10) rfl (by omega) (by decide) (by omega : (10 : Int) ≠ 0) ?_
    refine h_run 0 (pc' := 13) (l' := [(0, .inr (.inr 1826)), (1, .inl x)]) (st' := [.inl (z_div x 10), .inl 48, .inr (.inr 1826)]) rfl ?_
    refine h_run 1 (pc' := 14) (l' := [(0, .inr (.inr 1826)), (1, .inl x)]) (st' := [.inl (48 + (z_div x 10)), .inr (.inr 1826)]) rfl ?_
    have g7 : -2147483648 ≤ (H.1 1826 59) ∧ (H.1 1826 59) ≤ 2147483647 := hrg0.1 1826 13 59 _ .int rfl rfl
    refine h_cv (i := 473) (j := 203) (b := 1826) (M' := mt_203) (xs := [.inl (48 + (z_div x 10))]) (rest := []) rfl rfl rfl rfl rfl rfl (Nat.le_of_ble_eq_true rfl) (Nat.le_of_ble_eq_true rfl) (by omega) (n_letter (by omega) (by omega : 0 ≤ (H.1 1826 59) ∧ (H.1 1826 59) ≤ 7950)) ?_
    rintro _ H8 ⟨rfl, hx8f, hx8z⟩
    refine h_rng (fun hrg9 => ?_)
    have hf10 : fr [59] [1858] H H8 := fr_t (fr_rf _ _ _) hx8f (by decide) (by decide)
    replace hx8z : (H8.1 1826 59) = (H.1 1826 59) + 1 := hx8z
    refine h_run 0 (pc' := 17) (l' := [(0, .inr (.inr 1826)), (1, .inl x)]) (st' := []) rfl ?_
    refine h_run 4 (pc' := 23) (l' := [(0, .inr (.inr 1826)), (1, .inl x)]) (st' := [.inl 10, .inl x, .inl 48, .inr (.inr 1826)]) rfl ?_
    refine h_irem (x := x) (y := 10) rfl (by omega) (by decide) (by omega : (10 : Int) ≠ 0) ?_
    refine h_run 0 (pc' := 24) (l' := [(0, .inr (.inr 1826)), (1, .inl x)]) (st' := [.inl (z_rem x 10), .inl 48, .inr (.inr 1826)]) rfl ?_
    refine h_run 1 (pc' := 25) (l' := [(0, .inr (.inr 1826)), (1, .inl x)]) (st' := [.inl (48 + (z_rem x 10)), .inr (.inr 1826)]) rfl ?_
    have g11 : -2147483648 ≤ (H8.1 1826 59) ∧ (H8.1 1826 59) ≤ 2147483647 := hrg9.1 1826 13 59 _ .int rfl rfl
    refine h_cv (i := 473) (j := 203) (b := 1826) (M' := mt_203) (xs := [.inl (48 + (z_rem x 10))]) (rest := []) rfl rfl rfl rfl rfl rfl (Nat.le_of_ble_eq_true rfl) (Nat.le_of_ble_eq_true rfl) (by omega) (n_letter (by omega) (by omega : 0 ≤ (H8.1 1826 59) ∧ (H8.1 1826 59) ≤ 7950)) ?_
    rintro _ H12 ⟨rfl, hx12f, hx12z⟩
    refine h_rng (fun hrg13 => ?_)
    have hf14 : fr [59] [1858] H H12 := fr_t hf10 hx12f (by decide) (by decide)
    replace hx12z : (H12.1 1826 59) = (H8.1 1826 59) + 1 := hx12z
    refine h_run 0 (pc' := 28) (l' := [(0, .inr (.inr 1826)), (1, .inl x)]) (st' := []) rfl ?_
    refine h_ret rfl rfl ?_
    have g15 : -2147483648 ≤ (H12.1 1826 59) ∧ (H12.1 1826 59) ≤ 2147483647 := hrg13.1 1826 13 59 _ .int rfl rfl
    exact ⟨rfl, hf14, (by first | (rw [if_pos (by omega)]; exact (by omega : (H12.1 1826 59) = (H.1 1826 59) + 2)) | (rw [if_neg (by omega)]; exact (by omega : (H12.1 1826 59) = (H.1 1826 59) + 1)))⟩

/-! putName -/
set_option maxRecDepth 100000 in
theorem n_putName_cut {zC : Nat → Option zsh} {d : Nat} (hd : 2 ≤ d) {H : hp} {x : Int} (ho : 0 ≤ (H.1 1826 59) ∧ (H.1 1826 59) ≤ 7900) : ∀ w : Nat, (∀ (H1 : hp) (y : Int), (fr [59] [1858] H H1) → (-8 ≤ y ∧ y ≤ 56 ∧ y % 8 = 0) → ((H1.1 1826 59) = (H.1 1826 59) + cR x ((56 - y) / 8).toNat) → (y + 8).toNat < w → hG (zs zC) d mt_204 3 [(0, .inr (.inr 1826)), (1, .inr (.inl x)), (3, .inl y)] [] H1 (fun r9 H2 => r9 = none ∧ fr [59] [1858] H H2 ∧ (H2.1 1826 59) = (H.1 1826 59) + cR x 8)) := by
  intro w
  induction w with
  | zero => exact fun _ _ _ _ _ h => absurd h (Nat.not_lt_zero _)
  | succ w ih =>
    intro H1 y hf hy hz hw
    refine h_rng (fun hrg1 => ?_)
    have hcb := cR_b x ((56 - y) / 8).toNat
    refine h_run 1 (pc' := 4) (l' := [(0, .inr (.inr 1826)), (1, .inr (.inl x)), (3, .inl y)]) (st' := [.inl y]) rfl ?_
    refine h_zlt (off := 30) (t := 34) rfl rfl (by omega) (fun c2 => ?_) (fun c2 => ?_)
    · refine h_ret rfl rfl ?_
      have g3 : -2147483648 ≤ (H1.1 1826 59) ∧ (H1.1 1826 59) ≤ 2147483647 := hrg1.1 1826 13 59 _ .int rfl rfl
      exact ⟨rfl, hf, (by rw [show (8 : Nat) = ((56 - y) / 8).toNat by omega]; exact hz)⟩
    · refine h_run 8 (pc' := 19) (l' := [(0, .inr (.inr 1826)), (1, .inr (.inl x)), (3, .inl y), (4, .inl (z_and (z_l2i (z_lushr x y)) 255))]) (st' := [.inl (z_and (z_l2i (z_lushr x y)) 255)]) rfl ?_
      refine h_zle (off := 9) (t := 28) rfl rfl (z_int _) (fun c4 => ?_) (fun c4 => ?_)
      · refine h_run 2 (pc' := 3) (l' := [(0, .inr (.inr 1826)), (1, .inr (.inl x)), (3, .inl (y + (-8))), (4, .inl (z_and (z_l2i (z_lushr x y)) 255))]) (st' := []) rfl ?_
        have g5 : -2147483648 ≤ (H1.1 1826 59) ∧ (H1.1 1826 59) ≤ 2147483647 := hrg1.1 1826 13 59 _ .int rfl rfl
        refine h_loc [0, 1, 3] rfl ?_
        exact ih _ (y + (-8)) hf (by omega : -8 ≤ (y + (-8)) ∧ (y + (-8)) ≤ 56 ∧ (y + (-8)) % 8 = 0) (by rw [show ((56 - (y + (-8))) / 8).toNat = ((56 - y) / 8).toNat + 1 by omega]; have q8 := (show (H1.1 1826 59) - (H.1 1826 59) = cR x (((56 - y) / 8).toNat + 1) from (cR_no (s := y) (by omega) (by unfold bR; omega) (by omega))); omega) (by omega : ((y + (-8)) + 8).toNat < w)
      · refine h_run 2 (pc' := 25) (l' := [(0, .inr (.inr 1826)), (1, .inr (.inl x)), (3, .inl y), (4, .inl (z_and (z_l2i (z_lushr x y)) 255))]) (st' := [.inl (z_and (z_l2i (z_lushr x y)) 255), .inr (.inr 1826)]) rfl ?_
        have g6 : -2147483648 ≤ (H1.1 1826 59) ∧ (H1.1 1826 59) ≤ 2147483647 := hrg1.1 1826 13 59 _ .int rfl rfl
        refine h_cv (i := 473) (j := 203) (b := 1826) (M' := mt_203) (xs := [.inl (z_and (z_l2i (z_lushr x y)) 255)]) (rest := []) rfl rfl rfl rfl rfl rfl (Nat.le_of_ble_eq_true rfl) (Nat.le_of_ble_eq_true rfl) (by omega) (n_letter (by omega) (by omega : 0 ≤ (H1.1 1826 59) ∧ (H1.1 1826 59) ≤ 7950)) ?_
        rintro _ H7 ⟨rfl, hx7f, hx7z⟩
        refine h_rng (fun hrg8 => ?_)
        have hf9 : fr [59] [1858] H H7 := fr_t hf hx7f (by decide) (by decide)
        replace hx7z : (H7.1 1826 59) = (H1.1 1826 59) + 1 := hx7z
        refine h_run 0 (pc' := 28) (l' := [(0, .inr (.inr 1826)), (1, .inr (.inl x)), (3, .inl y), (4, .inl (z_and (z_l2i (z_lushr x y)) 255))]) (st' := []) rfl ?_
        refine h_run 2 (pc' := 3) (l' := [(0, .inr (.inr 1826)), (1, .inr (.inl x)), (3, .inl (y + (-8))), (4, .inl (z_and (z_l2i (z_lushr x y)) 255))]) (st' := []) rfl ?_
        have g10 : -2147483648 ≤ (H7.1 1826 59) ∧ (H7.1 1826 59) ≤ 2147483647 := hrg8.1 1826 13 59 _ .int rfl rfl
        refine h_loc [0, 1, 3] rfl ?_
        exact ih _ (y + (-8)) hf9 (by omega : -8 ≤ (y + (-8)) ∧ (y + (-8)) ≤ 56 ∧ (y + (-8)) % 8 = 0) (by rw [show ((56 - (y + (-8))) / 8).toNat = ((56 - y) / 8).toNat + 1 by omega]; have q8 := (show (H7.1 1826 59) - (H.1 1826 59) = cR x (((56 - y) / 8).toNat + 1) from (cR_go (s := y) (by omega) (by unfold bR; omega) (by omega))); omega) (by omega : ((y + (-8)) + 8).toNat < w)
set_option maxRecDepth 100000 in
theorem n_putName {zC : Nat → Option zsh} {d : Nat} (hd : 2 ≤ d) {H : hp} {x : Int} (ho : 0 ≤ (H.1 1826 59) ∧ (H.1 1826 59) ≤ 7900) : hG (zs zC) d mt_204 0 (zargs 0 [.inr (.inr 1826), .inr (.inl x)]) [] H (fun r9 H2 => r9 = none ∧ fr [59] [1858] H H2 ∧ (H2.1 1826 59) = (H.1 1826 59) + cR x 8) := by
  refine h_rng (fun hrg0 => ?_)
  refine h_run 0 (pc' := 0) (l' := [(0, .inr (.inr 1826)), (1, .inr (.inl x))]) (st' := []) rfl ?_
  refine h_run 2 (pc' := 3) (l' := [(0, .inr (.inr 1826)), (1, .inr (.inl x)), (3, .inl 56)]) (st' := []) rfl ?_
  have g11 : -2147483648 ≤ (H.1 1826 59) ∧ (H.1 1826 59) ≤ 2147483647 := hrg0.1 1826 13 59 _ .int rfl rfl
  exact (n_putName_cut hd ho _) _ (56 : Int) (fr_rf _ _ _) (by omega : -8 ≤ (56 : Int) ∧ (56 : Int) ≤ 56 ∧ (56 : Int) % 8 = 0) (show (H.1 1826 59) = (H.1 1826 59) + 0 by omega) (Nat.lt_succ_self _)

section JP
variable {ar len : Int → Int} {a lk cl : Nat → Int} {o : Int}
/-- a term is being printed: dp deep, i signs -/
def JP9 (ar len : Int → Int) (a lk cl : Nat → Int) (o : Int) (dp i : Nat) : Prop := (∀ x, x < dp → (1 ≤ lk x ∧ lk x ≤ 4) ∧ cl x = if x = 0 then 0 else 1) ∧ o + pd (dp : Int) = bs ar len a i ∧ ((i = 0 ∧ dp = 0) ∨ (1 ≤ i ∧ ((1 ≤ dp ∧ sm lk dp + 1 = wn ar a i) ∨ (dp = 0 ∧ wn ar a i = 0))))
/-- a sign without arguments was put on top -/
def JL9 (ar len : Int → Int) (a lk cl : Nat → Int) (o : Int) (dp i : Nat) : Prop := (1 ≤ dp ∧ lk (dp - 1) = 0 ∧ cl (dp - 1) = 0) ∧ (∀ x, x < dp - 1 → (1 ≤ lk x ∧ lk x ≤ 4) ∧ cl x = if x = 0 then 0 else 1) ∧ o + pd ((dp - 1 : Nat) : Int) = bs ar len a (i + 1) ∧ ((dp = 1 ∧ wn ar a (i + 1) = 0) ∨ (2 ≤ dp ∧ sm lk (dp - 1) = wn ar a (i + 1)))
/-- all others: the top may want nothing more -/
def JM9 (ar len : Int → Int) (a lk cl : Nat → Int) (o : Int) (dp i : Nat) : Prop := (∀ x, x < dp → cl x = if x = 0 then 0 else 1) ∧ (∀ x, x + 1 < dp → 1 ≤ lk x ∧ lk x ≤ 4) ∧ (1 ≤ dp → 0 ≤ lk (dp - 1) ∧ lk (dp - 1) ≤ 4) ∧ o + pd (dp : Int) = bs ar len a (i + 1) ∧ ((dp = 0 ∧ wn ar a (i + 1) = 0) ∨ (1 ≤ dp ∧ sm lk dp + 1 = wn ar a (i + 1)))
theorem JP_0 : JP9 ar len a lk cl 0 0 0 := ⟨fun _ h => absurd h (Nat.not_lt_zero _), rfl, Or.inl ⟨rfl, rfl⟩⟩
theorem JP_x {dp i : Nat} (h : JP9 ar len a lk cl o dp i) (hw : 1 ≤ wn ar a i) : (i = 0 ∧ dp = 0) ∨ (1 ≤ i ∧ 1 ≤ dp ∧ sm lk dp + 1 = wn ar a i) := by
  rcases h.2.2 with q | ⟨q, q1 | q1⟩
  · exact Or.inl q
  · exact Or.inr ⟨q, q1⟩
  · omega
theorem J_leaf {dp i : Nat} {o' : Int} (h : JP9 ar len a lk cl o dp i) (hw : 1 ≤ wn ar a i) (ha : ar (a i) = 0) (ho : o' = o + (if i = 0 then 0 else 1) + len (a i)) : JL9 ar len a (up lk dp 0) (up cl dp 0) o' (dp + 1) i := by
  have hq := JP_x h hw
  obtain ⟨h1, h2, -⟩ := h
  refine ⟨⟨by omega, by rw [Nat.add_sub_cancel, up_eq], by rw [Nat.add_sub_cancel, up_eq]⟩, fun x hx => ?_, ?_, ?_⟩
  · rw [up_ne _ _ (by omega), up_ne _ _ (by omega)]
    exact h1 x (by omega)
  · rw [Nat.add_sub_cancel]
    show _ = bs ar len a i + ((if i = 0 then 0 else 1) + len (a i) + (if i ≠ 0 ∧ 0 < ar (a i) then 2 else 0))
    rw [if_neg (fun q : i ≠ 0 ∧ 0 < ar (a i) => by rw [ha] at q; omega)]
    omega
  · rw [Nat.add_sub_cancel, sm_cg (M := lk) (fun k hk => up_ne _ _ (by omega))]
    show _ ∨ (_ ∧ _ = wn ar a i + (ar (a i) - 1))
    rcases hq with ⟨q1, q2⟩ | ⟨q1, q2, q3⟩
    · refine Or.inl ⟨by omega, ?_⟩
      show wn ar a i + (ar (a i) - 1) = 0
      rw [ha, q1]
      rfl
    · exact Or.inr ⟨by omega, by omega⟩
theorem J_node {dp i : Nat} {o' n b : Int} (h : JP9 ar len a lk cl o dp i) (hw : 1 ≤ wn ar a i) (ha : ar (a i) = n ∧ 1 ≤ n ∧ n ≤ 4) (hb : b = if i = 0 then 0 else 1) (ho : o' = o + (if i = 0 then 0 else 2) + len (a i)) : JM9 ar len a (up lk dp n) (up cl dp b) o' (dp + 1) i := by
  have hq := JP_x h hw
  obtain ⟨h1, h2, -⟩ := h
  refine ⟨fun x hx => ?_, fun x hx => ?_, fun _ => by rw [Nat.add_sub_cancel, up_eq]; omega, ?_, Or.inr ⟨by omega, ?_⟩⟩
  · by_cases e : x = dp
    · rw [e, up_eq, hb]
      rcases hq with ⟨q1, q2⟩ | ⟨q1, q2, -⟩
      · rw [if_pos q1, if_pos q2]
      · rw [if_neg (by omega), if_neg (by omega)]
    · rw [up_ne _ _ e]
      exact (h1 x (by omega)).2
  · rw [up_ne _ _ (by omega)]
    exact (h1 x (by omega)).1
  · have p1 := pd_or (dp : Int)
    have p2 := pd_or ((dp + 1 : Nat) : Int)
    show _ = bs ar len a i + ((if i = 0 then 0 else 1) + len (a i) + (if i ≠ 0 ∧ 0 < ar (a i) then 2 else 0))
    rcases hq with ⟨q1, q2⟩ | ⟨q1, q2, -⟩
    · rw [if_pos q1] at ho
      rw [if_pos q1, if_neg (fun q : i ≠ 0 ∧ 0 < ar (a i) => q.1 q1)]
      omega
    · rw [if_neg (by omega)] at ho
      rw [if_neg (by omega), if_pos ⟨by omega, by omega⟩]
      omega
  · show sm (up lk dp n) dp + (up lk dp n dp - 1) + 1 = wn ar a i + (ar (a i) - 1)
    rw [up_eq, sm_cg (M := lk) (fun k hk => up_ne _ _ (by omega))]
    rcases hq with ⟨q1, q2⟩ | ⟨q1, q2, q3⟩
    · rw [q1, q2]
      show (0 : Int) + (n - 1) + 1 = 1 + (ar (a 0) - 1)
      rw [q1] at ha
      omega
    · omega
theorem sm_dec {lk : Nat → Int} {e : Nat} (h : 1 ≤ e) : sm (up lk (e - 1) (lk (e - 1) - 1)) e = sm lk e - 1 := by
  obtain ⟨k, rfl⟩ : ∃ k, e = k + 1 := ⟨e - 1, by omega⟩
  show sm (up lk k (lk k - 1)) k + (up lk k (lk k - 1) k - 1) = sm lk k + (lk k - 1) - 1
  rw [up_eq, sm_cg (M := lk) (fun j hj => up_ne _ _ (by omega))]
  omega
theorem JL_0 {i : Nat} (h : JL9 ar len a lk cl o 1 i) : JM9 ar len a lk cl o 0 i := by
  obtain ⟨-, -, h3, h4⟩ := h
  exact ⟨fun x hx => absurd hx (Nat.not_lt_zero _), fun x hx => absurd hx (Nat.not_lt_zero _), fun q => absurd q (by decide), h3, Or.inl ⟨rfl, by omega⟩⟩
theorem JL_1 {e i : Nat} (h : JL9 ar len a lk cl o (e + 1) i) (he : 1 ≤ e) : JM9 ar len a (up lk (e - 1) (lk (e - 1) - 1)) cl o e i := by
  obtain ⟨-, h2, h3, h4⟩ := h
  rw [Nat.add_sub_cancel] at h2 h3 h4
  have m := (h2 (e - 1) (by omega)).1
  refine ⟨fun x hx => (h2 x hx).2, fun x hx => by rw [up_ne _ _ (by omega)]; exact (h2 x (by omega)).1, fun _ => by rw [up_eq]; omega, h3, Or.inr ⟨he, ?_⟩⟩
  rw [sm_dec he]
  omega
theorem JM_0 {i : Nat} (h : JM9 ar len a lk cl o 1 i) (h0 : lk 0 = 0) : JM9 ar len a lk cl o 0 i := by
  obtain ⟨-, -, -, h4, h5⟩ := h
  refine ⟨fun x hx => absurd hx (Nat.not_lt_zero _), fun x hx => absurd hx (Nat.not_lt_zero _), fun q => absurd q (by decide), h4, Or.inl ⟨rfl, ?_⟩⟩
  rcases h5 with q | ⟨-, q⟩
  · omega
  · have e : sm lk 1 = 0 + (lk 0 - 1) := rfl
    omega
theorem JM_1 {e i : Nat} (h : JM9 ar len a lk cl o (e + 1) i) (he : 1 ≤ e) (h0 : lk e = 0) : JM9 ar len a (up lk (e - 1) (lk (e - 1) - 1)) cl (o + 1) e i := by
  obtain ⟨h1, h2, -, h4, h5⟩ := h
  have m := h2 (e - 1) (by omega)
  have p1 := pd_or (e : Int)
  have p2 := pd_or ((e + 1 : Nat) : Int)
  refine ⟨fun x hx => h1 x (by omega), fun x hx => by rw [up_ne _ _ (by omega)]; exact h2 x (by omega), fun _ => by rw [up_eq]; omega, by omega, Or.inr ⟨he, ?_⟩⟩
  rw [sm_dec he]
  rcases h5 with q | ⟨-, q⟩
  · omega
  · have e9 : sm lk (e + 1) = sm lk e + (lk e - 1) := rfl
    omega
theorem JM_p {dp i : Nat} (h : JM9 ar len a lk cl o dp i) (hd : dp = 0 ∨ lk (dp - 1) ≠ 0) : JP9 ar len a lk cl o dp (i + 1) := by
  obtain ⟨h1, h2, h3, h4, h5⟩ := h
  refine ⟨fun x hx => ⟨?_, h1 x hx⟩, h4, Or.inr ⟨by omega, ?_⟩⟩
  · by_cases q : x + 1 < dp
    · exact h2 x q
    · have e : x = dp - 1 := by omega
      have := h3 (by omega)
      rw [e]
      omega
  · exact h5.symm
theorem JP_end {dp k : Nat} (h : JP9 ar len a lk cl o dp k) (hk : 1 ≤ k) (hw : wn ar a k = 0) : o = bs ar len a k := by
  obtain ⟨h1, h2, h3⟩ := h
  have p1 := pd_or (dp : Int)
  rcases h3 with q | ⟨q, q1 | q1⟩
  · omega
  · have := sm_0 (M := lk) (n := dp) (fun x hx => (h1 x hx).1.1)
    omega
  · omega
end JP
theorem JP_o0 {ar len : Int → Int} {a lk cl : Nat → Int} {o : Int} {dp i : Nat} (h : JP9 ar len a lk cl o dp i) (hi : i = 0) : o = 0 := by
  obtain ⟨-, h2, h3⟩ := h
  have p1 := pd_or (dp : Int)
  rw [hi] at h2
  have h2 : o + pd (dp : Int) = 0 := h2
  rcases h3 with q | ⟨q, -⟩
  · omega
  · omega
theorem JP_le {ar len : Int → Int} {a lk cl : Nat → Int} {o : Int} {dp i : Nat} (h : JP9 ar len a lk cl o dp i) (hl : ∀ c, 0 ≤ len c ∧ len c ≤ 8) : o ≤ 11 * i := by
  have h2 := h.2.1
  have p1 := pd_or (dp : Int)
  have := bs_b (ar := ar) (a := a) hl i
  omega
theorem JLM_le {ar len : Int → Int} {a lk cl : Nat → Int} {o : Int} {dp i : Nat} (h : JL9 ar len a lk cl o dp i ∨ JM9 ar len a lk cl o dp i) (hl : ∀ c, 0 ≤ len c ∧ len c ≤ 8) : o ≤ 11 * i + 11 := by
  have := bs_b (ar := ar) (a := a) hl (i + 1)
  rcases h with ⟨-, -, h2, -⟩ | ⟨-, -, -, h2, -⟩
  · have p1 := pd_or ((dp - 1 : Nat) : Int)
    omega
  · have p1 := pd_or (dp : Int)
    omega
theorem lenR_b (fn cn : Nat → Int) (s : Int) : 0 ≤ lenR fn cn s ∧ lenR fn cn s ≤ 8 := by
  have h : ∀ x, 0 ≤ cR x 8 ∧ cR x 8 ≤ 8 := fun x => cR_b x 8
  unfold lenR
  repeat' split
  all_goals first
    | exact h _
    | omega

/-! print -/
set_option maxRecDepth 100000 in
theorem n_print_cut {zC : Nat → Option zsh} {d : Nat} (hd : 3 ≤ d) {H : hp} {c n k : Nat} {ok : Int → Prop} (hc : zs zC c = some (.inr (.int, n))) (hn : n ≤ 100000) (hcm : c ≠ 1826 ∧ c ∉ [1858, 1859, 1860]) (hok : ∀ s, ok s → sg0 s) (hP : PWc H) (hT : tm (ma (H.1 1833) (H.1 1830)) ok (H.1 c) k 0 1) (hk : k ≤ n ∧ k ≤ 240) (hk1 : 1 ≤ k) (hwn : ∀ i : Nat, i < k → 1 ≤ wn (ma (H.1 1833) (H.1 1830)) (H.1 c) i) (hw0 : wn (ma (H.1 1833) (H.1 1830)) (H.1 c) k = 0) (hlen : ∀ i : Nat, i < k → 1 ≤ (lenR (H.1 1832) (H.1 1828)) (H.1 c i)) : ∀ w : Nat, (∀ (H1 : hp) (dp : Nat) (i : Nat), (fr [59] [1858, 1859, 1860] H H1) → (i ≤ k ∧ dp ≤ i) → (0 ≤ (H1.1 1826 59) ∧ (1 ≤ i → 1 ≤ (H1.1 1826 59))) → (JP9 (ma (H.1 1833) (H.1 1830)) (lenR (H.1 1832) (H.1 1828)) (H.1 c) (H1.1 1859) (H1.1 1860) (H1.1 1826 59) dp i) → 1000 * (k - i) + 900 < w → hG (zs zC) d mt_206 18 [(0, .inr (.inr 1826)), (1, .inr (.inr c)), (2, .inl 0), (3, .inl (k : Int)), (4, .inl (dp : Int)), (5, .inl (i : Int))] [] H1 (fun r9 H2 => r9 = none ∧ fr [59] [1858, 1859, 1860] H H2 ∧ (H2.1 1826 59) = bs (ma (H.1 1833) (H.1 1830)) (lenR (H.1 1832) (H.1 1828)) (H.1 c) k)) ∧ (∀ (H1 : hp) (dp : Nat) (i : Nat), (fr [59] [1858, 1859, 1860] H H1) → (i < k ∧ dp ≤ i + 1) → (1 ≤ (H1.1 1826 59)) → (JL9 (ma (H.1 1833) (H.1 1830)) (lenR (H.1 1832) (H.1 1828)) (H.1 c) (H1.1 1859) (H1.1 1860) (H1.1 1826 59) dp i ∨ JM9 (ma (H.1 1833) (H.1 1830)) (lenR (H.1 1832) (H.1 1828)) (H.1 c) (H1.1 1859) (H1.1 1860) (H1.1 1826 59) dp i) → 1000 * (k - i) + dp < w → hG (zs zC) d mt_206 205 [(0, .inr (.inr 1826)), (1, .inr (.inr c)), (2, .inl 0), (3, .inl (k : Int)), (4, .inl (dp : Int)), (5, .inl (i : Int))] [] H1 (fun r9 H2 => r9 = none ∧ fr [59] [1858, 1859, 1860] H H2 ∧ (H2.1 1826 59) = bs (ma (H.1 1833) (H.1 1830)) (lenR (H.1 1832) (H.1 1828)) (H.1 c) k)) := by
  intro w
  induction w with
  | zero => exact ⟨fun _ _ _ _ _ _ _ h => absurd h (Nat.not_lt_zero _), fun _ _ _ _ _ _ _ h => absurd h (Nat.not_lt_zero _)⟩
  | succ w ih =>
    refine ⟨?_, ?_⟩
    · intro H1 dp i hf hi hz hJ hw
      refine h_rng (fun hrg1 => ?_)
      obtain ⟨⟨pb1, pb2, pb3, pb4, pb5⟩, pw1, pw2, pw3, pw4⟩ := (id hP : PW H (H.1 1826 1) (H.1 1826 3) (H.1 1826 8) (H.1 1826 13) (H.1 1826 19))
      have eC : H1.1 c = H.1 c := hf.2.1 c hcm.1 hcm.2
      have eFA : (H1.1 1833) = (H.1 1833) := hf.2.1 1833 (by decide) (by decide)
      have eCA : (H1.1 1830) = (H.1 1830) := hf.2.1 1830 (by decide) (by decide)
      have eFN : (H1.1 1832) = (H.1 1832) := hf.2.1 1832 (by decide) (by decide)
      have eCN : (H1.1 1828) = (H.1 1828) := hf.2.1 1828 (by decide) (by decide)
      have hjl := JP_le hJ (fun c9 => lenR_b _ _ c9)
      have hj0 := JP_o0 hJ
      refine h_run 2 (pc' := 21) (l' := [(0, .inr (.inr 1826)), (1, .inr (.inr c)), (2, .inl 0), (3, .inl (k : Int)), (4, .inl (dp : Int)), (5, .inl (i : Int))]) (st' := [.inl (k : Int), .inl (i : Int)]) rfl ?_
      refine h_ige (off := 247) (t := 268) rfl rfl (by omega) (by omega) (fun c2 => ?_) (fun c2 => ?_)
      · refine h_ret rfl rfl ?_
        exact ⟨rfl, hf, JP_end (by rw [show k = i by omega]; exact hJ) (by omega) hw0⟩
      · refine h_run 2 (pc' := 27) (l' := [(0, .inr (.inr 1826)), (1, .inr (.inr c)), (2, .inl 0), (3, .inl (k : Int)), (4, .inl (dp : Int)), (5, .inl (i : Int))]) (st' := [.inl (i : Int), .inr (.inr c)]) rfl ?_
        refine h_ild (c := c) (j := i) (i := (i : Int)) rfl hc (by omega) rfl (by omega) ?_
        have g3 : -2147483648 ≤ (H1.1 c i) ∧ (H1.1 c i) ≤ 2147483647 := hrg1.2 c i n .int hc (by omega)
        refine h_run 0 (pc' := 28) (l' := [(0, .inr (.inr 1826)), (1, .inr (.inr c)), (2, .inl 0), (3, .inl (k : Int)), (4, .inl (dp : Int)), (5, .inl (i : Int))]) (st' := [.inl (H1.1 c i)]) rfl ?_
        have es : H1.1 c i = H.1 c i := by rw [eC]
        have hsx := tm_ok hT i (by omega)
        rw [Nat.zero_add] at hsx
        have hs0 : sg0 (H1.1 c i) := by rw [es]; exact hok _ hsx
        have hs9 : H1.1 c i = 0 ∨ (1 ≤ H1.1 c i ∧ H1.1 c i ≤ 16) ∨ (100 ≤ H1.1 c i ∧ H1.1 c i ≤ 115) ∨ (1000 ≤ H1.1 c i ∧ H1.1 c i ≤ 3000) := hs0
        have har : 0 ≤ ma (H1.1 1833) (H1.1 1830) (H1.1 c i) ∧ ma (H1.1 1833) (H1.1 1830) (H1.1 c i) ≤ 4 := by obtain ⟨m9, h9, h8⟩ := tm_ar hT i (by omega); rw [Nat.zero_add] at h9; rw [eFA, eCA, eC]; omega
        have hw9 := hwn i (by omega)
        have hae : ma (H.1 1833) (H.1 1830) (H.1 c i) = ma (H1.1 1833) (H1.1 1830) (H1.1 c i) := by rw [eFA, eCA, eC]
        have hln := hlen i (by omega)
        rw [← eFN, ← eCN, ← es] at hln
        refine h_run 3 (pc' := 33) (l' := [(0, .inr (.inr 1826)), (1, .inr (.inr c)), (2, .inl 0), (3, .inl (k : Int)), (4, .inl (dp : Int)), (5, .inl (i : Int)), (6, .inl (H1.1 c i))]) (st' := [.inl (H1.1 c i), .inr (.inr 1826)]) rfl ?_
        refine h_cv (i := 244) (j := 154) (b := 1826) (M' := mt_154) (xs := [.inl (H1.1 c i)]) (rest := []) rfl rfl rfl rfl rfl rfl (Nat.le_of_ble_eq_true rfl) (Nat.le_of_ble_eq_true rfl) (by omega) (m_arity (by omega) hs0) ?_
        rintro _ _ ⟨rfl, rfl⟩
        refine h_run 0 (pc' := 36) (l' := [(0, .inr (.inr 1826)), (1, .inr (.inr c)), (2, .inl 0), (3, .inl (k : Int)), (4, .inl (dp : Int)), (5, .inl (i : Int)), (6, .inl (H1.1 c i))]) (st' := [.inl (ma (H1.1 1833) (H1.1 1830) (H1.1 c i))]) rfl ?_
        refine h_run 3 (pc' := 42) (l' := [(0, .inr (.inr 1826)), (1, .inr (.inr c)), (2, .inl 0), (3, .inl (k : Int)), (4, .inl (dp : Int)), (5, .inl (i : Int)), (6, .inl (H1.1 c i)), (7, .inl (ma (H1.1 1833) (H1.1 1830) (H1.1 c i)))]) (st' := [.inl (H1.1 1826 59)]) rfl ?_
        have g4 : -2147483648 ≤ (H1.1 1826 59) ∧ (H1.1 1826 59) ≤ 2147483647 := hrg1.1 1826 13 59 _ .int rfl rfl
        refine h_zle (off := 9) (t := 51) rfl rfl (by omega) (fun c5 => ?_) (fun c5 => ?_)
        · refine h_run 1 (pc' := 53) (l' := [(0, .inr (.inr 1826)), (1, .inr (.inr c)), (2, .inl 0), (3, .inl (k : Int)), (4, .inl (dp : Int)), (5, .inl (i : Int)), (6, .inl (H1.1 c i)), (7, .inl (ma (H1.1 1833) (H1.1 1830) (H1.1 c i)))]) (st' := [.inl (ma (H1.1 1833) (H1.1 1830) (H1.1 c i))]) rfl ?_
          refine h_zle (off := 13) (t := 66) rfl rfl (by omega) (fun c6 => ?_) (fun c6 => ?_)
          · refine h_run 3 (pc' := 71) (l' := [(0, .inr (.inr 1826)), (1, .inr (.inr c)), (2, .inl 0), (3, .inl (k : Int)), (4, .inl (dp : Int)), (5, .inl (i : Int)), (6, .inl (H1.1 c i)), (7, .inl (ma (H1.1 1833) (H1.1 1830) (H1.1 c i))), (8, .inl 0)]) (st' := [.inl 0]) rfl ?_
            refine h_zeq (off := 9) (t := 80) rfl rfl (by decide) (fun _ => ?_) (fun c => absurd c (by decide))
            refine h_run 1 (pc' := 82) (l' := [(0, .inr (.inr 1826)), (1, .inr (.inr c)), (2, .inl 0), (3, .inl (k : Int)), (4, .inl (dp : Int)), (5, .inl (i : Int)), (6, .inl (H1.1 c i)), (7, .inl (ma (H1.1 1833) (H1.1 1830) (H1.1 c i))), (8, .inl 0)]) (st' := [.inl (H1.1 c i)]) rfl ?_
            refine h_zne (off := 12) (t := 94) rfl rfl (by omega) (fun c7 => ?_) (fun c7 => ?_)
            · refine h_run 2 (pc' := 99) (l' := [(0, .inr (.inr 1826)), (1, .inr (.inr c)), (2, .inl 0), (3, .inl (k : Int)), (4, .inl (dp : Int)), (5, .inl (i : Int)), (6, .inl (H1.1 c i)), (7, .inl (ma (H1.1 1833) (H1.1 1830) (H1.1 c i))), (8, .inl 0)]) (st' := [.inl 1000, .inl (H1.1 c i)]) rfl ?_
              refine h_ilt (off := 52) (t := 151) rfl rfl (by omega) (by decide) (fun c8 => ?_) (fun c8 => ?_)
              · refine h_run 3 (pc' := 156) (l' := [(0, .inr (.inr 1826)), (1, .inr (.inr c)), (2, .inl 0), (3, .inl (k : Int)), (4, .inl (dp : Int)), (5, .inl (i : Int)), (6, .inl (H1.1 c i)), (7, .inl (ma (H1.1 1833) (H1.1 1830) (H1.1 c i))), (8, .inl 0)]) (st' := [.inl 100, .inl (H1.1 c i), .inr (.inr 1826)]) rfl ?_
                refine h_ilt (off := 16) (t := 172) rfl rfl (by omega) (by decide) (fun c9 => ?_) (fun c9 => ?_)
                · refine h_run 5 (pc' := 180) (l' := [(0, .inr (.inr 1826)), (1, .inr (.inr c)), (2, .inl 0), (3, .inl (k : Int)), (4, .inl (dp : Int)), (5, .inl (i : Int)), (6, .inl (H1.1 c i)), (7, .inl (ma (H1.1 1833) (H1.1 1830) (H1.1 c i))), (8, .inl 0)]) (st' := [.inl ((H1.1 c i) - 1), .inr (.inr 1828), .inr (.inr 1826)]) rfl ?_
                  refine h_lld (c := 1828) (j := (((H1.1 c i) - 1)).toNat) (i := ((H1.1 c i) - 1)) rfl rfl (by decide) (by omega) (by omega) ?_
                  have g10 : -9223372036854775808 ≤ (H1.1 1828 (((H1.1 c i) - 1)).toNat) ∧ (H1.1 1828 (((H1.1 c i) - 1)).toNat) ≤ 9223372036854775807 := hrg1.2 1828 (((H1.1 c i) - 1)).toNat 16 .long rfl (by omega)
                  have e11 : (H1.1 1828 (((H1.1 c i) - 1)).toNat) = (H.1 1828 (((H1.1 c i) - 1)).toNat) := congrFun (hf.2.1 1828 (by decide) (by decide)) (((H1.1 c i) - 1)).toNat
                  refine h_run 0 (pc' := 181) (l' := [(0, .inr (.inr 1826)), (1, .inr (.inr c)), (2, .inl 0), (3, .inl (k : Int)), (4, .inl (dp : Int)), (5, .inl (i : Int)), (6, .inl (H1.1 c i)), (7, .inl (ma (H1.1 1833) (H1.1 1830) (H1.1 c i))), (8, .inl 0)]) (st' := [.inr (.inl (H1.1 1828 (((H1.1 c i) - 1)).toNat)), .inr (.inr 1826)]) rfl ?_
                  refine h_cv (i := 479) (j := 204) (b := 1826) (M' := mt_204) (xs := [.inr (.inl (H1.1 1828 (((H1.1 c i) - 1)).toNat))]) (rest := []) rfl rfl rfl rfl rfl rfl (Nat.le_of_ble_eq_true rfl) (Nat.le_of_ble_eq_true rfl) (by omega) (n_putName (by omega) (by omega : 0 ≤ (H1.1 1826 59) ∧ (H1.1 1826 59) ≤ 7900)) ?_
                  rintro _ H12 ⟨rfl, hx12f, hx12z⟩
                  refine h_rng (fun hrg13 => ?_)
                  have hf14 : fr [59] [1858, 1859, 1860] H H12 := fr_t hf hx12f (by decide) (by decide)
                  replace hx12z : (H12.1 1826 59) = (H1.1 1826 59) + (cR (H1.1 1828 (((H1.1 c i) - 1)).toNat) 8) := hx12z
                  refine h_run 0 (pc' := 184) (l' := [(0, .inr (.inr 1826)), (1, .inr (.inr c)), (2, .inl 0), (3, .inl (k : Int)), (4, .inl (dp : Int)), (5, .inl (i : Int)), (6, .inl (H1.1 c i)), (7, .inl (ma (H1.1 1833) (H1.1 1830) (H1.1 c i))), (8, .inl 0)]) (st' := []) rfl ?_
                  refine h_run 4 (pc' := 192) (l' := [(0, .inr (.inr 1826)), (1, .inr (.inr c)), (2, .inl 0), (3, .inl (k : Int)), (4, .inl (dp : Int)), (5, .inl (i : Int)), (6, .inl (H1.1 c i)), (7, .inl (ma (H1.1 1833) (H1.1 1830) (H1.1 c i))), (8, .inl 0)]) (st' := [.inl (ma (H1.1 1833) (H1.1 1830) (H1.1 c i)), .inl (dp : Int), .inr (.inr 1859)]) rfl ?_
                  skip
                  skip
                  have g15 : -2147483648 ≤ (H12.1 1826 59) ∧ (H12.1 1826 59) ≤ 2147483647 := hrg13.1 1826 13 59 _ .int rfl rfl
                  have hgo : 1 ≤ (H12.1 1826 59) := by unfold lenR at hln; (repeat (first | rw [if_pos (by omega)] at hln | rw [if_neg (by omega)] at hln)); omega
                  refine h_ist (c := 1859) (j := dp) (i := (dp : Int)) (x := (ma (H1.1 1833) (H1.1 1830) (H1.1 c i))) rfl rfl (by decide) (by decide) rfl (by omega) (by omega) ?_
                  refine h_run 4 (pc' := 201) (l' := [(0, .inr (.inr 1826)), (1, .inr (.inr c)), (2, .inl 0), (3, .inl (k : Int)), (4, .inl (dp : Int)), (5, .inl (i : Int)), (6, .inl (H1.1 c i)), (7, .inl (ma (H1.1 1833) (H1.1 1830) (H1.1 c i))), (8, .inl 0)]) (st' := [.inl 0, .inl (dp : Int), .inr (.inr 1860)]) rfl ?_
                  refine h_bst (c := 1860) (j := dp) (i := (dp : Int)) (x := 0) (Or.inr rfl) rfl rfl (by decide) (by decide) rfl (by omega) (show (0 : Int) ≤ 0 ∧ 0 ≤ 1 by omega) ?_
                  refine h_run 1 (pc' := 205) (l' := [(0, .inr (.inr 1826)), (1, .inr (.inr c)), (2, .inl 0), (3, .inl (k : Int)), (4, .inl ((dp : Int) + 1)), (5, .inl (i : Int)), (6, .inl (H1.1 c i)), (7, .inl (ma (H1.1 1833) (H1.1 1830) (H1.1 c i))), (8, .inl 0)]) (st' := []) rfl ?_
                  refine h_loc [0, 1, 2, 3, 4, 5] rfl ?_
                  rw [show ((dp : Int) + 1) = (((dp + 1) : Nat) : Int) by omega]
                  exact ih.2 _ (dp + 1) i (fr_a (fr_a hf14 (by decide)) (by decide)) (by omega) (by omega : 1 ≤ (H12.1 1826 59)) (by first | exact Or.inl (show JL9 (ma (H.1 1833) (H.1 1830)) (lenR (H.1 1832) (H.1 1828)) (H.1 c) (up (H12.1 1859) dp (ma (H1.1 1833) (H1.1 1830) (H1.1 c i))) (up (H12.1 1860) dp (0 : Int)) (H12.1 1826 59) (dp + 1) i from (by rw [show (H12.1 1859) = (H1.1 1859) from (hx12f.2.1 1859 (by decide) (by decide)), show (H12.1 1860) = (H1.1 1860) from (hx12f.2.1 1860 (by decide) (by decide))]; rw [show (ma (H1.1 1833) (H1.1 1830) (H1.1 c i)) = 0 by omega]; exact J_leaf hJ hw9 (by omega) (by rw [← eFN, ← eCN, ← es]; unfold lenR; (repeat (first | rw [if_pos (by omega)] | rw [if_neg (by omega)])); omega))) | exact Or.inr (show JM9 (ma (H.1 1833) (H.1 1830)) (lenR (H.1 1832) (H.1 1828)) (H.1 c) (up (H12.1 1859) dp (ma (H1.1 1833) (H1.1 1830) (H1.1 c i))) (up (H12.1 1860) dp (0 : Int)) (H12.1 1826 59) (dp + 1) i from (by rw [show (H12.1 1859) = (H1.1 1859) from (hx12f.2.1 1859 (by decide) (by decide)), show (H12.1 1860) = (H1.1 1860) from (hx12f.2.1 1860 (by decide) (by decide))]; exact J_node hJ hw9 ⟨hae, by omega, by omega⟩ (by first | (rw [if_pos (by omega)]; done) | (rw [if_neg (by omega)]; done)) (by rw [← eFN, ← eCN, ← es]; unfold lenR; (repeat (first | rw [if_pos (by omega)] | rw [if_neg (by omega)])); omega)))) (by omega : 1000 * (k - i) + (dp + 1) < w)
                · refine h_run 5 (pc' := 168) (l' := [(0, .inr (.inr 1826)), (1, .inr (.inr c)), (2, .inl 0), (3, .inl (k : Int)), (4, .inl (dp : Int)), (5, .inl (i : Int)), (6, .inl (H1.1 c i)), (7, .inl (ma (H1.1 1833) (H1.1 1830) (H1.1 c i))), (8, .inl 0)]) (st' := [.inl ((H1.1 c i) - 100), .inr (.inr 1832), .inr (.inr 1826)]) rfl ?_
                  refine h_lld (c := 1832) (j := (((H1.1 c i) - 100)).toNat) (i := ((H1.1 c i) - 100)) rfl rfl (by decide) (by omega) (by omega) ?_
                  have g16 : -9223372036854775808 ≤ (H1.1 1832 (((H1.1 c i) - 100)).toNat) ∧ (H1.1 1832 (((H1.1 c i) - 100)).toNat) ≤ 9223372036854775807 := hrg1.2 1832 (((H1.1 c i) - 100)).toNat 16 .long rfl (by omega)
                  have e17 : (H1.1 1832 (((H1.1 c i) - 100)).toNat) = (H.1 1832 (((H1.1 c i) - 100)).toNat) := congrFun (hf.2.1 1832 (by decide) (by decide)) (((H1.1 c i) - 100)).toNat
                  refine h_run 0 (pc' := 169) (l' := [(0, .inr (.inr 1826)), (1, .inr (.inr c)), (2, .inl 0), (3, .inl (k : Int)), (4, .inl (dp : Int)), (5, .inl (i : Int)), (6, .inl (H1.1 c i)), (7, .inl (ma (H1.1 1833) (H1.1 1830) (H1.1 c i))), (8, .inl 0)]) (st' := [.inr (.inl (H1.1 1832 (((H1.1 c i) - 100)).toNat)), .inr (.inr 1826)]) rfl ?_
                  refine h_run 1 (pc' := 181) (l' := [(0, .inr (.inr 1826)), (1, .inr (.inr c)), (2, .inl 0), (3, .inl (k : Int)), (4, .inl (dp : Int)), (5, .inl (i : Int)), (6, .inl (H1.1 c i)), (7, .inl (ma (H1.1 1833) (H1.1 1830) (H1.1 c i))), (8, .inl 0)]) (st' := [.inr (.inl (H1.1 1832 (((H1.1 c i) - 100)).toNat)), .inr (.inr 1826)]) rfl ?_
                  refine h_cv (i := 479) (j := 204) (b := 1826) (M' := mt_204) (xs := [.inr (.inl (H1.1 1832 (((H1.1 c i) - 100)).toNat))]) (rest := []) rfl rfl rfl rfl rfl rfl (Nat.le_of_ble_eq_true rfl) (Nat.le_of_ble_eq_true rfl) (by omega) (n_putName (by omega) (by omega : 0 ≤ (H1.1 1826 59) ∧ (H1.1 1826 59) ≤ 7900)) ?_
                  rintro _ H18 ⟨rfl, hx18f, hx18z⟩
                  refine h_rng (fun hrg19 => ?_)
                  have hf20 : fr [59] [1858, 1859, 1860] H H18 := fr_t hf hx18f (by decide) (by decide)
                  replace hx18z : (H18.1 1826 59) = (H1.1 1826 59) + (cR (H1.1 1832 (((H1.1 c i) - 100)).toNat) 8) := hx18z
                  refine h_run 0 (pc' := 184) (l' := [(0, .inr (.inr 1826)), (1, .inr (.inr c)), (2, .inl 0), (3, .inl (k : Int)), (4, .inl (dp : Int)), (5, .inl (i : Int)), (6, .inl (H1.1 c i)), (7, .inl (ma (H1.1 1833) (H1.1 1830) (H1.1 c i))), (8, .inl 0)]) (st' := []) rfl ?_
                  refine h_run 4 (pc' := 192) (l' := [(0, .inr (.inr 1826)), (1, .inr (.inr c)), (2, .inl 0), (3, .inl (k : Int)), (4, .inl (dp : Int)), (5, .inl (i : Int)), (6, .inl (H1.1 c i)), (7, .inl (ma (H1.1 1833) (H1.1 1830) (H1.1 c i))), (8, .inl 0)]) (st' := [.inl (ma (H1.1 1833) (H1.1 1830) (H1.1 c i)), .inl (dp : Int), .inr (.inr 1859)]) rfl ?_
                  skip
                  skip
                  have g21 : -2147483648 ≤ (H18.1 1826 59) ∧ (H18.1 1826 59) ≤ 2147483647 := hrg19.1 1826 13 59 _ .int rfl rfl
                  have hgo : 1 ≤ (H18.1 1826 59) := by unfold lenR at hln; (repeat (first | rw [if_pos (by omega)] at hln | rw [if_neg (by omega)] at hln)); omega
                  refine h_ist (c := 1859) (j := dp) (i := (dp : Int)) (x := (ma (H1.1 1833) (H1.1 1830) (H1.1 c i))) rfl rfl (by decide) (by decide) rfl (by omega) (by omega) ?_
                  refine h_run 4 (pc' := 201) (l' := [(0, .inr (.inr 1826)), (1, .inr (.inr c)), (2, .inl 0), (3, .inl (k : Int)), (4, .inl (dp : Int)), (5, .inl (i : Int)), (6, .inl (H1.1 c i)), (7, .inl (ma (H1.1 1833) (H1.1 1830) (H1.1 c i))), (8, .inl 0)]) (st' := [.inl 0, .inl (dp : Int), .inr (.inr 1860)]) rfl ?_
                  refine h_bst (c := 1860) (j := dp) (i := (dp : Int)) (x := 0) (Or.inr rfl) rfl rfl (by decide) (by decide) rfl (by omega) (show (0 : Int) ≤ 0 ∧ 0 ≤ 1 by omega) ?_
                  refine h_run 1 (pc' := 205) (l' := [(0, .inr (.inr 1826)), (1, .inr (.inr c)), (2, .inl 0), (3, .inl (k : Int)), (4, .inl ((dp : Int) + 1)), (5, .inl (i : Int)), (6, .inl (H1.1 c i)), (7, .inl (ma (H1.1 1833) (H1.1 1830) (H1.1 c i))), (8, .inl 0)]) (st' := []) rfl ?_
                  refine h_loc [0, 1, 2, 3, 4, 5] rfl ?_
                  rw [show ((dp : Int) + 1) = (((dp + 1) : Nat) : Int) by omega]
                  exact ih.2 _ (dp + 1) i (fr_a (fr_a hf20 (by decide)) (by decide)) (by omega) (by omega : 1 ≤ (H18.1 1826 59)) (by first | exact Or.inl (show JL9 (ma (H.1 1833) (H.1 1830)) (lenR (H.1 1832) (H.1 1828)) (H.1 c) (up (H18.1 1859) dp (ma (H1.1 1833) (H1.1 1830) (H1.1 c i))) (up (H18.1 1860) dp (0 : Int)) (H18.1 1826 59) (dp + 1) i from (by rw [show (H18.1 1859) = (H1.1 1859) from (hx18f.2.1 1859 (by decide) (by decide)), show (H18.1 1860) = (H1.1 1860) from (hx18f.2.1 1860 (by decide) (by decide))]; rw [show (ma (H1.1 1833) (H1.1 1830) (H1.1 c i)) = 0 by omega]; exact J_leaf hJ hw9 (by omega) (by rw [← eFN, ← eCN, ← es]; unfold lenR; (repeat (first | rw [if_pos (by omega)] | rw [if_neg (by omega)])); omega))) | exact Or.inr (show JM9 (ma (H.1 1833) (H.1 1830)) (lenR (H.1 1832) (H.1 1828)) (H.1 c) (up (H18.1 1859) dp (ma (H1.1 1833) (H1.1 1830) (H1.1 c i))) (up (H18.1 1860) dp (0 : Int)) (H18.1 1826 59) (dp + 1) i from (by rw [show (H18.1 1859) = (H1.1 1859) from (hx18f.2.1 1859 (by decide) (by decide)), show (H18.1 1860) = (H1.1 1860) from (hx18f.2.1 1860 (by decide) (by decide))]; exact J_node hJ hw9 ⟨hae, by omega, by omega⟩ (by first | (rw [if_pos (by omega)]; done) | (rw [if_neg (by omega)]; done)) (by rw [← eFN, ← eCN, ← es]; unfold lenR; (repeat (first | rw [if_pos (by omega)] | rw [if_neg (by omega)])); omega)))) (by omega : 1000 * (k - i) + (dp + 1) < w)
              · refine h_run 3 (pc' := 108) (l' := [(0, .inr (.inr 1826)), (1, .inr (.inr c)), (2, .inl 0), (3, .inl (k : Int)), (4, .inl (dp : Int)), (5, .inl (i : Int)), (6, .inl (H1.1 c i)), (7, .inl (ma (H1.1 1833) (H1.1 1830) (H1.1 c i))), (8, .inl 0)]) (st' := [.inl 2000, .inl (H1.1 c i), .inr (.inr 1826)]) rfl ?_
                refine h_ilt (off := 8) (t := 116) rfl rfl (by omega) (by decide) (fun c22 => ?_) (fun c22 => ?_)
                · refine h_run 1 (pc' := 118) (l' := [(0, .inr (.inr 1826)), (1, .inr (.inr c)), (2, .inl 0), (3, .inl (k : Int)), (4, .inl (dp : Int)), (5, .inl (i : Int)), (6, .inl (H1.1 c i)), (7, .inl (ma (H1.1 1833) (H1.1 1830) (H1.1 c i))), (8, .inl 0)]) (st' := [.inl 118, .inr (.inr 1826)]) rfl ?_
                  refine h_cv (i := 473) (j := 203) (b := 1826) (M' := mt_203) (xs := [.inl 118]) (rest := []) rfl rfl rfl rfl rfl rfl (Nat.le_of_ble_eq_true rfl) (Nat.le_of_ble_eq_true rfl) (by omega) (n_letter (by omega) (by omega : 0 ≤ (H1.1 1826 59) ∧ (H1.1 1826 59) ≤ 7950)) ?_
                  rintro _ H23 ⟨rfl, hx23f, hx23z⟩
                  refine h_rng (fun hrg24 => ?_)
                  have hf25 : fr [59] [1858, 1859, 1860] H H23 := fr_t hf hx23f (by decide) (by decide)
                  replace hx23z : (H23.1 1826 59) = (H1.1 1826 59) + 1 := hx23z
                  refine h_run 0 (pc' := 121) (l' := [(0, .inr (.inr 1826)), (1, .inr (.inr c)), (2, .inl 0), (3, .inl (k : Int)), (4, .inl (dp : Int)), (5, .inl (i : Int)), (6, .inl (H1.1 c i)), (7, .inl (ma (H1.1 1833) (H1.1 1830) (H1.1 c i))), (8, .inl 0)]) (st' := []) rfl ?_
                  refine h_run 3 (pc' := 127) (l' := [(0, .inr (.inr 1826)), (1, .inr (.inr c)), (2, .inl 0), (3, .inl (k : Int)), (4, .inl (dp : Int)), (5, .inl (i : Int)), (6, .inl (H1.1 c i)), (7, .inl (ma (H1.1 1833) (H1.1 1830) (H1.1 c i))), (8, .inl 0)]) (st' := [.inl 2000, .inl (H1.1 c i), .inr (.inr 1826)]) rfl ?_
                  refine h_ilt (off := 12) (t := 139) rfl rfl (by omega) (by decide) (fun c26 => ?_) (fun c26 => ?_)
                  · refine h_run 3 (pc' := 145) (l' := [(0, .inr (.inr 1826)), (1, .inr (.inr c)), (2, .inl 0), (3, .inl (k : Int)), (4, .inl (dp : Int)), (5, .inl (i : Int)), (6, .inl (H1.1 c i)), (7, .inl (ma (H1.1 1833) (H1.1 1830) (H1.1 c i))), (8, .inl 0)]) (st' := [.inl ((H1.1 c i) - 1000), .inr (.inr 1826)]) rfl ?_
                    have g27 : -2147483648 ≤ (H23.1 1826 59) ∧ (H23.1 1826 59) ≤ 2147483647 := hrg24.1 1826 13 59 _ .int rfl rfl
                    refine h_cv (i := 476) (j := 205) (b := 1826) (M' := mt_205) (xs := [.inl ((H1.1 c i) - 1000)]) (rest := []) rfl rfl rfl rfl rfl rfl (Nat.le_of_ble_eq_true rfl) (Nat.le_of_ble_eq_true rfl) (by omega) (n_putNumber (by omega) (by omega : 0 ≤ (H23.1 1826 59) ∧ (H23.1 1826 59) ≤ 7900) (by omega)) ?_
                    rintro _ H28 ⟨rfl, hx28f, hx28z⟩
                    refine h_rng (fun hrg29 => ?_)
                    have hf30 : fr [59] [1858, 1859, 1860] H H28 := fr_t hf25 hx28f (by decide) (by decide)
                    replace hx28z : (H28.1 1826 59) = (H23.1 1826 59) + (if 9 < ((H1.1 c i) - 1000) then 2 else 1) := hx28z
                    refine h_run 0 (pc' := 148) (l' := [(0, .inr (.inr 1826)), (1, .inr (.inr c)), (2, .inl 0), (3, .inl (k : Int)), (4, .inl (dp : Int)), (5, .inl (i : Int)), (6, .inl (H1.1 c i)), (7, .inl (ma (H1.1 1833) (H1.1 1830) (H1.1 c i))), (8, .inl 0)]) (st' := []) rfl ?_
                    refine h_run 5 (pc' := 192) (l' := [(0, .inr (.inr 1826)), (1, .inr (.inr c)), (2, .inl 0), (3, .inl (k : Int)), (4, .inl (dp : Int)), (5, .inl (i : Int)), (6, .inl (H1.1 c i)), (7, .inl (ma (H1.1 1833) (H1.1 1830) (H1.1 c i))), (8, .inl 0)]) (st' := [.inl (ma (H1.1 1833) (H1.1 1830) (H1.1 c i)), .inl (dp : Int), .inr (.inr 1859)]) rfl ?_
                    have hnq0 : cR ((H23.1 1828) (H1.1 c i - 1).toNat) 8 = cR ((H1.1 1828) (H1.1 c i - 1).toNat) 8 := by rw [show (H23.1 1828) = (H1.1 1828) from (hx23f.2.1 1828 (by decide) (by decide))]
                    have hnq1 : cR ((H23.1 1832) (H1.1 c i - 100).toNat) 8 = cR ((H1.1 1832) (H1.1 c i - 100).toNat) 8 := by rw [show (H23.1 1832) = (H1.1 1832) from (hx23f.2.1 1832 (by decide) (by decide))]
                    have g31 : -2147483648 ≤ (H28.1 1826 59) ∧ (H28.1 1826 59) ≤ 2147483647 := hrg29.1 1826 13 59 _ .int rfl rfl
                    have hgo : 1 ≤ (H28.1 1826 59) := by unfold lenR at hln; (repeat (first | rw [if_pos (by omega)] at hln | rw [if_neg (by omega)] at hln)); omega
                    refine h_ist (c := 1859) (j := dp) (i := (dp : Int)) (x := (ma (H1.1 1833) (H1.1 1830) (H1.1 c i))) rfl rfl (by decide) (by decide) rfl (by omega) (by omega) ?_
                    refine h_run 4 (pc' := 201) (l' := [(0, .inr (.inr 1826)), (1, .inr (.inr c)), (2, .inl 0), (3, .inl (k : Int)), (4, .inl (dp : Int)), (5, .inl (i : Int)), (6, .inl (H1.1 c i)), (7, .inl (ma (H1.1 1833) (H1.1 1830) (H1.1 c i))), (8, .inl 0)]) (st' := [.inl 0, .inl (dp : Int), .inr (.inr 1860)]) rfl ?_
                    refine h_bst (c := 1860) (j := dp) (i := (dp : Int)) (x := 0) (Or.inr rfl) rfl rfl (by decide) (by decide) rfl (by omega) (show (0 : Int) ≤ 0 ∧ 0 ≤ 1 by omega) ?_
                    refine h_run 1 (pc' := 205) (l' := [(0, .inr (.inr 1826)), (1, .inr (.inr c)), (2, .inl 0), (3, .inl (k : Int)), (4, .inl ((dp : Int) + 1)), (5, .inl (i : Int)), (6, .inl (H1.1 c i)), (7, .inl (ma (H1.1 1833) (H1.1 1830) (H1.1 c i))), (8, .inl 0)]) (st' := []) rfl ?_
                    refine h_loc [0, 1, 2, 3, 4, 5] rfl ?_
                    rw [show ((dp : Int) + 1) = (((dp + 1) : Nat) : Int) by omega]
                    exact ih.2 _ (dp + 1) i (fr_a (fr_a hf30 (by decide)) (by decide)) (by omega) (by omega : 1 ≤ (H28.1 1826 59)) (by first | exact Or.inl (show JL9 (ma (H.1 1833) (H.1 1830)) (lenR (H.1 1832) (H.1 1828)) (H.1 c) (up (H28.1 1859) dp (ma (H1.1 1833) (H1.1 1830) (H1.1 c i))) (up (H28.1 1860) dp (0 : Int)) (H28.1 1826 59) (dp + 1) i from (by rw [show (H28.1 1859) = (H1.1 1859) from ((hx28f.2.1 1859 (by decide) (by decide)).trans (hx23f.2.1 1859 (by decide) (by decide))), show (H28.1 1860) = (H1.1 1860) from ((hx28f.2.1 1860 (by decide) (by decide)).trans (hx23f.2.1 1860 (by decide) (by decide)))]; rw [show (ma (H1.1 1833) (H1.1 1830) (H1.1 c i)) = 0 by omega]; exact J_leaf hJ hw9 (by omega) (by rw [← eFN, ← eCN, ← es]; unfold lenR; (repeat (first | rw [if_pos (by omega)] | rw [if_neg (by omega)])); omega))) | exact Or.inr (show JM9 (ma (H.1 1833) (H.1 1830)) (lenR (H.1 1832) (H.1 1828)) (H.1 c) (up (H28.1 1859) dp (ma (H1.1 1833) (H1.1 1830) (H1.1 c i))) (up (H28.1 1860) dp (0 : Int)) (H28.1 1826 59) (dp + 1) i from (by rw [show (H28.1 1859) = (H1.1 1859) from ((hx28f.2.1 1859 (by decide) (by decide)).trans (hx23f.2.1 1859 (by decide) (by decide))), show (H28.1 1860) = (H1.1 1860) from ((hx28f.2.1 1860 (by decide) (by decide)).trans (hx23f.2.1 1860 (by decide) (by decide)))]; exact J_node hJ hw9 ⟨hae, by omega, by omega⟩ (by first | (rw [if_pos (by omega)]; done) | (rw [if_neg (by omega)]; done)) (by rw [← eFN, ← eCN, ← es]; unfold lenR; (repeat (first | rw [if_pos (by omega)] | rw [if_neg (by omega)])); omega)))) (by omega : 1000 * (k - i) + (dp + 1) < w)
                  · exfalso
                    omega
                · refine h_run 2 (pc' := 118) (l' := [(0, .inr (.inr 1826)), (1, .inr (.inr c)), (2, .inl 0), (3, .inl (k : Int)), (4, .inl (dp : Int)), (5, .inl (i : Int)), (6, .inl (H1.1 c i)), (7, .inl (ma (H1.1 1833) (H1.1 1830) (H1.1 c i))), (8, .inl 0)]) (st' := [.inl 102, .inr (.inr 1826)]) rfl ?_
                  refine h_cv (i := 473) (j := 203) (b := 1826) (M' := mt_203) (xs := [.inl 102]) (rest := []) rfl rfl rfl rfl rfl rfl (Nat.le_of_ble_eq_true rfl) (Nat.le_of_ble_eq_true rfl) (by omega) (n_letter (by omega) (by omega : 0 ≤ (H1.1 1826 59) ∧ (H1.1 1826 59) ≤ 7950)) ?_
                  rintro _ H32 ⟨rfl, hx32f, hx32z⟩
                  refine h_rng (fun hrg33 => ?_)
                  have hf34 : fr [59] [1858, 1859, 1860] H H32 := fr_t hf hx32f (by decide) (by decide)
                  replace hx32z : (H32.1 1826 59) = (H1.1 1826 59) + 1 := hx32z
                  refine h_run 0 (pc' := 121) (l' := [(0, .inr (.inr 1826)), (1, .inr (.inr c)), (2, .inl 0), (3, .inl (k : Int)), (4, .inl (dp : Int)), (5, .inl (i : Int)), (6, .inl (H1.1 c i)), (7, .inl (ma (H1.1 1833) (H1.1 1830) (H1.1 c i))), (8, .inl 0)]) (st' := []) rfl ?_
                  refine h_run 3 (pc' := 127) (l' := [(0, .inr (.inr 1826)), (1, .inr (.inr c)), (2, .inl 0), (3, .inl (k : Int)), (4, .inl (dp : Int)), (5, .inl (i : Int)), (6, .inl (H1.1 c i)), (7, .inl (ma (H1.1 1833) (H1.1 1830) (H1.1 c i))), (8, .inl 0)]) (st' := [.inl 2000, .inl (H1.1 c i), .inr (.inr 1826)]) rfl ?_
                  refine h_ilt (off := 12) (t := 139) rfl rfl (by omega) (by decide) (fun c35 => ?_) (fun c35 => ?_)
                  · exfalso
                    omega
                  · refine h_run 4 (pc' := 145) (l' := [(0, .inr (.inr 1826)), (1, .inr (.inr c)), (2, .inl 0), (3, .inl (k : Int)), (4, .inl (dp : Int)), (5, .inl (i : Int)), (6, .inl (H1.1 c i)), (7, .inl (ma (H1.1 1833) (H1.1 1830) (H1.1 c i))), (8, .inl 0)]) (st' := [.inl ((H1.1 c i) - 2000), .inr (.inr 1826)]) rfl ?_
                    have g36 : -2147483648 ≤ (H32.1 1826 59) ∧ (H32.1 1826 59) ≤ 2147483647 := hrg33.1 1826 13 59 _ .int rfl rfl
                    refine h_cv (i := 476) (j := 205) (b := 1826) (M' := mt_205) (xs := [.inl ((H1.1 c i) - 2000)]) (rest := []) rfl rfl rfl rfl rfl rfl (Nat.le_of_ble_eq_true rfl) (Nat.le_of_ble_eq_true rfl) (by omega) (n_putNumber (by omega) (by omega : 0 ≤ (H32.1 1826 59) ∧ (H32.1 1826 59) ≤ 7900) (by omega)) ?_
                    rintro _ H37 ⟨rfl, hx37f, hx37z⟩
                    refine h_rng (fun hrg38 => ?_)
                    have hf39 : fr [59] [1858, 1859, 1860] H H37 := fr_t hf34 hx37f (by decide) (by decide)
                    replace hx37z : (H37.1 1826 59) = (H32.1 1826 59) + (if 9 < ((H1.1 c i) - 2000) then 2 else 1) := hx37z
                    refine h_run 0 (pc' := 148) (l' := [(0, .inr (.inr 1826)), (1, .inr (.inr c)), (2, .inl 0), (3, .inl (k : Int)), (4, .inl (dp : Int)), (5, .inl (i : Int)), (6, .inl (H1.1 c i)), (7, .inl (ma (H1.1 1833) (H1.1 1830) (H1.1 c i))), (8, .inl 0)]) (st' := []) rfl ?_
                    refine h_run 5 (pc' := 192) (l' := [(0, .inr (.inr 1826)), (1, .inr (.inr c)), (2, .inl 0), (3, .inl (k : Int)), (4, .inl (dp : Int)), (5, .inl (i : Int)), (6, .inl (H1.1 c i)), (7, .inl (ma (H1.1 1833) (H1.1 1830) (H1.1 c i))), (8, .inl 0)]) (st' := [.inl (ma (H1.1 1833) (H1.1 1830) (H1.1 c i)), .inl (dp : Int), .inr (.inr 1859)]) rfl ?_
                    have hnq0 : cR ((H32.1 1828) (H1.1 c i - 1).toNat) 8 = cR ((H1.1 1828) (H1.1 c i - 1).toNat) 8 := by rw [show (H32.1 1828) = (H1.1 1828) from (hx32f.2.1 1828 (by decide) (by decide))]
                    have hnq1 : cR ((H32.1 1832) (H1.1 c i - 100).toNat) 8 = cR ((H1.1 1832) (H1.1 c i - 100).toNat) 8 := by rw [show (H32.1 1832) = (H1.1 1832) from (hx32f.2.1 1832 (by decide) (by decide))]
                    have g40 : -2147483648 ≤ (H37.1 1826 59) ∧ (H37.1 1826 59) ≤ 2147483647 := hrg38.1 1826 13 59 _ .int rfl rfl
                    have hgo : 1 ≤ (H37.1 1826 59) := by unfold lenR at hln; (repeat (first | rw [if_pos (by omega)] at hln | rw [if_neg (by omega)] at hln)); omega
                    refine h_ist (c := 1859) (j := dp) (i := (dp : Int)) (x := (ma (H1.1 1833) (H1.1 1830) (H1.1 c i))) rfl rfl (by decide) (by decide) rfl (by omega) (by omega) ?_
                    refine h_run 4 (pc' := 201) (l' := [(0, .inr (.inr 1826)), (1, .inr (.inr c)), (2, .inl 0), (3, .inl (k : Int)), (4, .inl (dp : Int)), (5, .inl (i : Int)), (6, .inl (H1.1 c i)), (7, .inl (ma (H1.1 1833) (H1.1 1830) (H1.1 c i))), (8, .inl 0)]) (st' := [.inl 0, .inl (dp : Int), .inr (.inr 1860)]) rfl ?_
                    refine h_bst (c := 1860) (j := dp) (i := (dp : Int)) (x := 0) (Or.inr rfl) rfl rfl (by decide) (by decide) rfl (by omega) (show (0 : Int) ≤ 0 ∧ 0 ≤ 1 by omega) ?_
                    refine h_run 1 (pc' := 205) (l' := [(0, .inr (.inr 1826)), (1, .inr (.inr c)), (2, .inl 0), (3, .inl (k : Int)), (4, .inl ((dp : Int) + 1)), (5, .inl (i : Int)), (6, .inl (H1.1 c i)), (7, .inl (ma (H1.1 1833) (H1.1 1830) (H1.1 c i))), (8, .inl 0)]) (st' := []) rfl ?_
                    refine h_loc [0, 1, 2, 3, 4, 5] rfl ?_
                    rw [show ((dp : Int) + 1) = (((dp + 1) : Nat) : Int) by omega]
                    exact ih.2 _ (dp + 1) i (fr_a (fr_a hf39 (by decide)) (by decide)) (by omega) (by omega : 1 ≤ (H37.1 1826 59)) (by first | exact Or.inl (show JL9 (ma (H.1 1833) (H.1 1830)) (lenR (H.1 1832) (H.1 1828)) (H.1 c) (up (H37.1 1859) dp (ma (H1.1 1833) (H1.1 1830) (H1.1 c i))) (up (H37.1 1860) dp (0 : Int)) (H37.1 1826 59) (dp + 1) i from (by rw [show (H37.1 1859) = (H1.1 1859) from ((hx37f.2.1 1859 (by decide) (by decide)).trans (hx32f.2.1 1859 (by decide) (by decide))), show (H37.1 1860) = (H1.1 1860) from ((hx37f.2.1 1860 (by decide) (by decide)).trans (hx32f.2.1 1860 (by decide) (by decide)))]; rw [show (ma (H1.1 1833) (H1.1 1830) (H1.1 c i)) = 0 by omega]; exact J_leaf hJ hw9 (by omega) (by rw [← eFN, ← eCN, ← es]; unfold lenR; (repeat (first | rw [if_pos (by omega)] | rw [if_neg (by omega)])); omega))) | exact Or.inr (show JM9 (ma (H.1 1833) (H.1 1830)) (lenR (H.1 1832) (H.1 1828)) (H.1 c) (up (H37.1 1859) dp (ma (H1.1 1833) (H1.1 1830) (H1.1 c i))) (up (H37.1 1860) dp (0 : Int)) (H37.1 1826 59) (dp + 1) i from (by rw [show (H37.1 1859) = (H1.1 1859) from ((hx37f.2.1 1859 (by decide) (by decide)).trans (hx32f.2.1 1859 (by decide) (by decide))), show (H37.1 1860) = (H1.1 1860) from ((hx37f.2.1 1860 (by decide) (by decide)).trans (hx32f.2.1 1860 (by decide) (by decide)))]; exact J_node hJ hw9 ⟨hae, by omega, by omega⟩ (by first | (rw [if_pos (by omega)]; done) | (rw [if_neg (by omega)]; done)) (by rw [← eFN, ← eCN, ← es]; unfold lenR; (repeat (first | rw [if_pos (by omega)] | rw [if_neg (by omega)])); omega)))) (by omega : 1000 * (k - i) + (dp + 1) < w)
            · refine h_run 2 (pc' := 88) (l' := [(0, .inr (.inr 1826)), (1, .inr (.inr c)), (2, .inl 0), (3, .inl (k : Int)), (4, .inl (dp : Int)), (5, .inl (i : Int)), (6, .inl (H1.1 c i)), (7, .inl (ma (H1.1 1833) (H1.1 1830) (H1.1 c i))), (8, .inl 0)]) (st' := [.inl 95, .inr (.inr 1826)]) rfl ?_
              refine h_cv (i := 473) (j := 203) (b := 1826) (M' := mt_203) (xs := [.inl 95]) (rest := []) rfl rfl rfl rfl rfl rfl (Nat.le_of_ble_eq_true rfl) (Nat.le_of_ble_eq_true rfl) (by omega) (n_letter (by omega) (by omega : 0 ≤ (H1.1 1826 59) ∧ (H1.1 1826 59) ≤ 7950)) ?_
              rintro _ H41 ⟨rfl, hx41f, hx41z⟩
              refine h_rng (fun hrg42 => ?_)
              have hf43 : fr [59] [1858, 1859, 1860] H H41 := fr_t hf hx41f (by decide) (by decide)
              replace hx41z : (H41.1 1826 59) = (H1.1 1826 59) + 1 := hx41z
              refine h_run 0 (pc' := 91) (l' := [(0, .inr (.inr 1826)), (1, .inr (.inr c)), (2, .inl 0), (3, .inl (k : Int)), (4, .inl (dp : Int)), (5, .inl (i : Int)), (6, .inl (H1.1 c i)), (7, .inl (ma (H1.1 1833) (H1.1 1830) (H1.1 c i))), (8, .inl 0)]) (st' := []) rfl ?_
              refine h_run 5 (pc' := 192) (l' := [(0, .inr (.inr 1826)), (1, .inr (.inr c)), (2, .inl 0), (3, .inl (k : Int)), (4, .inl (dp : Int)), (5, .inl (i : Int)), (6, .inl (H1.1 c i)), (7, .inl (ma (H1.1 1833) (H1.1 1830) (H1.1 c i))), (8, .inl 0)]) (st' := [.inl (ma (H1.1 1833) (H1.1 1830) (H1.1 c i)), .inl (dp : Int), .inr (.inr 1859)]) rfl ?_
              skip
              skip
              have g44 : -2147483648 ≤ (H41.1 1826 59) ∧ (H41.1 1826 59) ≤ 2147483647 := hrg42.1 1826 13 59 _ .int rfl rfl
              have hgo : 1 ≤ (H41.1 1826 59) := by unfold lenR at hln; (repeat (first | rw [if_pos (by omega)] at hln | rw [if_neg (by omega)] at hln)); omega
              refine h_ist (c := 1859) (j := dp) (i := (dp : Int)) (x := (ma (H1.1 1833) (H1.1 1830) (H1.1 c i))) rfl rfl (by decide) (by decide) rfl (by omega) (by omega) ?_
              refine h_run 4 (pc' := 201) (l' := [(0, .inr (.inr 1826)), (1, .inr (.inr c)), (2, .inl 0), (3, .inl (k : Int)), (4, .inl (dp : Int)), (5, .inl (i : Int)), (6, .inl (H1.1 c i)), (7, .inl (ma (H1.1 1833) (H1.1 1830) (H1.1 c i))), (8, .inl 0)]) (st' := [.inl 0, .inl (dp : Int), .inr (.inr 1860)]) rfl ?_
              refine h_bst (c := 1860) (j := dp) (i := (dp : Int)) (x := 0) (Or.inr rfl) rfl rfl (by decide) (by decide) rfl (by omega) (show (0 : Int) ≤ 0 ∧ 0 ≤ 1 by omega) ?_
              refine h_run 1 (pc' := 205) (l' := [(0, .inr (.inr 1826)), (1, .inr (.inr c)), (2, .inl 0), (3, .inl (k : Int)), (4, .inl ((dp : Int) + 1)), (5, .inl (i : Int)), (6, .inl (H1.1 c i)), (7, .inl (ma (H1.1 1833) (H1.1 1830) (H1.1 c i))), (8, .inl 0)]) (st' := []) rfl ?_
              refine h_loc [0, 1, 2, 3, 4, 5] rfl ?_
              rw [show ((dp : Int) + 1) = (((dp + 1) : Nat) : Int) by omega]
              exact ih.2 _ (dp + 1) i (fr_a (fr_a hf43 (by decide)) (by decide)) (by omega) (by omega : 1 ≤ (H41.1 1826 59)) (by first | exact Or.inl (show JL9 (ma (H.1 1833) (H.1 1830)) (lenR (H.1 1832) (H.1 1828)) (H.1 c) (up (H41.1 1859) dp (ma (H1.1 1833) (H1.1 1830) (H1.1 c i))) (up (H41.1 1860) dp (0 : Int)) (H41.1 1826 59) (dp + 1) i from (by rw [show (H41.1 1859) = (H1.1 1859) from (hx41f.2.1 1859 (by decide) (by decide)), show (H41.1 1860) = (H1.1 1860) from (hx41f.2.1 1860 (by decide) (by decide))]; rw [show (ma (H1.1 1833) (H1.1 1830) (H1.1 c i)) = 0 by omega]; exact J_leaf hJ hw9 (by omega) (by rw [← eFN, ← eCN, ← es]; unfold lenR; (repeat (first | rw [if_pos (by omega)] | rw [if_neg (by omega)])); omega))) | exact Or.inr (show JM9 (ma (H.1 1833) (H.1 1830)) (lenR (H.1 1832) (H.1 1828)) (H.1 c) (up (H41.1 1859) dp (ma (H1.1 1833) (H1.1 1830) (H1.1 c i))) (up (H41.1 1860) dp (0 : Int)) (H41.1 1826 59) (dp + 1) i from (by rw [show (H41.1 1859) = (H1.1 1859) from (hx41f.2.1 1859 (by decide) (by decide)), show (H41.1 1860) = (H1.1 1860) from (hx41f.2.1 1860 (by decide) (by decide))]; exact J_node hJ hw9 ⟨hae, by omega, by omega⟩ (by first | (rw [if_pos (by omega)]; done) | (rw [if_neg (by omega)]; done)) (by rw [← eFN, ← eCN, ← es]; unfold lenR; (repeat (first | rw [if_pos (by omega)] | rw [if_neg (by omega)])); omega)))) (by omega : 1000 * (k - i) + (dp + 1) < w)
          · refine h_run 2 (pc' := 59) (l' := [(0, .inr (.inr 1826)), (1, .inr (.inr c)), (2, .inl 0), (3, .inl (k : Int)), (4, .inl (dp : Int)), (5, .inl (i : Int)), (6, .inl (H1.1 c i)), (7, .inl (ma (H1.1 1833) (H1.1 1830) (H1.1 c i)))]) (st' := [.inl 0, .inl (i : Int)]) rfl ?_
            refine h_ile (off := 7) (t := 66) rfl rfl (by omega) (by decide) (fun c45 => ?_) (fun c45 => ?_)
            · refine h_run 3 (pc' := 71) (l' := [(0, .inr (.inr 1826)), (1, .inr (.inr c)), (2, .inl 0), (3, .inl (k : Int)), (4, .inl (dp : Int)), (5, .inl (i : Int)), (6, .inl (H1.1 c i)), (7, .inl (ma (H1.1 1833) (H1.1 1830) (H1.1 c i))), (8, .inl 0)]) (st' := [.inl 0]) rfl ?_
              refine h_zeq (off := 9) (t := 80) rfl rfl (by decide) (fun _ => ?_) (fun c => absurd c (by decide))
              refine h_run 1 (pc' := 82) (l' := [(0, .inr (.inr 1826)), (1, .inr (.inr c)), (2, .inl 0), (3, .inl (k : Int)), (4, .inl (dp : Int)), (5, .inl (i : Int)), (6, .inl (H1.1 c i)), (7, .inl (ma (H1.1 1833) (H1.1 1830) (H1.1 c i))), (8, .inl 0)]) (st' := [.inl (H1.1 c i)]) rfl ?_
              refine h_zne (off := 12) (t := 94) rfl rfl (by omega) (fun c46 => ?_) (fun c46 => ?_)
              · refine h_run 2 (pc' := 99) (l' := [(0, .inr (.inr 1826)), (1, .inr (.inr c)), (2, .inl 0), (3, .inl (k : Int)), (4, .inl (dp : Int)), (5, .inl (i : Int)), (6, .inl (H1.1 c i)), (7, .inl (ma (H1.1 1833) (H1.1 1830) (H1.1 c i))), (8, .inl 0)]) (st' := [.inl 1000, .inl (H1.1 c i)]) rfl ?_
                refine h_ilt (off := 52) (t := 151) rfl rfl (by omega) (by decide) (fun c47 => ?_) (fun c47 => ?_)
                · refine h_run 3 (pc' := 156) (l' := [(0, .inr (.inr 1826)), (1, .inr (.inr c)), (2, .inl 0), (3, .inl (k : Int)), (4, .inl (dp : Int)), (5, .inl (i : Int)), (6, .inl (H1.1 c i)), (7, .inl (ma (H1.1 1833) (H1.1 1830) (H1.1 c i))), (8, .inl 0)]) (st' := [.inl 100, .inl (H1.1 c i), .inr (.inr 1826)]) rfl ?_
                  refine h_ilt (off := 16) (t := 172) rfl rfl (by omega) (by decide) (fun c48 => ?_) (fun c48 => ?_)
                  · refine h_run 5 (pc' := 180) (l' := [(0, .inr (.inr 1826)), (1, .inr (.inr c)), (2, .inl 0), (3, .inl (k : Int)), (4, .inl (dp : Int)), (5, .inl (i : Int)), (6, .inl (H1.1 c i)), (7, .inl (ma (H1.1 1833) (H1.1 1830) (H1.1 c i))), (8, .inl 0)]) (st' := [.inl ((H1.1 c i) - 1), .inr (.inr 1828), .inr (.inr 1826)]) rfl ?_
                    refine h_lld (c := 1828) (j := (((H1.1 c i) - 1)).toNat) (i := ((H1.1 c i) - 1)) rfl rfl (by decide) (by omega) (by omega) ?_
                    have g49 : -9223372036854775808 ≤ (H1.1 1828 (((H1.1 c i) - 1)).toNat) ∧ (H1.1 1828 (((H1.1 c i) - 1)).toNat) ≤ 9223372036854775807 := hrg1.2 1828 (((H1.1 c i) - 1)).toNat 16 .long rfl (by omega)
                    have e50 : (H1.1 1828 (((H1.1 c i) - 1)).toNat) = (H.1 1828 (((H1.1 c i) - 1)).toNat) := congrFun (hf.2.1 1828 (by decide) (by decide)) (((H1.1 c i) - 1)).toNat
                    refine h_run 0 (pc' := 181) (l' := [(0, .inr (.inr 1826)), (1, .inr (.inr c)), (2, .inl 0), (3, .inl (k : Int)), (4, .inl (dp : Int)), (5, .inl (i : Int)), (6, .inl (H1.1 c i)), (7, .inl (ma (H1.1 1833) (H1.1 1830) (H1.1 c i))), (8, .inl 0)]) (st' := [.inr (.inl (H1.1 1828 (((H1.1 c i) - 1)).toNat)), .inr (.inr 1826)]) rfl ?_
                    refine h_cv (i := 479) (j := 204) (b := 1826) (M' := mt_204) (xs := [.inr (.inl (H1.1 1828 (((H1.1 c i) - 1)).toNat))]) (rest := []) rfl rfl rfl rfl rfl rfl (Nat.le_of_ble_eq_true rfl) (Nat.le_of_ble_eq_true rfl) (by omega) (n_putName (by omega) (by omega : 0 ≤ (H1.1 1826 59) ∧ (H1.1 1826 59) ≤ 7900)) ?_
                    rintro _ H51 ⟨rfl, hx51f, hx51z⟩
                    refine h_rng (fun hrg52 => ?_)
                    have hf53 : fr [59] [1858, 1859, 1860] H H51 := fr_t hf hx51f (by decide) (by decide)
                    replace hx51z : (H51.1 1826 59) = (H1.1 1826 59) + (cR (H1.1 1828 (((H1.1 c i) - 1)).toNat) 8) := hx51z
                    refine h_run 0 (pc' := 184) (l' := [(0, .inr (.inr 1826)), (1, .inr (.inr c)), (2, .inl 0), (3, .inl (k : Int)), (4, .inl (dp : Int)), (5, .inl (i : Int)), (6, .inl (H1.1 c i)), (7, .inl (ma (H1.1 1833) (H1.1 1830) (H1.1 c i))), (8, .inl 0)]) (st' := []) rfl ?_
                    refine h_run 4 (pc' := 192) (l' := [(0, .inr (.inr 1826)), (1, .inr (.inr c)), (2, .inl 0), (3, .inl (k : Int)), (4, .inl (dp : Int)), (5, .inl (i : Int)), (6, .inl (H1.1 c i)), (7, .inl (ma (H1.1 1833) (H1.1 1830) (H1.1 c i))), (8, .inl 0)]) (st' := [.inl (ma (H1.1 1833) (H1.1 1830) (H1.1 c i)), .inl (dp : Int), .inr (.inr 1859)]) rfl ?_
                    skip
                    skip
                    have g54 : -2147483648 ≤ (H51.1 1826 59) ∧ (H51.1 1826 59) ≤ 2147483647 := hrg52.1 1826 13 59 _ .int rfl rfl
                    have hgo : 1 ≤ (H51.1 1826 59) := by unfold lenR at hln; (repeat (first | rw [if_pos (by omega)] at hln | rw [if_neg (by omega)] at hln)); omega
                    refine h_ist (c := 1859) (j := dp) (i := (dp : Int)) (x := (ma (H1.1 1833) (H1.1 1830) (H1.1 c i))) rfl rfl (by decide) (by decide) rfl (by omega) (by omega) ?_
                    refine h_run 4 (pc' := 201) (l' := [(0, .inr (.inr 1826)), (1, .inr (.inr c)), (2, .inl 0), (3, .inl (k : Int)), (4, .inl (dp : Int)), (5, .inl (i : Int)), (6, .inl (H1.1 c i)), (7, .inl (ma (H1.1 1833) (H1.1 1830) (H1.1 c i))), (8, .inl 0)]) (st' := [.inl 0, .inl (dp : Int), .inr (.inr 1860)]) rfl ?_
                    refine h_bst (c := 1860) (j := dp) (i := (dp : Int)) (x := 0) (Or.inr rfl) rfl rfl (by decide) (by decide) rfl (by omega) (show (0 : Int) ≤ 0 ∧ 0 ≤ 1 by omega) ?_
                    refine h_run 1 (pc' := 205) (l' := [(0, .inr (.inr 1826)), (1, .inr (.inr c)), (2, .inl 0), (3, .inl (k : Int)), (4, .inl ((dp : Int) + 1)), (5, .inl (i : Int)), (6, .inl (H1.1 c i)), (7, .inl (ma (H1.1 1833) (H1.1 1830) (H1.1 c i))), (8, .inl 0)]) (st' := []) rfl ?_
                    refine h_loc [0, 1, 2, 3, 4, 5] rfl ?_
                    rw [show ((dp : Int) + 1) = (((dp + 1) : Nat) : Int) by omega]
                    exact ih.2 _ (dp + 1) i (fr_a (fr_a hf53 (by decide)) (by decide)) (by omega) (by omega : 1 ≤ (H51.1 1826 59)) (by first | exact Or.inl (show JL9 (ma (H.1 1833) (H.1 1830)) (lenR (H.1 1832) (H.1 1828)) (H.1 c) (up (H51.1 1859) dp (ma (H1.1 1833) (H1.1 1830) (H1.1 c i))) (up (H51.1 1860) dp (0 : Int)) (H51.1 1826 59) (dp + 1) i from (by rw [show (H51.1 1859) = (H1.1 1859) from (hx51f.2.1 1859 (by decide) (by decide)), show (H51.1 1860) = (H1.1 1860) from (hx51f.2.1 1860 (by decide) (by decide))]; rw [show (ma (H1.1 1833) (H1.1 1830) (H1.1 c i)) = 0 by omega]; exact J_leaf hJ hw9 (by omega) (by rw [← eFN, ← eCN, ← es]; unfold lenR; (repeat (first | rw [if_pos (by omega)] | rw [if_neg (by omega)])); omega))) | exact Or.inr (show JM9 (ma (H.1 1833) (H.1 1830)) (lenR (H.1 1832) (H.1 1828)) (H.1 c) (up (H51.1 1859) dp (ma (H1.1 1833) (H1.1 1830) (H1.1 c i))) (up (H51.1 1860) dp (0 : Int)) (H51.1 1826 59) (dp + 1) i from (by rw [show (H51.1 1859) = (H1.1 1859) from (hx51f.2.1 1859 (by decide) (by decide)), show (H51.1 1860) = (H1.1 1860) from (hx51f.2.1 1860 (by decide) (by decide))]; exact J_node hJ hw9 ⟨hae, by omega, by omega⟩ (by first | (rw [if_pos (by omega)]; done) | (rw [if_neg (by omega)]; done)) (by rw [← eFN, ← eCN, ← es]; unfold lenR; (repeat (first | rw [if_pos (by omega)] | rw [if_neg (by omega)])); omega)))) (by omega : 1000 * (k - i) + (dp + 1) < w)
                  · refine h_run 5 (pc' := 168) (l' := [(0, .inr (.inr 1826)), (1, .inr (.inr c)), (2, .inl 0), (3, .inl (k : Int)), (4, .inl (dp : Int)), (5, .inl (i : Int)), (6, .inl (H1.1 c i)), (7, .inl (ma (H1.1 1833) (H1.1 1830) (H1.1 c i))), (8, .inl 0)]) (st' := [.inl ((H1.1 c i) - 100), .inr (.inr 1832), .inr (.inr 1826)]) rfl ?_
                    refine h_lld (c := 1832) (j := (((H1.1 c i) - 100)).toNat) (i := ((H1.1 c i) - 100)) rfl rfl (by decide) (by omega) (by omega) ?_
                    have g55 : -9223372036854775808 ≤ (H1.1 1832 (((H1.1 c i) - 100)).toNat) ∧ (H1.1 1832 (((H1.1 c i) - 100)).toNat) ≤ 9223372036854775807 := hrg1.2 1832 (((H1.1 c i) - 100)).toNat 16 .long rfl (by omega)
                    have e56 : (H1.1 1832 (((H1.1 c i) - 100)).toNat) = (H.1 1832 (((H1.1 c i) - 100)).toNat) := congrFun (hf.2.1 1832 (by decide) (by decide)) (((H1.1 c i) - 100)).toNat
                    refine h_run 0 (pc' := 169) (l' := [(0, .inr (.inr 1826)), (1, .inr (.inr c)), (2, .inl 0), (3, .inl (k : Int)), (4, .inl (dp : Int)), (5, .inl (i : Int)), (6, .inl (H1.1 c i)), (7, .inl (ma (H1.1 1833) (H1.1 1830) (H1.1 c i))), (8, .inl 0)]) (st' := [.inr (.inl (H1.1 1832 (((H1.1 c i) - 100)).toNat)), .inr (.inr 1826)]) rfl ?_
                    refine h_run 1 (pc' := 181) (l' := [(0, .inr (.inr 1826)), (1, .inr (.inr c)), (2, .inl 0), (3, .inl (k : Int)), (4, .inl (dp : Int)), (5, .inl (i : Int)), (6, .inl (H1.1 c i)), (7, .inl (ma (H1.1 1833) (H1.1 1830) (H1.1 c i))), (8, .inl 0)]) (st' := [.inr (.inl (H1.1 1832 (((H1.1 c i) - 100)).toNat)), .inr (.inr 1826)]) rfl ?_
                    refine h_cv (i := 479) (j := 204) (b := 1826) (M' := mt_204) (xs := [.inr (.inl (H1.1 1832 (((H1.1 c i) - 100)).toNat))]) (rest := []) rfl rfl rfl rfl rfl rfl (Nat.le_of_ble_eq_true rfl) (Nat.le_of_ble_eq_true rfl) (by omega) (n_putName (by omega) (by omega : 0 ≤ (H1.1 1826 59) ∧ (H1.1 1826 59) ≤ 7900)) ?_
                    rintro _ H57 ⟨rfl, hx57f, hx57z⟩
                    refine h_rng (fun hrg58 => ?_)
                    have hf59 : fr [59] [1858, 1859, 1860] H H57 := fr_t hf hx57f (by decide) (by decide)
                    replace hx57z : (H57.1 1826 59) = (H1.1 1826 59) + (cR (H1.1 1832 (((H1.1 c i) - 100)).toNat) 8) := hx57z
                    refine h_run 0 (pc' := 184) (l' := [(0, .inr (.inr 1826)), (1, .inr (.inr c)), (2, .inl 0), (3, .inl (k : Int)), (4, .inl (dp : Int)), (5, .inl (i : Int)), (6, .inl (H1.1 c i)), (7, .inl (ma (H1.1 1833) (H1.1 1830) (H1.1 c i))), (8, .inl 0)]) (st' := []) rfl ?_
                    refine h_run 4 (pc' := 192) (l' := [(0, .inr (.inr 1826)), (1, .inr (.inr c)), (2, .inl 0), (3, .inl (k : Int)), (4, .inl (dp : Int)), (5, .inl (i : Int)), (6, .inl (H1.1 c i)), (7, .inl (ma (H1.1 1833) (H1.1 1830) (H1.1 c i))), (8, .inl 0)]) (st' := [.inl (ma (H1.1 1833) (H1.1 1830) (H1.1 c i)), .inl (dp : Int), .inr (.inr 1859)]) rfl ?_
                    skip
                    skip
                    have g60 : -2147483648 ≤ (H57.1 1826 59) ∧ (H57.1 1826 59) ≤ 2147483647 := hrg58.1 1826 13 59 _ .int rfl rfl
                    have hgo : 1 ≤ (H57.1 1826 59) := by unfold lenR at hln; (repeat (first | rw [if_pos (by omega)] at hln | rw [if_neg (by omega)] at hln)); omega
                    refine h_ist (c := 1859) (j := dp) (i := (dp : Int)) (x := (ma (H1.1 1833) (H1.1 1830) (H1.1 c i))) rfl rfl (by decide) (by decide) rfl (by omega) (by omega) ?_
                    refine h_run 4 (pc' := 201) (l' := [(0, .inr (.inr 1826)), (1, .inr (.inr c)), (2, .inl 0), (3, .inl (k : Int)), (4, .inl (dp : Int)), (5, .inl (i : Int)), (6, .inl (H1.1 c i)), (7, .inl (ma (H1.1 1833) (H1.1 1830) (H1.1 c i))), (8, .inl 0)]) (st' := [.inl 0, .inl (dp : Int), .inr (.inr 1860)]) rfl ?_
                    refine h_bst (c := 1860) (j := dp) (i := (dp : Int)) (x := 0) (Or.inr rfl) rfl rfl (by decide) (by decide) rfl (by omega) (show (0 : Int) ≤ 0 ∧ 0 ≤ 1 by omega) ?_
                    refine h_run 1 (pc' := 205) (l' := [(0, .inr (.inr 1826)), (1, .inr (.inr c)), (2, .inl 0), (3, .inl (k : Int)), (4, .inl ((dp : Int) + 1)), (5, .inl (i : Int)), (6, .inl (H1.1 c i)), (7, .inl (ma (H1.1 1833) (H1.1 1830) (H1.1 c i))), (8, .inl 0)]) (st' := []) rfl ?_
                    refine h_loc [0, 1, 2, 3, 4, 5] rfl ?_
                    rw [show ((dp : Int) + 1) = (((dp + 1) : Nat) : Int) by omega]
                    exact ih.2 _ (dp + 1) i (fr_a (fr_a hf59 (by decide)) (by decide)) (by omega) (by omega : 1 ≤ (H57.1 1826 59)) (by first | exact Or.inl (show JL9 (ma (H.1 1833) (H.1 1830)) (lenR (H.1 1832) (H.1 1828)) (H.1 c) (up (H57.1 1859) dp (ma (H1.1 1833) (H1.1 1830) (H1.1 c i))) (up (H57.1 1860) dp (0 : Int)) (H57.1 1826 59) (dp + 1) i from (by rw [show (H57.1 1859) = (H1.1 1859) from (hx57f.2.1 1859 (by decide) (by decide)), show (H57.1 1860) = (H1.1 1860) from (hx57f.2.1 1860 (by decide) (by decide))]; rw [show (ma (H1.1 1833) (H1.1 1830) (H1.1 c i)) = 0 by omega]; exact J_leaf hJ hw9 (by omega) (by rw [← eFN, ← eCN, ← es]; unfold lenR; (repeat (first | rw [if_pos (by omega)] | rw [if_neg (by omega)])); omega))) | exact Or.inr (show JM9 (ma (H.1 1833) (H.1 1830)) (lenR (H.1 1832) (H.1 1828)) (H.1 c) (up (H57.1 1859) dp (ma (H1.1 1833) (H1.1 1830) (H1.1 c i))) (up (H57.1 1860) dp (0 : Int)) (H57.1 1826 59) (dp + 1) i from (by rw [show (H57.1 1859) = (H1.1 1859) from (hx57f.2.1 1859 (by decide) (by decide)), show (H57.1 1860) = (H1.1 1860) from (hx57f.2.1 1860 (by decide) (by decide))]; exact J_node hJ hw9 ⟨hae, by omega, by omega⟩ (by first | (rw [if_pos (by omega)]; done) | (rw [if_neg (by omega)]; done)) (by rw [← eFN, ← eCN, ← es]; unfold lenR; (repeat (first | rw [if_pos (by omega)] | rw [if_neg (by omega)])); omega)))) (by omega : 1000 * (k - i) + (dp + 1) < w)
                · refine h_run 3 (pc' := 108) (l' := [(0, .inr (.inr 1826)), (1, .inr (.inr c)), (2, .inl 0), (3, .inl (k : Int)), (4, .inl (dp : Int)), (5, .inl (i : Int)), (6, .inl (H1.1 c i)), (7, .inl (ma (H1.1 1833) (H1.1 1830) (H1.1 c i))), (8, .inl 0)]) (st' := [.inl 2000, .inl (H1.1 c i), .inr (.inr 1826)]) rfl ?_
                  refine h_ilt (off := 8) (t := 116) rfl rfl (by omega) (by decide) (fun c61 => ?_) (fun c61 => ?_)
                  · refine h_run 1 (pc' := 118) (l' := [(0, .inr (.inr 1826)), (1, .inr (.inr c)), (2, .inl 0), (3, .inl (k : Int)), (4, .inl (dp : Int)), (5, .inl (i : Int)), (6, .inl (H1.1 c i)), (7, .inl (ma (H1.1 1833) (H1.1 1830) (H1.1 c i))), (8, .inl 0)]) (st' := [.inl 118, .inr (.inr 1826)]) rfl ?_
                    refine h_cv (i := 473) (j := 203) (b := 1826) (M' := mt_203) (xs := [.inl 118]) (rest := []) rfl rfl rfl rfl rfl rfl (Nat.le_of_ble_eq_true rfl) (Nat.le_of_ble_eq_true rfl) (by omega) (n_letter (by omega) (by omega : 0 ≤ (H1.1 1826 59) ∧ (H1.1 1826 59) ≤ 7950)) ?_
                    rintro _ H62 ⟨rfl, hx62f, hx62z⟩
                    refine h_rng (fun hrg63 => ?_)
                    have hf64 : fr [59] [1858, 1859, 1860] H H62 := fr_t hf hx62f (by decide) (by decide)
                    replace hx62z : (H62.1 1826 59) = (H1.1 1826 59) + 1 := hx62z
                    refine h_run 0 (pc' := 121) (l' := [(0, .inr (.inr 1826)), (1, .inr (.inr c)), (2, .inl 0), (3, .inl (k : Int)), (4, .inl (dp : Int)), (5, .inl (i : Int)), (6, .inl (H1.1 c i)), (7, .inl (ma (H1.1 1833) (H1.1 1830) (H1.1 c i))), (8, .inl 0)]) (st' := []) rfl ?_
                    refine h_run 3 (pc' := 127) (l' := [(0, .inr (.inr 1826)), (1, .inr (.inr c)), (2, .inl 0), (3, .inl (k : Int)), (4, .inl (dp : Int)), (5, .inl (i : Int)), (6, .inl (H1.1 c i)), (7, .inl (ma (H1.1 1833) (H1.1 1830) (H1.1 c i))), (8, .inl 0)]) (st' := [.inl 2000, .inl (H1.1 c i), .inr (.inr 1826)]) rfl ?_
                    refine h_ilt (off := 12) (t := 139) rfl rfl (by omega) (by decide) (fun c65 => ?_) (fun c65 => ?_)
                    · refine h_run 3 (pc' := 145) (l' := [(0, .inr (.inr 1826)), (1, .inr (.inr c)), (2, .inl 0), (3, .inl (k : Int)), (4, .inl (dp : Int)), (5, .inl (i : Int)), (6, .inl (H1.1 c i)), (7, .inl (ma (H1.1 1833) (H1.1 1830) (H1.1 c i))), (8, .inl 0)]) (st' := [.inl ((H1.1 c i) - 1000), .inr (.inr 1826)]) rfl ?_
                      have g66 : -2147483648 ≤ (H62.1 1826 59) ∧ (H62.1 1826 59) ≤ 2147483647 := hrg63.1 1826 13 59 _ .int rfl rfl
                      refine h_cv (i := 476) (j := 205) (b := 1826) (M' := mt_205) (xs := [.inl ((H1.1 c i) - 1000)]) (rest := []) rfl rfl rfl rfl rfl rfl (Nat.le_of_ble_eq_true rfl) (Nat.le_of_ble_eq_true rfl) (by omega) (n_putNumber (by omega) (by omega : 0 ≤ (H62.1 1826 59) ∧ (H62.1 1826 59) ≤ 7900) (by omega)) ?_
                      rintro _ H67 ⟨rfl, hx67f, hx67z⟩
                      refine h_rng (fun hrg68 => ?_)
                      have hf69 : fr [59] [1858, 1859, 1860] H H67 := fr_t hf64 hx67f (by decide) (by decide)
                      replace hx67z : (H67.1 1826 59) = (H62.1 1826 59) + (if 9 < ((H1.1 c i) - 1000) then 2 else 1) := hx67z
                      refine h_run 0 (pc' := 148) (l' := [(0, .inr (.inr 1826)), (1, .inr (.inr c)), (2, .inl 0), (3, .inl (k : Int)), (4, .inl (dp : Int)), (5, .inl (i : Int)), (6, .inl (H1.1 c i)), (7, .inl (ma (H1.1 1833) (H1.1 1830) (H1.1 c i))), (8, .inl 0)]) (st' := []) rfl ?_
                      refine h_run 5 (pc' := 192) (l' := [(0, .inr (.inr 1826)), (1, .inr (.inr c)), (2, .inl 0), (3, .inl (k : Int)), (4, .inl (dp : Int)), (5, .inl (i : Int)), (6, .inl (H1.1 c i)), (7, .inl (ma (H1.1 1833) (H1.1 1830) (H1.1 c i))), (8, .inl 0)]) (st' := [.inl (ma (H1.1 1833) (H1.1 1830) (H1.1 c i)), .inl (dp : Int), .inr (.inr 1859)]) rfl ?_
                      have hnq0 : cR ((H62.1 1828) (H1.1 c i - 1).toNat) 8 = cR ((H1.1 1828) (H1.1 c i - 1).toNat) 8 := by rw [show (H62.1 1828) = (H1.1 1828) from (hx62f.2.1 1828 (by decide) (by decide))]
                      have hnq1 : cR ((H62.1 1832) (H1.1 c i - 100).toNat) 8 = cR ((H1.1 1832) (H1.1 c i - 100).toNat) 8 := by rw [show (H62.1 1832) = (H1.1 1832) from (hx62f.2.1 1832 (by decide) (by decide))]
                      have g70 : -2147483648 ≤ (H67.1 1826 59) ∧ (H67.1 1826 59) ≤ 2147483647 := hrg68.1 1826 13 59 _ .int rfl rfl
                      have hgo : 1 ≤ (H67.1 1826 59) := by unfold lenR at hln; (repeat (first | rw [if_pos (by omega)] at hln | rw [if_neg (by omega)] at hln)); omega
                      refine h_ist (c := 1859) (j := dp) (i := (dp : Int)) (x := (ma (H1.1 1833) (H1.1 1830) (H1.1 c i))) rfl rfl (by decide) (by decide) rfl (by omega) (by omega) ?_
                      refine h_run 4 (pc' := 201) (l' := [(0, .inr (.inr 1826)), (1, .inr (.inr c)), (2, .inl 0), (3, .inl (k : Int)), (4, .inl (dp : Int)), (5, .inl (i : Int)), (6, .inl (H1.1 c i)), (7, .inl (ma (H1.1 1833) (H1.1 1830) (H1.1 c i))), (8, .inl 0)]) (st' := [.inl 0, .inl (dp : Int), .inr (.inr 1860)]) rfl ?_
                      refine h_bst (c := 1860) (j := dp) (i := (dp : Int)) (x := 0) (Or.inr rfl) rfl rfl (by decide) (by decide) rfl (by omega) (show (0 : Int) ≤ 0 ∧ 0 ≤ 1 by omega) ?_
                      refine h_run 1 (pc' := 205) (l' := [(0, .inr (.inr 1826)), (1, .inr (.inr c)), (2, .inl 0), (3, .inl (k : Int)), (4, .inl ((dp : Int) + 1)), (5, .inl (i : Int)), (6, .inl (H1.1 c i)), (7, .inl (ma (H1.1 1833) (H1.1 1830) (H1.1 c i))), (8, .inl 0)]) (st' := []) rfl ?_
                      refine h_loc [0, 1, 2, 3, 4, 5] rfl ?_
                      rw [show ((dp : Int) + 1) = (((dp + 1) : Nat) : Int) by omega]
                      exact ih.2 _ (dp + 1) i (fr_a (fr_a hf69 (by decide)) (by decide)) (by omega) (by omega : 1 ≤ (H67.1 1826 59)) (by first | exact Or.inl (show JL9 (ma (H.1 1833) (H.1 1830)) (lenR (H.1 1832) (H.1 1828)) (H.1 c) (up (H67.1 1859) dp (ma (H1.1 1833) (H1.1 1830) (H1.1 c i))) (up (H67.1 1860) dp (0 : Int)) (H67.1 1826 59) (dp + 1) i from (by rw [show (H67.1 1859) = (H1.1 1859) from ((hx67f.2.1 1859 (by decide) (by decide)).trans (hx62f.2.1 1859 (by decide) (by decide))), show (H67.1 1860) = (H1.1 1860) from ((hx67f.2.1 1860 (by decide) (by decide)).trans (hx62f.2.1 1860 (by decide) (by decide)))]; rw [show (ma (H1.1 1833) (H1.1 1830) (H1.1 c i)) = 0 by omega]; exact J_leaf hJ hw9 (by omega) (by rw [← eFN, ← eCN, ← es]; unfold lenR; (repeat (first | rw [if_pos (by omega)] | rw [if_neg (by omega)])); omega))) | exact Or.inr (show JM9 (ma (H.1 1833) (H.1 1830)) (lenR (H.1 1832) (H.1 1828)) (H.1 c) (up (H67.1 1859) dp (ma (H1.1 1833) (H1.1 1830) (H1.1 c i))) (up (H67.1 1860) dp (0 : Int)) (H67.1 1826 59) (dp + 1) i from (by rw [show (H67.1 1859) = (H1.1 1859) from ((hx67f.2.1 1859 (by decide) (by decide)).trans (hx62f.2.1 1859 (by decide) (by decide))), show (H67.1 1860) = (H1.1 1860) from ((hx67f.2.1 1860 (by decide) (by decide)).trans (hx62f.2.1 1860 (by decide) (by decide)))]; exact J_node hJ hw9 ⟨hae, by omega, by omega⟩ (by first | (rw [if_pos (by omega)]; done) | (rw [if_neg (by omega)]; done)) (by rw [← eFN, ← eCN, ← es]; unfold lenR; (repeat (first | rw [if_pos (by omega)] | rw [if_neg (by omega)])); omega)))) (by omega : 1000 * (k - i) + (dp + 1) < w)
                    · exfalso
                      omega
                  · refine h_run 2 (pc' := 118) (l' := [(0, .inr (.inr 1826)), (1, .inr (.inr c)), (2, .inl 0), (3, .inl (k : Int)), (4, .inl (dp : Int)), (5, .inl (i : Int)), (6, .inl (H1.1 c i)), (7, .inl (ma (H1.1 1833) (H1.1 1830) (H1.1 c i))), (8, .inl 0)]) (st' := [.inl 102, .inr (.inr 1826)]) rfl ?_
                    refine h_cv (i := 473) (j := 203) (b := 1826) (M' := mt_203) (xs := [.inl 102]) (rest := []) rfl rfl rfl rfl rfl rfl (Nat.le_of_ble_eq_true rfl) (Nat.le_of_ble_eq_true rfl) (by omega) (n_letter (by omega) (by omega : 0 ≤ (H1.1 1826 59) ∧ (H1.1 1826 59) ≤ 7950)) ?_
                    rintro _ H71 ⟨rfl, hx71f, hx71z⟩
                    refine h_rng (fun hrg72 => ?_)
                    have hf73 : fr [59] [1858, 1859, 1860] H H71 := fr_t hf hx71f (by decide) (by decide)
                    replace hx71z : (H71.1 1826 59) = (H1.1 1826 59) + 1 := hx71z
                    refine h_run 0 (pc' := 121) (l' := [(0, .inr (.inr 1826)), (1, .inr (.inr c)), (2, .inl 0), (3, .inl (k : Int)), (4, .inl (dp : Int)), (5, .inl (i : Int)), (6, .inl (H1.1 c i)), (7, .inl (ma (H1.1 1833) (H1.1 1830) (H1.1 c i))), (8, .inl 0)]) (st' := []) rfl ?_
                    refine h_run 3 (pc' := 127) (l' := [(0, .inr (.inr 1826)), (1, .inr (.inr c)), (2, .inl 0), (3, .inl (k : Int)), (4, .inl (dp : Int)), (5, .inl (i : Int)), (6, .inl (H1.1 c i)), (7, .inl (ma (H1.1 1833) (H1.1 1830) (H1.1 c i))), (8, .inl 0)]) (st' := [.inl 2000, .inl (H1.1 c i), .inr (.inr 1826)]) rfl ?_
                    refine h_ilt (off := 12) (t := 139) rfl rfl (by omega) (by decide) (fun c74 => ?_) (fun c74 => ?_)
                    · exfalso
                      omega
                    · refine h_run 4 (pc' := 145) (l' := [(0, .inr (.inr 1826)), (1, .inr (.inr c)), (2, .inl 0), (3, .inl (k : Int)), (4, .inl (dp : Int)), (5, .inl (i : Int)), (6, .inl (H1.1 c i)), (7, .inl (ma (H1.1 1833) (H1.1 1830) (H1.1 c i))), (8, .inl 0)]) (st' := [.inl ((H1.1 c i) - 2000), .inr (.inr 1826)]) rfl ?_
                      have g75 : -2147483648 ≤ (H71.1 1826 59) ∧ (H71.1 1826 59) ≤ 2147483647 := hrg72.1 1826 13 59 _ .int rfl rfl
                      refine h_cv (i := 476) (j := 205) (b := 1826) (M' := mt_205) (xs := [.inl ((H1.1 c i) - 2000)]) (rest := []) rfl rfl rfl rfl rfl rfl (Nat.le_of_ble_eq_true rfl) (Nat.le_of_ble_eq_true rfl) (by omega) (n_putNumber (by omega) (by omega : 0 ≤ (H71.1 1826 59) ∧ (H71.1 1826 59) ≤ 7900) (by omega)) ?_
                      rintro _ H76 ⟨rfl, hx76f, hx76z⟩
                      refine h_rng (fun hrg77 => ?_)
                      have hf78 : fr [59] [1858, 1859, 1860] H H76 := fr_t hf73 hx76f (by decide) (by decide)
                      replace hx76z : (H76.1 1826 59) = (H71.1 1826 59) + (if 9 < ((H1.1 c i) - 2000) then 2 else 1) := hx76z
                      refine h_run 0 (pc' := 148) (l' := [(0, .inr (.inr 1826)), (1, .inr (.inr c)), (2, .inl 0), (3, .inl (k : Int)), (4, .inl (dp : Int)), (5, .inl (i : Int)), (6, .inl (H1.1 c i)), (7, .inl (ma (H1.1 1833) (H1.1 1830) (H1.1 c i))), (8, .inl 0)]) (st' := []) rfl ?_
                      refine h_run 5 (pc' := 192) (l' := [(0, .inr (.inr 1826)), (1, .inr (.inr c)), (2, .inl 0), (3, .inl (k : Int)), (4, .inl (dp : Int)), (5, .inl (i : Int)), (6, .inl (H1.1 c i)), (7, .inl (ma (H1.1 1833) (H1.1 1830) (H1.1 c i))), (8, .inl 0)]) (st' := [.inl (ma (H1.1 1833) (H1.1 1830) (H1.1 c i)), .inl (dp : Int), .inr (.inr 1859)]) rfl ?_
                      have hnq0 : cR ((H71.1 1828) (H1.1 c i - 1).toNat) 8 = cR ((H1.1 1828) (H1.1 c i - 1).toNat) 8 := by rw [show (H71.1 1828) = (H1.1 1828) from (hx71f.2.1 1828 (by decide) (by decide))]
                      have hnq1 : cR ((H71.1 1832) (H1.1 c i - 100).toNat) 8 = cR ((H1.1 1832) (H1.1 c i - 100).toNat) 8 := by rw [show (H71.1 1832) = (H1.1 1832) from (hx71f.2.1 1832 (by decide) (by decide))]
                      have g79 : -2147483648 ≤ (H76.1 1826 59) ∧ (H76.1 1826 59) ≤ 2147483647 := hrg77.1 1826 13 59 _ .int rfl rfl
                      have hgo : 1 ≤ (H76.1 1826 59) := by unfold lenR at hln; (repeat (first | rw [if_pos (by omega)] at hln | rw [if_neg (by omega)] at hln)); omega
                      refine h_ist (c := 1859) (j := dp) (i := (dp : Int)) (x := (ma (H1.1 1833) (H1.1 1830) (H1.1 c i))) rfl rfl (by decide) (by decide) rfl (by omega) (by omega) ?_
                      refine h_run 4 (pc' := 201) (l' := [(0, .inr (.inr 1826)), (1, .inr (.inr c)), (2, .inl 0), (3, .inl (k : Int)), (4, .inl (dp : Int)), (5, .inl (i : Int)), (6, .inl (H1.1 c i)), (7, .inl (ma (H1.1 1833) (H1.1 1830) (H1.1 c i))), (8, .inl 0)]) (st' := [.inl 0, .inl (dp : Int), .inr (.inr 1860)]) rfl ?_
                      refine h_bst (c := 1860) (j := dp) (i := (dp : Int)) (x := 0) (Or.inr rfl) rfl rfl (by decide) (by decide) rfl (by omega) (show (0 : Int) ≤ 0 ∧ 0 ≤ 1 by omega) ?_
                      refine h_run 1 (pc' := 205) (l' := [(0, .inr (.inr 1826)), (1, .inr (.inr c)), (2, .inl 0), (3, .inl (k : Int)), (4, .inl ((dp : Int) + 1)), (5, .inl (i : Int)), (6, .inl (H1.1 c i)), (7, .inl (ma (H1.1 1833) (H1.1 1830) (H1.1 c i))), (8, .inl 0)]) (st' := []) rfl ?_
                      refine h_loc [0, 1, 2, 3, 4, 5] rfl ?_
                      rw [show ((dp : Int) + 1) = (((dp + 1) : Nat) : Int) by omega]
                      exact ih.2 _ (dp + 1) i (fr_a (fr_a hf78 (by decide)) (by decide)) (by omega) (by omega : 1 ≤ (H76.1 1826 59)) (by first | exact Or.inl (show JL9 (ma (H.1 1833) (H.1 1830)) (lenR (H.1 1832) (H.1 1828)) (H.1 c) (up (H76.1 1859) dp (ma (H1.1 1833) (H1.1 1830) (H1.1 c i))) (up (H76.1 1860) dp (0 : Int)) (H76.1 1826 59) (dp + 1) i from (by rw [show (H76.1 1859) = (H1.1 1859) from ((hx76f.2.1 1859 (by decide) (by decide)).trans (hx71f.2.1 1859 (by decide) (by decide))), show (H76.1 1860) = (H1.1 1860) from ((hx76f.2.1 1860 (by decide) (by decide)).trans (hx71f.2.1 1860 (by decide) (by decide)))]; rw [show (ma (H1.1 1833) (H1.1 1830) (H1.1 c i)) = 0 by omega]; exact J_leaf hJ hw9 (by omega) (by rw [← eFN, ← eCN, ← es]; unfold lenR; (repeat (first | rw [if_pos (by omega)] | rw [if_neg (by omega)])); omega))) | exact Or.inr (show JM9 (ma (H.1 1833) (H.1 1830)) (lenR (H.1 1832) (H.1 1828)) (H.1 c) (up (H76.1 1859) dp (ma (H1.1 1833) (H1.1 1830) (H1.1 c i))) (up (H76.1 1860) dp (0 : Int)) (H76.1 1826 59) (dp + 1) i from (by rw [show (H76.1 1859) = (H1.1 1859) from ((hx76f.2.1 1859 (by decide) (by decide)).trans (hx71f.2.1 1859 (by decide) (by decide))), show (H76.1 1860) = (H1.1 1860) from ((hx76f.2.1 1860 (by decide) (by decide)).trans (hx71f.2.1 1860 (by decide) (by decide)))]; exact J_node hJ hw9 ⟨hae, by omega, by omega⟩ (by first | (rw [if_pos (by omega)]; done) | (rw [if_neg (by omega)]; done)) (by rw [← eFN, ← eCN, ← es]; unfold lenR; (repeat (first | rw [if_pos (by omega)] | rw [if_neg (by omega)])); omega)))) (by omega : 1000 * (k - i) + (dp + 1) < w)
              · refine h_run 2 (pc' := 88) (l' := [(0, .inr (.inr 1826)), (1, .inr (.inr c)), (2, .inl 0), (3, .inl (k : Int)), (4, .inl (dp : Int)), (5, .inl (i : Int)), (6, .inl (H1.1 c i)), (7, .inl (ma (H1.1 1833) (H1.1 1830) (H1.1 c i))), (8, .inl 0)]) (st' := [.inl 95, .inr (.inr 1826)]) rfl ?_
                refine h_cv (i := 473) (j := 203) (b := 1826) (M' := mt_203) (xs := [.inl 95]) (rest := []) rfl rfl rfl rfl rfl rfl (Nat.le_of_ble_eq_true rfl) (Nat.le_of_ble_eq_true rfl) (by omega) (n_letter (by omega) (by omega : 0 ≤ (H1.1 1826 59) ∧ (H1.1 1826 59) ≤ 7950)) ?_
                rintro _ H80 ⟨rfl, hx80f, hx80z⟩
                refine h_rng (fun hrg81 => ?_)
                have hf82 : fr [59] [1858, 1859, 1860] H H80 := fr_t hf hx80f (by decide) (by decide)
                replace hx80z : (H80.1 1826 59) = (H1.1 1826 59) + 1 := hx80z
                refine h_run 0 (pc' := 91) (l' := [(0, .inr (.inr 1826)), (1, .inr (.inr c)), (2, .inl 0), (3, .inl (k : Int)), (4, .inl (dp : Int)), (5, .inl (i : Int)), (6, .inl (H1.1 c i)), (7, .inl (ma (H1.1 1833) (H1.1 1830) (H1.1 c i))), (8, .inl 0)]) (st' := []) rfl ?_
                refine h_run 5 (pc' := 192) (l' := [(0, .inr (.inr 1826)), (1, .inr (.inr c)), (2, .inl 0), (3, .inl (k : Int)), (4, .inl (dp : Int)), (5, .inl (i : Int)), (6, .inl (H1.1 c i)), (7, .inl (ma (H1.1 1833) (H1.1 1830) (H1.1 c i))), (8, .inl 0)]) (st' := [.inl (ma (H1.1 1833) (H1.1 1830) (H1.1 c i)), .inl (dp : Int), .inr (.inr 1859)]) rfl ?_
                skip
                skip
                have g83 : -2147483648 ≤ (H80.1 1826 59) ∧ (H80.1 1826 59) ≤ 2147483647 := hrg81.1 1826 13 59 _ .int rfl rfl
                have hgo : 1 ≤ (H80.1 1826 59) := by unfold lenR at hln; (repeat (first | rw [if_pos (by omega)] at hln | rw [if_neg (by omega)] at hln)); omega
                refine h_ist (c := 1859) (j := dp) (i := (dp : Int)) (x := (ma (H1.1 1833) (H1.1 1830) (H1.1 c i))) rfl rfl (by decide) (by decide) rfl (by omega) (by omega) ?_
                refine h_run 4 (pc' := 201) (l' := [(0, .inr (.inr 1826)), (1, .inr (.inr c)), (2, .inl 0), (3, .inl (k : Int)), (4, .inl (dp : Int)), (5, .inl (i : Int)), (6, .inl (H1.1 c i)), (7, .inl (ma (H1.1 1833) (H1.1 1830) (H1.1 c i))), (8, .inl 0)]) (st' := [.inl 0, .inl (dp : Int), .inr (.inr 1860)]) rfl ?_
                refine h_bst (c := 1860) (j := dp) (i := (dp : Int)) (x := 0) (Or.inr rfl) rfl rfl (by decide) (by decide) rfl (by omega) (show (0 : Int) ≤ 0 ∧ 0 ≤ 1 by omega) ?_
                refine h_run 1 (pc' := 205) (l' := [(0, .inr (.inr 1826)), (1, .inr (.inr c)), (2, .inl 0), (3, .inl (k : Int)), (4, .inl ((dp : Int) + 1)), (5, .inl (i : Int)), (6, .inl (H1.1 c i)), (7, .inl (ma (H1.1 1833) (H1.1 1830) (H1.1 c i))), (8, .inl 0)]) (st' := []) rfl ?_
                refine h_loc [0, 1, 2, 3, 4, 5] rfl ?_
                rw [show ((dp : Int) + 1) = (((dp + 1) : Nat) : Int) by omega]
                exact ih.2 _ (dp + 1) i (fr_a (fr_a hf82 (by decide)) (by decide)) (by omega) (by omega : 1 ≤ (H80.1 1826 59)) (by first | exact Or.inl (show JL9 (ma (H.1 1833) (H.1 1830)) (lenR (H.1 1832) (H.1 1828)) (H.1 c) (up (H80.1 1859) dp (ma (H1.1 1833) (H1.1 1830) (H1.1 c i))) (up (H80.1 1860) dp (0 : Int)) (H80.1 1826 59) (dp + 1) i from (by rw [show (H80.1 1859) = (H1.1 1859) from (hx80f.2.1 1859 (by decide) (by decide)), show (H80.1 1860) = (H1.1 1860) from (hx80f.2.1 1860 (by decide) (by decide))]; rw [show (ma (H1.1 1833) (H1.1 1830) (H1.1 c i)) = 0 by omega]; exact J_leaf hJ hw9 (by omega) (by rw [← eFN, ← eCN, ← es]; unfold lenR; (repeat (first | rw [if_pos (by omega)] | rw [if_neg (by omega)])); omega))) | exact Or.inr (show JM9 (ma (H.1 1833) (H.1 1830)) (lenR (H.1 1832) (H.1 1828)) (H.1 c) (up (H80.1 1859) dp (ma (H1.1 1833) (H1.1 1830) (H1.1 c i))) (up (H80.1 1860) dp (0 : Int)) (H80.1 1826 59) (dp + 1) i from (by rw [show (H80.1 1859) = (H1.1 1859) from (hx80f.2.1 1859 (by decide) (by decide)), show (H80.1 1860) = (H1.1 1860) from (hx80f.2.1 1860 (by decide) (by decide))]; exact J_node hJ hw9 ⟨hae, by omega, by omega⟩ (by first | (rw [if_pos (by omega)]; done) | (rw [if_neg (by omega)]; done)) (by rw [← eFN, ← eCN, ← es]; unfold lenR; (repeat (first | rw [if_pos (by omega)] | rw [if_neg (by omega)])); omega)))) (by omega : 1000 * (k - i) + (dp + 1) < w)
            · refine h_run 4 (pc' := 71) (l' := [(0, .inr (.inr 1826)), (1, .inr (.inr c)), (2, .inl 0), (3, .inl (k : Int)), (4, .inl (dp : Int)), (5, .inl (i : Int)), (6, .inl (H1.1 c i)), (7, .inl (ma (H1.1 1833) (H1.1 1830) (H1.1 c i))), (8, .inl 1)]) (st' := [.inl 1]) rfl ?_
              refine h_zeq (off := 9) (t := 80) rfl rfl (by decide) (fun c => absurd c (by decide)) (fun _ => ?_)
              refine h_run 2 (pc' := 77) (l' := [(0, .inr (.inr 1826)), (1, .inr (.inr c)), (2, .inl 0), (3, .inl (k : Int)), (4, .inl (dp : Int)), (5, .inl (i : Int)), (6, .inl (H1.1 c i)), (7, .inl (ma (H1.1 1833) (H1.1 1830) (H1.1 c i))), (8, .inl 1)]) (st' := [.inl 40, .inr (.inr 1826)]) rfl ?_
              refine h_cv (i := 473) (j := 203) (b := 1826) (M' := mt_203) (xs := [.inl 40]) (rest := []) rfl rfl rfl rfl rfl rfl (Nat.le_of_ble_eq_true rfl) (Nat.le_of_ble_eq_true rfl) (by omega) (n_letter (by omega) (by omega : 0 ≤ (H1.1 1826 59) ∧ (H1.1 1826 59) ≤ 7950)) ?_
              rintro _ H84 ⟨rfl, hx84f, hx84z⟩
              refine h_rng (fun hrg85 => ?_)
              have hf86 : fr [59] [1858, 1859, 1860] H H84 := fr_t hf hx84f (by decide) (by decide)
              replace hx84z : (H84.1 1826 59) = (H1.1 1826 59) + 1 := hx84z
              refine h_run 0 (pc' := 80) (l' := [(0, .inr (.inr 1826)), (1, .inr (.inr c)), (2, .inl 0), (3, .inl (k : Int)), (4, .inl (dp : Int)), (5, .inl (i : Int)), (6, .inl (H1.1 c i)), (7, .inl (ma (H1.1 1833) (H1.1 1830) (H1.1 c i))), (8, .inl 1)]) (st' := []) rfl ?_
              refine h_run 1 (pc' := 82) (l' := [(0, .inr (.inr 1826)), (1, .inr (.inr c)), (2, .inl 0), (3, .inl (k : Int)), (4, .inl (dp : Int)), (5, .inl (i : Int)), (6, .inl (H1.1 c i)), (7, .inl (ma (H1.1 1833) (H1.1 1830) (H1.1 c i))), (8, .inl 1)]) (st' := [.inl (H1.1 c i)]) rfl ?_
              refine h_zne (off := 12) (t := 94) rfl rfl (by omega) (fun c87 => ?_) (fun c87 => ?_)
              · refine h_run 2 (pc' := 99) (l' := [(0, .inr (.inr 1826)), (1, .inr (.inr c)), (2, .inl 0), (3, .inl (k : Int)), (4, .inl (dp : Int)), (5, .inl (i : Int)), (6, .inl (H1.1 c i)), (7, .inl (ma (H1.1 1833) (H1.1 1830) (H1.1 c i))), (8, .inl 1)]) (st' := [.inl 1000, .inl (H1.1 c i)]) rfl ?_
                refine h_ilt (off := 52) (t := 151) rfl rfl (by omega) (by decide) (fun c88 => ?_) (fun c88 => ?_)
                · refine h_run 3 (pc' := 156) (l' := [(0, .inr (.inr 1826)), (1, .inr (.inr c)), (2, .inl 0), (3, .inl (k : Int)), (4, .inl (dp : Int)), (5, .inl (i : Int)), (6, .inl (H1.1 c i)), (7, .inl (ma (H1.1 1833) (H1.1 1830) (H1.1 c i))), (8, .inl 1)]) (st' := [.inl 100, .inl (H1.1 c i), .inr (.inr 1826)]) rfl ?_
                  refine h_ilt (off := 16) (t := 172) rfl rfl (by omega) (by decide) (fun c89 => ?_) (fun c89 => ?_)
                  · refine h_run 5 (pc' := 180) (l' := [(0, .inr (.inr 1826)), (1, .inr (.inr c)), (2, .inl 0), (3, .inl (k : Int)), (4, .inl (dp : Int)), (5, .inl (i : Int)), (6, .inl (H1.1 c i)), (7, .inl (ma (H1.1 1833) (H1.1 1830) (H1.1 c i))), (8, .inl 1)]) (st' := [.inl ((H1.1 c i) - 1), .inr (.inr 1828), .inr (.inr 1826)]) rfl ?_
                    refine h_lld (c := 1828) (j := (((H1.1 c i) - 1)).toNat) (i := ((H1.1 c i) - 1)) rfl rfl (by decide) (by omega) (by omega) ?_
                    have g90 : -9223372036854775808 ≤ (H84.1 1828 (((H1.1 c i) - 1)).toNat) ∧ (H84.1 1828 (((H1.1 c i) - 1)).toNat) ≤ 9223372036854775807 := hrg85.2 1828 (((H1.1 c i) - 1)).toNat 16 .long rfl (by omega)
                    have e91 : (H84.1 1828 (((H1.1 c i) - 1)).toNat) = (H1.1 1828 (((H1.1 c i) - 1)).toNat) := congrFun (hx84f.2.1 1828 (by decide) (by decide)) (((H1.1 c i) - 1)).toNat
                    have e92 : (H1.1 1828 (((H1.1 c i) - 1)).toNat) = (H.1 1828 (((H1.1 c i) - 1)).toNat) := congrFun (hf.2.1 1828 (by decide) (by decide)) (((H1.1 c i) - 1)).toNat
                    refine h_run 0 (pc' := 181) (l' := [(0, .inr (.inr 1826)), (1, .inr (.inr c)), (2, .inl 0), (3, .inl (k : Int)), (4, .inl (dp : Int)), (5, .inl (i : Int)), (6, .inl (H1.1 c i)), (7, .inl (ma (H1.1 1833) (H1.1 1830) (H1.1 c i))), (8, .inl 1)]) (st' := [.inr (.inl (H84.1 1828 (((H1.1 c i) - 1)).toNat)), .inr (.inr 1826)]) rfl ?_
                    have g93 : -2147483648 ≤ (H84.1 1826 59) ∧ (H84.1 1826 59) ≤ 2147483647 := hrg85.1 1826 13 59 _ .int rfl rfl
                    refine h_cv (i := 479) (j := 204) (b := 1826) (M' := mt_204) (xs := [.inr (.inl (H84.1 1828 (((H1.1 c i) - 1)).toNat))]) (rest := []) rfl rfl rfl rfl rfl rfl (Nat.le_of_ble_eq_true rfl) (Nat.le_of_ble_eq_true rfl) (by omega) (n_putName (by omega) (by omega : 0 ≤ (H84.1 1826 59) ∧ (H84.1 1826 59) ≤ 7900)) ?_
                    rintro _ H94 ⟨rfl, hx94f, hx94z⟩
                    refine h_rng (fun hrg95 => ?_)
                    have hf96 : fr [59] [1858, 1859, 1860] H H94 := fr_t hf86 hx94f (by decide) (by decide)
                    replace hx94z : (H94.1 1826 59) = (H84.1 1826 59) + (cR (H84.1 1828 (((H1.1 c i) - 1)).toNat) 8) := hx94z
                    refine h_run 0 (pc' := 184) (l' := [(0, .inr (.inr 1826)), (1, .inr (.inr c)), (2, .inl 0), (3, .inl (k : Int)), (4, .inl (dp : Int)), (5, .inl (i : Int)), (6, .inl (H1.1 c i)), (7, .inl (ma (H1.1 1833) (H1.1 1830) (H1.1 c i))), (8, .inl 1)]) (st' := []) rfl ?_
                    refine h_run 4 (pc' := 192) (l' := [(0, .inr (.inr 1826)), (1, .inr (.inr c)), (2, .inl 0), (3, .inl (k : Int)), (4, .inl (dp : Int)), (5, .inl (i : Int)), (6, .inl (H1.1 c i)), (7, .inl (ma (H1.1 1833) (H1.1 1830) (H1.1 c i))), (8, .inl 1)]) (st' := [.inl (ma (H1.1 1833) (H1.1 1830) (H1.1 c i)), .inl (dp : Int), .inr (.inr 1859)]) rfl ?_
                    have hnq0 : cR ((H84.1 1828) (H1.1 c i - 1).toNat) 8 = cR ((H1.1 1828) (H1.1 c i - 1).toNat) 8 := by rw [show (H84.1 1828) = (H1.1 1828) from (hx84f.2.1 1828 (by decide) (by decide))]
                    have hnq1 : cR ((H84.1 1832) (H1.1 c i - 100).toNat) 8 = cR ((H1.1 1832) (H1.1 c i - 100).toNat) 8 := by rw [show (H84.1 1832) = (H1.1 1832) from (hx84f.2.1 1832 (by decide) (by decide))]
                    have g97 : -2147483648 ≤ (H94.1 1826 59) ∧ (H94.1 1826 59) ≤ 2147483647 := hrg95.1 1826 13 59 _ .int rfl rfl
                    have hgo : 1 ≤ (H94.1 1826 59) := by unfold lenR at hln; (repeat (first | rw [if_pos (by omega)] at hln | rw [if_neg (by omega)] at hln)); omega
                    refine h_ist (c := 1859) (j := dp) (i := (dp : Int)) (x := (ma (H1.1 1833) (H1.1 1830) (H1.1 c i))) rfl rfl (by decide) (by decide) rfl (by omega) (by omega) ?_
                    refine h_run 4 (pc' := 201) (l' := [(0, .inr (.inr 1826)), (1, .inr (.inr c)), (2, .inl 0), (3, .inl (k : Int)), (4, .inl (dp : Int)), (5, .inl (i : Int)), (6, .inl (H1.1 c i)), (7, .inl (ma (H1.1 1833) (H1.1 1830) (H1.1 c i))), (8, .inl 1)]) (st' := [.inl 1, .inl (dp : Int), .inr (.inr 1860)]) rfl ?_
                    refine h_bst (c := 1860) (j := dp) (i := (dp : Int)) (x := 1) (Or.inr rfl) rfl rfl (by decide) (by decide) rfl (by omega) (show (0 : Int) ≤ 1 ∧ 1 ≤ 1 by omega) ?_
                    refine h_run 1 (pc' := 205) (l' := [(0, .inr (.inr 1826)), (1, .inr (.inr c)), (2, .inl 0), (3, .inl (k : Int)), (4, .inl ((dp : Int) + 1)), (5, .inl (i : Int)), (6, .inl (H1.1 c i)), (7, .inl (ma (H1.1 1833) (H1.1 1830) (H1.1 c i))), (8, .inl 1)]) (st' := []) rfl ?_
                    refine h_loc [0, 1, 2, 3, 4, 5] rfl ?_
                    rw [show ((dp : Int) + 1) = (((dp + 1) : Nat) : Int) by omega]
                    exact ih.2 _ (dp + 1) i (fr_a (fr_a hf96 (by decide)) (by decide)) (by omega) (by omega : 1 ≤ (H94.1 1826 59)) (by first | exact Or.inl (show JL9 (ma (H.1 1833) (H.1 1830)) (lenR (H.1 1832) (H.1 1828)) (H.1 c) (up (H94.1 1859) dp (ma (H1.1 1833) (H1.1 1830) (H1.1 c i))) (up (H94.1 1860) dp (1 : Int)) (H94.1 1826 59) (dp + 1) i from (by rw [show (H94.1 1859) = (H1.1 1859) from ((hx94f.2.1 1859 (by decide) (by decide)).trans (hx84f.2.1 1859 (by decide) (by decide))), show (H94.1 1860) = (H1.1 1860) from ((hx94f.2.1 1860 (by decide) (by decide)).trans (hx84f.2.1 1860 (by decide) (by decide)))]; rw [show (ma (H1.1 1833) (H1.1 1830) (H1.1 c i)) = 0 by omega]; exact J_leaf hJ hw9 (by omega) (by rw [← eFN, ← eCN, ← es]; unfold lenR; (repeat (first | rw [if_pos (by omega)] | rw [if_neg (by omega)])); omega))) | exact Or.inr (show JM9 (ma (H.1 1833) (H.1 1830)) (lenR (H.1 1832) (H.1 1828)) (H.1 c) (up (H94.1 1859) dp (ma (H1.1 1833) (H1.1 1830) (H1.1 c i))) (up (H94.1 1860) dp (1 : Int)) (H94.1 1826 59) (dp + 1) i from (by rw [show (H94.1 1859) = (H1.1 1859) from ((hx94f.2.1 1859 (by decide) (by decide)).trans (hx84f.2.1 1859 (by decide) (by decide))), show (H94.1 1860) = (H1.1 1860) from ((hx94f.2.1 1860 (by decide) (by decide)).trans (hx84f.2.1 1860 (by decide) (by decide)))]; exact J_node hJ hw9 ⟨hae, by omega, by omega⟩ (by first | (rw [if_pos (by omega)]; done) | (rw [if_neg (by omega)]; done)) (by rw [← eFN, ← eCN, ← es]; unfold lenR; (repeat (first | rw [if_pos (by omega)] | rw [if_neg (by omega)])); omega)))) (by omega : 1000 * (k - i) + (dp + 1) < w)
                  · refine h_run 5 (pc' := 168) (l' := [(0, .inr (.inr 1826)), (1, .inr (.inr c)), (2, .inl 0), (3, .inl (k : Int)), (4, .inl (dp : Int)), (5, .inl (i : Int)), (6, .inl (H1.1 c i)), (7, .inl (ma (H1.1 1833) (H1.1 1830) (H1.1 c i))), (8, .inl 1)]) (st' := [.inl ((H1.1 c i) - 100), .inr (.inr 1832), .inr (.inr 1826)]) rfl ?_
                    refine h_lld (c := 1832) (j := (((H1.1 c i) - 100)).toNat) (i := ((H1.1 c i) - 100)) rfl rfl (by decide) (by omega) (by omega) ?_
                    have g98 : -9223372036854775808 ≤ (H84.1 1832 (((H1.1 c i) - 100)).toNat) ∧ (H84.1 1832 (((H1.1 c i) - 100)).toNat) ≤ 9223372036854775807 := hrg85.2 1832 (((H1.1 c i) - 100)).toNat 16 .long rfl (by omega)
                    have e99 : (H84.1 1832 (((H1.1 c i) - 100)).toNat) = (H1.1 1832 (((H1.1 c i) - 100)).toNat) := congrFun (hx84f.2.1 1832 (by decide) (by decide)) (((H1.1 c i) - 100)).toNat
                    have e100 : (H1.1 1832 (((H1.1 c i) - 100)).toNat) = (H.1 1832 (((H1.1 c i) - 100)).toNat) := congrFun (hf.2.1 1832 (by decide) (by decide)) (((H1.1 c i) - 100)).toNat
                    refine h_run 0 (pc' := 169) (l' := [(0, .inr (.inr 1826)), (1, .inr (.inr c)), (2, .inl 0), (3, .inl (k : Int)), (4, .inl (dp : Int)), (5, .inl (i : Int)), (6, .inl (H1.1 c i)), (7, .inl (ma (H1.1 1833) (H1.1 1830) (H1.1 c i))), (8, .inl 1)]) (st' := [.inr (.inl (H84.1 1832 (((H1.1 c i) - 100)).toNat)), .inr (.inr 1826)]) rfl ?_
                    refine h_run 1 (pc' := 181) (l' := [(0, .inr (.inr 1826)), (1, .inr (.inr c)), (2, .inl 0), (3, .inl (k : Int)), (4, .inl (dp : Int)), (5, .inl (i : Int)), (6, .inl (H1.1 c i)), (7, .inl (ma (H1.1 1833) (H1.1 1830) (H1.1 c i))), (8, .inl 1)]) (st' := [.inr (.inl (H84.1 1832 (((H1.1 c i) - 100)).toNat)), .inr (.inr 1826)]) rfl ?_
                    have g101 : -2147483648 ≤ (H84.1 1826 59) ∧ (H84.1 1826 59) ≤ 2147483647 := hrg85.1 1826 13 59 _ .int rfl rfl
                    refine h_cv (i := 479) (j := 204) (b := 1826) (M' := mt_204) (xs := [.inr (.inl (H84.1 1832 (((H1.1 c i) - 100)).toNat))]) (rest := []) rfl rfl rfl rfl rfl rfl (Nat.le_of_ble_eq_true rfl) (Nat.le_of_ble_eq_true rfl) (by omega) (n_putName (by omega) (by omega : 0 ≤ (H84.1 1826 59) ∧ (H84.1 1826 59) ≤ 7900)) ?_
                    rintro _ H102 ⟨rfl, hx102f, hx102z⟩
                    refine h_rng (fun hrg103 => ?_)
                    have hf104 : fr [59] [1858, 1859, 1860] H H102 := fr_t hf86 hx102f (by decide) (by decide)
                    replace hx102z : (H102.1 1826 59) = (H84.1 1826 59) + (cR (H84.1 1832 (((H1.1 c i) - 100)).toNat) 8) := hx102z
                    refine h_run 0 (pc' := 184) (l' := [(0, .inr (.inr 1826)), (1, .inr (.inr c)), (2, .inl 0), (3, .inl (k : Int)), (4, .inl (dp : Int)), (5, .inl (i : Int)), (6, .inl (H1.1 c i)), (7, .inl (ma (H1.1 1833) (H1.1 1830) (H1.1 c i))), (8, .inl 1)]) (st' := []) rfl ?_
                    refine h_run 4 (pc' := 192) (l' := [(0, .inr (.inr 1826)), (1, .inr (.inr c)), (2, .inl 0), (3, .inl (k : Int)), (4, .inl (dp : Int)), (5, .inl (i : Int)), (6, .inl (H1.1 c i)), (7, .inl (ma (H1.1 1833) (H1.1 1830) (H1.1 c i))), (8, .inl 1)]) (st' := [.inl (ma (H1.1 1833) (H1.1 1830) (H1.1 c i)), .inl (dp : Int), .inr (.inr 1859)]) rfl ?_
                    have hnq0 : cR ((H84.1 1828) (H1.1 c i - 1).toNat) 8 = cR ((H1.1 1828) (H1.1 c i - 1).toNat) 8 := by rw [show (H84.1 1828) = (H1.1 1828) from (hx84f.2.1 1828 (by decide) (by decide))]
                    have hnq1 : cR ((H84.1 1832) (H1.1 c i - 100).toNat) 8 = cR ((H1.1 1832) (H1.1 c i - 100).toNat) 8 := by rw [show (H84.1 1832) = (H1.1 1832) from (hx84f.2.1 1832 (by decide) (by decide))]
                    have g105 : -2147483648 ≤ (H102.1 1826 59) ∧ (H102.1 1826 59) ≤ 2147483647 := hrg103.1 1826 13 59 _ .int rfl rfl
                    have hgo : 1 ≤ (H102.1 1826 59) := by unfold lenR at hln; (repeat (first | rw [if_pos (by omega)] at hln | rw [if_neg (by omega)] at hln)); omega
                    refine h_ist (c := 1859) (j := dp) (i := (dp : Int)) (x := (ma (H1.1 1833) (H1.1 1830) (H1.1 c i))) rfl rfl (by decide) (by decide) rfl (by omega) (by omega) ?_
                    refine h_run 4 (pc' := 201) (l' := [(0, .inr (.inr 1826)), (1, .inr (.inr c)), (2, .inl 0), (3, .inl (k : Int)), (4, .inl (dp : Int)), (5, .inl (i : Int)), (6, .inl (H1.1 c i)), (7, .inl (ma (H1.1 1833) (H1.1 1830) (H1.1 c i))), (8, .inl 1)]) (st' := [.inl 1, .inl (dp : Int), .inr (.inr 1860)]) rfl ?_
                    refine h_bst (c := 1860) (j := dp) (i := (dp : Int)) (x := 1) (Or.inr rfl) rfl rfl (by decide) (by decide) rfl (by omega) (show (0 : Int) ≤ 1 ∧ 1 ≤ 1 by omega) ?_
                    refine h_run 1 (pc' := 205) (l' := [(0, .inr (.inr 1826)), (1, .inr (.inr c)), (2, .inl 0), (3, .inl (k : Int)), (4, .inl ((dp : Int) + 1)), (5, .inl (i : Int)), (6, .inl (H1.1 c i)), (7, .inl (ma (H1.1 1833) (H1.1 1830) (H1.1 c i))), (8, .inl 1)]) (st' := []) rfl ?_
                    refine h_loc [0, 1, 2, 3, 4, 5] rfl ?_
                    rw [show ((dp : Int) + 1) = (((dp + 1) : Nat) : Int) by omega]
                    exact ih.2 _ (dp + 1) i (fr_a (fr_a hf104 (by decide)) (by decide)) (by omega) (by omega : 1 ≤ (H102.1 1826 59)) (by first | exact Or.inl (show JL9 (ma (H.1 1833) (H.1 1830)) (lenR (H.1 1832) (H.1 1828)) (H.1 c) (up (H102.1 1859) dp (ma (H1.1 1833) (H1.1 1830) (H1.1 c i))) (up (H102.1 1860) dp (1 : Int)) (H102.1 1826 59) (dp + 1) i from (by rw [show (H102.1 1859) = (H1.1 1859) from ((hx102f.2.1 1859 (by decide) (by decide)).trans (hx84f.2.1 1859 (by decide) (by decide))), show (H102.1 1860) = (H1.1 1860) from ((hx102f.2.1 1860 (by decide) (by decide)).trans (hx84f.2.1 1860 (by decide) (by decide)))]; rw [show (ma (H1.1 1833) (H1.1 1830) (H1.1 c i)) = 0 by omega]; exact J_leaf hJ hw9 (by omega) (by rw [← eFN, ← eCN, ← es]; unfold lenR; (repeat (first | rw [if_pos (by omega)] | rw [if_neg (by omega)])); omega))) | exact Or.inr (show JM9 (ma (H.1 1833) (H.1 1830)) (lenR (H.1 1832) (H.1 1828)) (H.1 c) (up (H102.1 1859) dp (ma (H1.1 1833) (H1.1 1830) (H1.1 c i))) (up (H102.1 1860) dp (1 : Int)) (H102.1 1826 59) (dp + 1) i from (by rw [show (H102.1 1859) = (H1.1 1859) from ((hx102f.2.1 1859 (by decide) (by decide)).trans (hx84f.2.1 1859 (by decide) (by decide))), show (H102.1 1860) = (H1.1 1860) from ((hx102f.2.1 1860 (by decide) (by decide)).trans (hx84f.2.1 1860 (by decide) (by decide)))]; exact J_node hJ hw9 ⟨hae, by omega, by omega⟩ (by first | (rw [if_pos (by omega)]; done) | (rw [if_neg (by omega)]; done)) (by rw [← eFN, ← eCN, ← es]; unfold lenR; (repeat (first | rw [if_pos (by omega)] | rw [if_neg (by omega)])); omega)))) (by omega : 1000 * (k - i) + (dp + 1) < w)
                · refine h_run 3 (pc' := 108) (l' := [(0, .inr (.inr 1826)), (1, .inr (.inr c)), (2, .inl 0), (3, .inl (k : Int)), (4, .inl (dp : Int)), (5, .inl (i : Int)), (6, .inl (H1.1 c i)), (7, .inl (ma (H1.1 1833) (H1.1 1830) (H1.1 c i))), (8, .inl 1)]) (st' := [.inl 2000, .inl (H1.1 c i), .inr (.inr 1826)]) rfl ?_
                  refine h_ilt (off := 8) (t := 116) rfl rfl (by omega) (by decide) (fun c106 => ?_) (fun c106 => ?_)
                  · refine h_run 1 (pc' := 118) (l' := [(0, .inr (.inr 1826)), (1, .inr (.inr c)), (2, .inl 0), (3, .inl (k : Int)), (4, .inl (dp : Int)), (5, .inl (i : Int)), (6, .inl (H1.1 c i)), (7, .inl (ma (H1.1 1833) (H1.1 1830) (H1.1 c i))), (8, .inl 1)]) (st' := [.inl 118, .inr (.inr 1826)]) rfl ?_
                    have g107 : -2147483648 ≤ (H84.1 1826 59) ∧ (H84.1 1826 59) ≤ 2147483647 := hrg85.1 1826 13 59 _ .int rfl rfl
                    refine h_cv (i := 473) (j := 203) (b := 1826) (M' := mt_203) (xs := [.inl 118]) (rest := []) rfl rfl rfl rfl rfl rfl (Nat.le_of_ble_eq_true rfl) (Nat.le_of_ble_eq_true rfl) (by omega) (n_letter (by omega) (by omega : 0 ≤ (H84.1 1826 59) ∧ (H84.1 1826 59) ≤ 7950)) ?_
                    rintro _ H108 ⟨rfl, hx108f, hx108z⟩
                    refine h_rng (fun hrg109 => ?_)
                    have hf110 : fr [59] [1858, 1859, 1860] H H108 := fr_t hf86 hx108f (by decide) (by decide)
                    replace hx108z : (H108.1 1826 59) = (H84.1 1826 59) + 1 := hx108z
                    refine h_run 0 (pc' := 121) (l' := [(0, .inr (.inr 1826)), (1, .inr (.inr c)), (2, .inl 0), (3, .inl (k : Int)), (4, .inl (dp : Int)), (5, .inl (i : Int)), (6, .inl (H1.1 c i)), (7, .inl (ma (H1.1 1833) (H1.1 1830) (H1.1 c i))), (8, .inl 1)]) (st' := []) rfl ?_
                    refine h_run 3 (pc' := 127) (l' := [(0, .inr (.inr 1826)), (1, .inr (.inr c)), (2, .inl 0), (3, .inl (k : Int)), (4, .inl (dp : Int)), (5, .inl (i : Int)), (6, .inl (H1.1 c i)), (7, .inl (ma (H1.1 1833) (H1.1 1830) (H1.1 c i))), (8, .inl 1)]) (st' := [.inl 2000, .inl (H1.1 c i), .inr (.inr 1826)]) rfl ?_
                    refine h_ilt (off := 12) (t := 139) rfl rfl (by omega) (by decide) (fun c111 => ?_) (fun c111 => ?_)
                    · refine h_run 3 (pc' := 145) (l' := [(0, .inr (.inr 1826)), (1, .inr (.inr c)), (2, .inl 0), (3, .inl (k : Int)), (4, .inl (dp : Int)), (5, .inl (i : Int)), (6, .inl (H1.1 c i)), (7, .inl (ma (H1.1 1833) (H1.1 1830) (H1.1 c i))), (8, .inl 1)]) (st' := [.inl ((H1.1 c i) - 1000), .inr (.inr 1826)]) rfl ?_
                      have g112 : -2147483648 ≤ (H108.1 1826 59) ∧ (H108.1 1826 59) ≤ 2147483647 := hrg109.1 1826 13 59 _ .int rfl rfl
                      refine h_cv (i := 476) (j := 205) (b := 1826) (M' := mt_205) (xs := [.inl ((H1.1 c i) - 1000)]) (rest := []) rfl rfl rfl rfl rfl rfl (Nat.le_of_ble_eq_true rfl) (Nat.le_of_ble_eq_true rfl) (by omega) (n_putNumber (by omega) (by omega : 0 ≤ (H108.1 1826 59) ∧ (H108.1 1826 59) ≤ 7900) (by omega)) ?_
                      rintro _ H113 ⟨rfl, hx113f, hx113z⟩
                      refine h_rng (fun hrg114 => ?_)
                      have hf115 : fr [59] [1858, 1859, 1860] H H113 := fr_t hf110 hx113f (by decide) (by decide)
                      replace hx113z : (H113.1 1826 59) = (H108.1 1826 59) + (if 9 < ((H1.1 c i) - 1000) then 2 else 1) := hx113z
                      refine h_run 0 (pc' := 148) (l' := [(0, .inr (.inr 1826)), (1, .inr (.inr c)), (2, .inl 0), (3, .inl (k : Int)), (4, .inl (dp : Int)), (5, .inl (i : Int)), (6, .inl (H1.1 c i)), (7, .inl (ma (H1.1 1833) (H1.1 1830) (H1.1 c i))), (8, .inl 1)]) (st' := []) rfl ?_
                      refine h_run 5 (pc' := 192) (l' := [(0, .inr (.inr 1826)), (1, .inr (.inr c)), (2, .inl 0), (3, .inl (k : Int)), (4, .inl (dp : Int)), (5, .inl (i : Int)), (6, .inl (H1.1 c i)), (7, .inl (ma (H1.1 1833) (H1.1 1830) (H1.1 c i))), (8, .inl 1)]) (st' := [.inl (ma (H1.1 1833) (H1.1 1830) (H1.1 c i)), .inl (dp : Int), .inr (.inr 1859)]) rfl ?_
                      have hnq0 : cR ((H108.1 1828) (H1.1 c i - 1).toNat) 8 = cR ((H1.1 1828) (H1.1 c i - 1).toNat) 8 := by rw [show (H108.1 1828) = (H1.1 1828) from ((hx108f.2.1 1828 (by decide) (by decide)).trans (hx84f.2.1 1828 (by decide) (by decide)))]
                      have hnq1 : cR ((H108.1 1832) (H1.1 c i - 100).toNat) 8 = cR ((H1.1 1832) (H1.1 c i - 100).toNat) 8 := by rw [show (H108.1 1832) = (H1.1 1832) from ((hx108f.2.1 1832 (by decide) (by decide)).trans (hx84f.2.1 1832 (by decide) (by decide)))]
                      have g116 : -2147483648 ≤ (H113.1 1826 59) ∧ (H113.1 1826 59) ≤ 2147483647 := hrg114.1 1826 13 59 _ .int rfl rfl
                      have hgo : 1 ≤ (H113.1 1826 59) := by unfold lenR at hln; (repeat (first | rw [if_pos (by omega)] at hln | rw [if_neg (by omega)] at hln)); omega
                      refine h_ist (c := 1859) (j := dp) (i := (dp : Int)) (x := (ma (H1.1 1833) (H1.1 1830) (H1.1 c i))) rfl rfl (by decide) (by decide) rfl (by omega) (by omega) ?_
                      refine h_run 4 (pc' := 201) (l' := [(0, .inr (.inr 1826)), (1, .inr (.inr c)), (2, .inl 0), (3, .inl (k : Int)), (4, .inl (dp : Int)), (5, .inl (i : Int)), (6, .inl (H1.1 c i)), (7, .inl (ma (H1.1 1833) (H1.1 1830) (H1.1 c i))), (8, .inl 1)]) (st' := [.inl 1, .inl (dp : Int), .inr (.inr 1860)]) rfl ?_
                      refine h_bst (c := 1860) (j := dp) (i := (dp : Int)) (x := 1) (Or.inr rfl) rfl rfl (by decide) (by decide) rfl (by omega) (show (0 : Int) ≤ 1 ∧ 1 ≤ 1 by omega) ?_
                      refine h_run 1 (pc' := 205) (l' := [(0, .inr (.inr 1826)), (1, .inr (.inr c)), (2, .inl 0), (3, .inl (k : Int)), (4, .inl ((dp : Int) + 1)), (5, .inl (i : Int)), (6, .inl (H1.1 c i)), (7, .inl (ma (H1.1 1833) (H1.1 1830) (H1.1 c i))), (8, .inl 1)]) (st' := []) rfl ?_
                      refine h_loc [0, 1, 2, 3, 4, 5] rfl ?_
                      rw [show ((dp : Int) + 1) = (((dp + 1) : Nat) : Int) by omega]
                      exact ih.2 _ (dp + 1) i (fr_a (fr_a hf115 (by decide)) (by decide)) (by omega) (by omega : 1 ≤ (H113.1 1826 59)) (by first | exact Or.inl (show JL9 (ma (H.1 1833) (H.1 1830)) (lenR (H.1 1832) (H.1 1828)) (H.1 c) (up (H113.1 1859) dp (ma (H1.1 1833) (H1.1 1830) (H1.1 c i))) (up (H113.1 1860) dp (1 : Int)) (H113.1 1826 59) (dp + 1) i from (by rw [show (H113.1 1859) = (H1.1 1859) from (((hx113f.2.1 1859 (by decide) (by decide)).trans (hx108f.2.1 1859 (by decide) (by decide))).trans (hx84f.2.1 1859 (by decide) (by decide))), show (H113.1 1860) = (H1.1 1860) from (((hx113f.2.1 1860 (by decide) (by decide)).trans (hx108f.2.1 1860 (by decide) (by decide))).trans (hx84f.2.1 1860 (by decide) (by decide)))]; rw [show (ma (H1.1 1833) (H1.1 1830) (H1.1 c i)) = 0 by omega]; exact J_leaf hJ hw9 (by omega) (by rw [← eFN, ← eCN, ← es]; unfold lenR; (repeat (first | rw [if_pos (by omega)] | rw [if_neg (by omega)])); omega))) | exact Or.inr (show JM9 (ma (H.1 1833) (H.1 1830)) (lenR (H.1 1832) (H.1 1828)) (H.1 c) (up (H113.1 1859) dp (ma (H1.1 1833) (H1.1 1830) (H1.1 c i))) (up (H113.1 1860) dp (1 : Int)) (H113.1 1826 59) (dp + 1) i from (by rw [show (H113.1 1859) = (H1.1 1859) from (((hx113f.2.1 1859 (by decide) (by decide)).trans (hx108f.2.1 1859 (by decide) (by decide))).trans (hx84f.2.1 1859 (by decide) (by decide))), show (H113.1 1860) = (H1.1 1860) from (((hx113f.2.1 1860 (by decide) (by decide)).trans (hx108f.2.1 1860 (by decide) (by decide))).trans (hx84f.2.1 1860 (by decide) (by decide)))]; exact J_node hJ hw9 ⟨hae, by omega, by omega⟩ (by first | (rw [if_pos (by omega)]; done) | (rw [if_neg (by omega)]; done)) (by rw [← eFN, ← eCN, ← es]; unfold lenR; (repeat (first | rw [if_pos (by omega)] | rw [if_neg (by omega)])); omega)))) (by omega : 1000 * (k - i) + (dp + 1) < w)
                    · exfalso
                      omega
                  · refine h_run 2 (pc' := 118) (l' := [(0, .inr (.inr 1826)), (1, .inr (.inr c)), (2, .inl 0), (3, .inl (k : Int)), (4, .inl (dp : Int)), (5, .inl (i : Int)), (6, .inl (H1.1 c i)), (7, .inl (ma (H1.1 1833) (H1.1 1830) (H1.1 c i))), (8, .inl 1)]) (st' := [.inl 102, .inr (.inr 1826)]) rfl ?_
                    have g117 : -2147483648 ≤ (H84.1 1826 59) ∧ (H84.1 1826 59) ≤ 2147483647 := hrg85.1 1826 13 59 _ .int rfl rfl
                    refine h_cv (i := 473) (j := 203) (b := 1826) (M' := mt_203) (xs := [.inl 102]) (rest := []) rfl rfl rfl rfl rfl rfl (Nat.le_of_ble_eq_true rfl) (Nat.le_of_ble_eq_true rfl) (by omega) (n_letter (by omega) (by omega : 0 ≤ (H84.1 1826 59) ∧ (H84.1 1826 59) ≤ 7950)) ?_
                    rintro _ H118 ⟨rfl, hx118f, hx118z⟩
                    refine h_rng (fun hrg119 => ?_)
                    have hf120 : fr [59] [1858, 1859, 1860] H H118 := fr_t hf86 hx118f (by decide) (by decide)
                    replace hx118z : (H118.1 1826 59) = (H84.1 1826 59) + 1 := hx118z
                    refine h_run 0 (pc' := 121) (l' := [(0, .inr (.inr 1826)), (1, .inr (.inr c)), (2, .inl 0), (3, .inl (k : Int)), (4, .inl (dp : Int)), (5, .inl (i : Int)), (6, .inl (H1.1 c i)), (7, .inl (ma (H1.1 1833) (H1.1 1830) (H1.1 c i))), (8, .inl 1)]) (st' := []) rfl ?_
                    refine h_run 3 (pc' := 127) (l' := [(0, .inr (.inr 1826)), (1, .inr (.inr c)), (2, .inl 0), (3, .inl (k : Int)), (4, .inl (dp : Int)), (5, .inl (i : Int)), (6, .inl (H1.1 c i)), (7, .inl (ma (H1.1 1833) (H1.1 1830) (H1.1 c i))), (8, .inl 1)]) (st' := [.inl 2000, .inl (H1.1 c i), .inr (.inr 1826)]) rfl ?_
                    refine h_ilt (off := 12) (t := 139) rfl rfl (by omega) (by decide) (fun c121 => ?_) (fun c121 => ?_)
                    · exfalso
                      omega
                    · refine h_run 4 (pc' := 145) (l' := [(0, .inr (.inr 1826)), (1, .inr (.inr c)), (2, .inl 0), (3, .inl (k : Int)), (4, .inl (dp : Int)), (5, .inl (i : Int)), (6, .inl (H1.1 c i)), (7, .inl (ma (H1.1 1833) (H1.1 1830) (H1.1 c i))), (8, .inl 1)]) (st' := [.inl ((H1.1 c i) - 2000), .inr (.inr 1826)]) rfl ?_
                      have g122 : -2147483648 ≤ (H118.1 1826 59) ∧ (H118.1 1826 59) ≤ 2147483647 := hrg119.1 1826 13 59 _ .int rfl rfl
                      refine h_cv (i := 476) (j := 205) (b := 1826) (M' := mt_205) (xs := [.inl ((H1.1 c i) - 2000)]) (rest := []) rfl rfl rfl rfl rfl rfl (Nat.le_of_ble_eq_true rfl) (Nat.le_of_ble_eq_true rfl) (by omega) (n_putNumber (by omega) (by omega : 0 ≤ (H118.1 1826 59) ∧ (H118.1 1826 59) ≤ 7900) (by omega)) ?_
                      rintro _ H123 ⟨rfl, hx123f, hx123z⟩
                      refine h_rng (fun hrg124 => ?_)
                      have hf125 : fr [59] [1858, 1859, 1860] H H123 := fr_t hf120 hx123f (by decide) (by decide)
                      replace hx123z : (H123.1 1826 59) = (H118.1 1826 59) + (if 9 < ((H1.1 c i) - 2000) then 2 else 1) := hx123z
                      refine h_run 0 (pc' := 148) (l' := [(0, .inr (.inr 1826)), (1, .inr (.inr c)), (2, .inl 0), (3, .inl (k : Int)), (4, .inl (dp : Int)), (5, .inl (i : Int)), (6, .inl (H1.1 c i)), (7, .inl (ma (H1.1 1833) (H1.1 1830) (H1.1 c i))), (8, .inl 1)]) (st' := []) rfl ?_
                      refine h_run 5 (pc' := 192) (l' := [(0, .inr (.inr 1826)), (1, .inr (.inr c)), (2, .inl 0), (3, .inl (k : Int)), (4, .inl (dp : Int)), (5, .inl (i : Int)), (6, .inl (H1.1 c i)), (7, .inl (ma (H1.1 1833) (H1.1 1830) (H1.1 c i))), (8, .inl 1)]) (st' := [.inl (ma (H1.1 1833) (H1.1 1830) (H1.1 c i)), .inl (dp : Int), .inr (.inr 1859)]) rfl ?_
                      have hnq0 : cR ((H118.1 1828) (H1.1 c i - 1).toNat) 8 = cR ((H1.1 1828) (H1.1 c i - 1).toNat) 8 := by rw [show (H118.1 1828) = (H1.1 1828) from ((hx118f.2.1 1828 (by decide) (by decide)).trans (hx84f.2.1 1828 (by decide) (by decide)))]
                      have hnq1 : cR ((H118.1 1832) (H1.1 c i - 100).toNat) 8 = cR ((H1.1 1832) (H1.1 c i - 100).toNat) 8 := by rw [show (H118.1 1832) = (H1.1 1832) from ((hx118f.2.1 1832 (by decide) (by decide)).trans (hx84f.2.1 1832 (by decide) (by decide)))]
                      have g126 : -2147483648 ≤ (H123.1 1826 59) ∧ (H123.1 1826 59) ≤ 2147483647 := hrg124.1 1826 13 59 _ .int rfl rfl
                      have hgo : 1 ≤ (H123.1 1826 59) := by unfold lenR at hln; (repeat (first | rw [if_pos (by omega)] at hln | rw [if_neg (by omega)] at hln)); omega
                      refine h_ist (c := 1859) (j := dp) (i := (dp : Int)) (x := (ma (H1.1 1833) (H1.1 1830) (H1.1 c i))) rfl rfl (by decide) (by decide) rfl (by omega) (by omega) ?_
                      refine h_run 4 (pc' := 201) (l' := [(0, .inr (.inr 1826)), (1, .inr (.inr c)), (2, .inl 0), (3, .inl (k : Int)), (4, .inl (dp : Int)), (5, .inl (i : Int)), (6, .inl (H1.1 c i)), (7, .inl (ma (H1.1 1833) (H1.1 1830) (H1.1 c i))), (8, .inl 1)]) (st' := [.inl 1, .inl (dp : Int), .inr (.inr 1860)]) rfl ?_
                      refine h_bst (c := 1860) (j := dp) (i := (dp : Int)) (x := 1) (Or.inr rfl) rfl rfl (by decide) (by decide) rfl (by omega) (show (0 : Int) ≤ 1 ∧ 1 ≤ 1 by omega) ?_
                      refine h_run 1 (pc' := 205) (l' := [(0, .inr (.inr 1826)), (1, .inr (.inr c)), (2, .inl 0), (3, .inl (k : Int)), (4, .inl ((dp : Int) + 1)), (5, .inl (i : Int)), (6, .inl (H1.1 c i)), (7, .inl (ma (H1.1 1833) (H1.1 1830) (H1.1 c i))), (8, .inl 1)]) (st' := []) rfl ?_
                      refine h_loc [0, 1, 2, 3, 4, 5] rfl ?_
                      rw [show ((dp : Int) + 1) = (((dp + 1) : Nat) : Int) by omega]
                      exact ih.2 _ (dp + 1) i (fr_a (fr_a hf125 (by decide)) (by decide)) (by omega) (by omega : 1 ≤ (H123.1 1826 59)) (by first | exact Or.inl (show JL9 (ma (H.1 1833) (H.1 1830)) (lenR (H.1 1832) (H.1 1828)) (H.1 c) (up (H123.1 1859) dp (ma (H1.1 1833) (H1.1 1830) (H1.1 c i))) (up (H123.1 1860) dp (1 : Int)) (H123.1 1826 59) (dp + 1) i from (by rw [show (H123.1 1859) = (H1.1 1859) from (((hx123f.2.1 1859 (by decide) (by decide)).trans (hx118f.2.1 1859 (by decide) (by decide))).trans (hx84f.2.1 1859 (by decide) (by decide))), show (H123.1 1860) = (H1.1 1860) from (((hx123f.2.1 1860 (by decide) (by decide)).trans (hx118f.2.1 1860 (by decide) (by decide))).trans (hx84f.2.1 1860 (by decide) (by decide)))]; rw [show (ma (H1.1 1833) (H1.1 1830) (H1.1 c i)) = 0 by omega]; exact J_leaf hJ hw9 (by omega) (by rw [← eFN, ← eCN, ← es]; unfold lenR; (repeat (first | rw [if_pos (by omega)] | rw [if_neg (by omega)])); omega))) | exact Or.inr (show JM9 (ma (H.1 1833) (H.1 1830)) (lenR (H.1 1832) (H.1 1828)) (H.1 c) (up (H123.1 1859) dp (ma (H1.1 1833) (H1.1 1830) (H1.1 c i))) (up (H123.1 1860) dp (1 : Int)) (H123.1 1826 59) (dp + 1) i from (by rw [show (H123.1 1859) = (H1.1 1859) from (((hx123f.2.1 1859 (by decide) (by decide)).trans (hx118f.2.1 1859 (by decide) (by decide))).trans (hx84f.2.1 1859 (by decide) (by decide))), show (H123.1 1860) = (H1.1 1860) from (((hx123f.2.1 1860 (by decide) (by decide)).trans (hx118f.2.1 1860 (by decide) (by decide))).trans (hx84f.2.1 1860 (by decide) (by decide)))]; exact J_node hJ hw9 ⟨hae, by omega, by omega⟩ (by first | (rw [if_pos (by omega)]; done) | (rw [if_neg (by omega)]; done)) (by rw [← eFN, ← eCN, ← es]; unfold lenR; (repeat (first | rw [if_pos (by omega)] | rw [if_neg (by omega)])); omega)))) (by omega : 1000 * (k - i) + (dp + 1) < w)
              · refine h_run 2 (pc' := 88) (l' := [(0, .inr (.inr 1826)), (1, .inr (.inr c)), (2, .inl 0), (3, .inl (k : Int)), (4, .inl (dp : Int)), (5, .inl (i : Int)), (6, .inl (H1.1 c i)), (7, .inl (ma (H1.1 1833) (H1.1 1830) (H1.1 c i))), (8, .inl 1)]) (st' := [.inl 95, .inr (.inr 1826)]) rfl ?_
                have g127 : -2147483648 ≤ (H84.1 1826 59) ∧ (H84.1 1826 59) ≤ 2147483647 := hrg85.1 1826 13 59 _ .int rfl rfl
                refine h_cv (i := 473) (j := 203) (b := 1826) (M' := mt_203) (xs := [.inl 95]) (rest := []) rfl rfl rfl rfl rfl rfl (Nat.le_of_ble_eq_true rfl) (Nat.le_of_ble_eq_true rfl) (by omega) (n_letter (by omega) (by omega : 0 ≤ (H84.1 1826 59) ∧ (H84.1 1826 59) ≤ 7950)) ?_
                rintro _ H128 ⟨rfl, hx128f, hx128z⟩
                refine h_rng (fun hrg129 => ?_)
                have hf130 : fr [59] [1858, 1859, 1860] H H128 := fr_t hf86 hx128f (by decide) (by decide)
                replace hx128z : (H128.1 1826 59) = (H84.1 1826 59) + 1 := hx128z
                refine h_run 0 (pc' := 91) (l' := [(0, .inr (.inr 1826)), (1, .inr (.inr c)), (2, .inl 0), (3, .inl (k : Int)), (4, .inl (dp : Int)), (5, .inl (i : Int)), (6, .inl (H1.1 c i)), (7, .inl (ma (H1.1 1833) (H1.1 1830) (H1.1 c i))), (8, .inl 1)]) (st' := []) rfl ?_
                refine h_run 5 (pc' := 192) (l' := [(0, .inr (.inr 1826)), (1, .inr (.inr c)), (2, .inl 0), (3, .inl (k : Int)), (4, .inl (dp : Int)), (5, .inl (i : Int)), (6, .inl (H1.1 c i)), (7, .inl (ma (H1.1 1833) (H1.1 1830) (H1.1 c i))), (8, .inl 1)]) (st' := [.inl (ma (H1.1 1833) (H1.1 1830) (H1.1 c i)), .inl (dp : Int), .inr (.inr 1859)]) rfl ?_
                have hnq0 : cR ((H84.1 1828) (H1.1 c i - 1).toNat) 8 = cR ((H1.1 1828) (H1.1 c i - 1).toNat) 8 := by rw [show (H84.1 1828) = (H1.1 1828) from (hx84f.2.1 1828 (by decide) (by decide))]
                have hnq1 : cR ((H84.1 1832) (H1.1 c i - 100).toNat) 8 = cR ((H1.1 1832) (H1.1 c i - 100).toNat) 8 := by rw [show (H84.1 1832) = (H1.1 1832) from (hx84f.2.1 1832 (by decide) (by decide))]
                have g131 : -2147483648 ≤ (H128.1 1826 59) ∧ (H128.1 1826 59) ≤ 2147483647 := hrg129.1 1826 13 59 _ .int rfl rfl
                have hgo : 1 ≤ (H128.1 1826 59) := by unfold lenR at hln; (repeat (first | rw [if_pos (by omega)] at hln | rw [if_neg (by omega)] at hln)); omega
                refine h_ist (c := 1859) (j := dp) (i := (dp : Int)) (x := (ma (H1.1 1833) (H1.1 1830) (H1.1 c i))) rfl rfl (by decide) (by decide) rfl (by omega) (by omega) ?_
                refine h_run 4 (pc' := 201) (l' := [(0, .inr (.inr 1826)), (1, .inr (.inr c)), (2, .inl 0), (3, .inl (k : Int)), (4, .inl (dp : Int)), (5, .inl (i : Int)), (6, .inl (H1.1 c i)), (7, .inl (ma (H1.1 1833) (H1.1 1830) (H1.1 c i))), (8, .inl 1)]) (st' := [.inl 1, .inl (dp : Int), .inr (.inr 1860)]) rfl ?_
                refine h_bst (c := 1860) (j := dp) (i := (dp : Int)) (x := 1) (Or.inr rfl) rfl rfl (by decide) (by decide) rfl (by omega) (show (0 : Int) ≤ 1 ∧ 1 ≤ 1 by omega) ?_
                refine h_run 1 (pc' := 205) (l' := [(0, .inr (.inr 1826)), (1, .inr (.inr c)), (2, .inl 0), (3, .inl (k : Int)), (4, .inl ((dp : Int) + 1)), (5, .inl (i : Int)), (6, .inl (H1.1 c i)), (7, .inl (ma (H1.1 1833) (H1.1 1830) (H1.1 c i))), (8, .inl 1)]) (st' := []) rfl ?_
                refine h_loc [0, 1, 2, 3, 4, 5] rfl ?_
                rw [show ((dp : Int) + 1) = (((dp + 1) : Nat) : Int) by omega]
                exact ih.2 _ (dp + 1) i (fr_a (fr_a hf130 (by decide)) (by decide)) (by omega) (by omega : 1 ≤ (H128.1 1826 59)) (by first | exact Or.inl (show JL9 (ma (H.1 1833) (H.1 1830)) (lenR (H.1 1832) (H.1 1828)) (H.1 c) (up (H128.1 1859) dp (ma (H1.1 1833) (H1.1 1830) (H1.1 c i))) (up (H128.1 1860) dp (1 : Int)) (H128.1 1826 59) (dp + 1) i from (by rw [show (H128.1 1859) = (H1.1 1859) from ((hx128f.2.1 1859 (by decide) (by decide)).trans (hx84f.2.1 1859 (by decide) (by decide))), show (H128.1 1860) = (H1.1 1860) from ((hx128f.2.1 1860 (by decide) (by decide)).trans (hx84f.2.1 1860 (by decide) (by decide)))]; rw [show (ma (H1.1 1833) (H1.1 1830) (H1.1 c i)) = 0 by omega]; exact J_leaf hJ hw9 (by omega) (by rw [← eFN, ← eCN, ← es]; unfold lenR; (repeat (first | rw [if_pos (by omega)] | rw [if_neg (by omega)])); omega))) | exact Or.inr (show JM9 (ma (H.1 1833) (H.1 1830)) (lenR (H.1 1832) (H.1 1828)) (H.1 c) (up (H128.1 1859) dp (ma (H1.1 1833) (H1.1 1830) (H1.1 c i))) (up (H128.1 1860) dp (1 : Int)) (H128.1 1826 59) (dp + 1) i from (by rw [show (H128.1 1859) = (H1.1 1859) from ((hx128f.2.1 1859 (by decide) (by decide)).trans (hx84f.2.1 1859 (by decide) (by decide))), show (H128.1 1860) = (H1.1 1860) from ((hx128f.2.1 1860 (by decide) (by decide)).trans (hx84f.2.1 1860 (by decide) (by decide)))]; exact J_node hJ hw9 ⟨hae, by omega, by omega⟩ (by first | (rw [if_pos (by omega)]; done) | (rw [if_neg (by omega)]; done)) (by rw [← eFN, ← eCN, ← es]; unfold lenR; (repeat (first | rw [if_pos (by omega)] | rw [if_neg (by omega)])); omega)))) (by omega : 1000 * (k - i) + (dp + 1) < w)
        · refine h_run 2 (pc' := 48) (l' := [(0, .inr (.inr 1826)), (1, .inr (.inr c)), (2, .inl 0), (3, .inl (k : Int)), (4, .inl (dp : Int)), (5, .inl (i : Int)), (6, .inl (H1.1 c i)), (7, .inl (ma (H1.1 1833) (H1.1 1830) (H1.1 c i)))]) (st' := [.inl 32, .inr (.inr 1826)]) rfl ?_
          refine h_cv (i := 473) (j := 203) (b := 1826) (M' := mt_203) (xs := [.inl 32]) (rest := []) rfl rfl rfl rfl rfl rfl (Nat.le_of_ble_eq_true rfl) (Nat.le_of_ble_eq_true rfl) (by omega) (n_letter (by omega) (by omega : 0 ≤ (H1.1 1826 59) ∧ (H1.1 1826 59) ≤ 7950)) ?_
          rintro _ H132 ⟨rfl, hx132f, hx132z⟩
          refine h_rng (fun hrg133 => ?_)
          have hf134 : fr [59] [1858, 1859, 1860] H H132 := fr_t hf hx132f (by decide) (by decide)
          replace hx132z : (H132.1 1826 59) = (H1.1 1826 59) + 1 := hx132z
          refine h_run 0 (pc' := 51) (l' := [(0, .inr (.inr 1826)), (1, .inr (.inr c)), (2, .inl 0), (3, .inl (k : Int)), (4, .inl (dp : Int)), (5, .inl (i : Int)), (6, .inl (H1.1 c i)), (7, .inl (ma (H1.1 1833) (H1.1 1830) (H1.1 c i)))]) (st' := []) rfl ?_
          refine h_run 1 (pc' := 53) (l' := [(0, .inr (.inr 1826)), (1, .inr (.inr c)), (2, .inl 0), (3, .inl (k : Int)), (4, .inl (dp : Int)), (5, .inl (i : Int)), (6, .inl (H1.1 c i)), (7, .inl (ma (H1.1 1833) (H1.1 1830) (H1.1 c i)))]) (st' := [.inl (ma (H1.1 1833) (H1.1 1830) (H1.1 c i))]) rfl ?_
          refine h_zle (off := 13) (t := 66) rfl rfl (by omega) (fun c135 => ?_) (fun c135 => ?_)
          · refine h_run 3 (pc' := 71) (l' := [(0, .inr (.inr 1826)), (1, .inr (.inr c)), (2, .inl 0), (3, .inl (k : Int)), (4, .inl (dp : Int)), (5, .inl (i : Int)), (6, .inl (H1.1 c i)), (7, .inl (ma (H1.1 1833) (H1.1 1830) (H1.1 c i))), (8, .inl 0)]) (st' := [.inl 0]) rfl ?_
            refine h_zeq (off := 9) (t := 80) rfl rfl (by decide) (fun _ => ?_) (fun c => absurd c (by decide))
            refine h_run 1 (pc' := 82) (l' := [(0, .inr (.inr 1826)), (1, .inr (.inr c)), (2, .inl 0), (3, .inl (k : Int)), (4, .inl (dp : Int)), (5, .inl (i : Int)), (6, .inl (H1.1 c i)), (7, .inl (ma (H1.1 1833) (H1.1 1830) (H1.1 c i))), (8, .inl 0)]) (st' := [.inl (H1.1 c i)]) rfl ?_
            refine h_zne (off := 12) (t := 94) rfl rfl (by omega) (fun c136 => ?_) (fun c136 => ?_)
            · refine h_run 2 (pc' := 99) (l' := [(0, .inr (.inr 1826)), (1, .inr (.inr c)), (2, .inl 0), (3, .inl (k : Int)), (4, .inl (dp : Int)), (5, .inl (i : Int)), (6, .inl (H1.1 c i)), (7, .inl (ma (H1.1 1833) (H1.1 1830) (H1.1 c i))), (8, .inl 0)]) (st' := [.inl 1000, .inl (H1.1 c i)]) rfl ?_
              refine h_ilt (off := 52) (t := 151) rfl rfl (by omega) (by decide) (fun c137 => ?_) (fun c137 => ?_)
              · refine h_run 3 (pc' := 156) (l' := [(0, .inr (.inr 1826)), (1, .inr (.inr c)), (2, .inl 0), (3, .inl (k : Int)), (4, .inl (dp : Int)), (5, .inl (i : Int)), (6, .inl (H1.1 c i)), (7, .inl (ma (H1.1 1833) (H1.1 1830) (H1.1 c i))), (8, .inl 0)]) (st' := [.inl 100, .inl (H1.1 c i), .inr (.inr 1826)]) rfl ?_
                refine h_ilt (off := 16) (t := 172) rfl rfl (by omega) (by decide) (fun c138 => ?_) (fun c138 => ?_)
                · refine h_run 5 (pc' := 180) (l' := [(0, .inr (.inr 1826)), (1, .inr (.inr c)), (2, .inl 0), (3, .inl (k : Int)), (4, .inl (dp : Int)), (5, .inl (i : Int)), (6, .inl (H1.1 c i)), (7, .inl (ma (H1.1 1833) (H1.1 1830) (H1.1 c i))), (8, .inl 0)]) (st' := [.inl ((H1.1 c i) - 1), .inr (.inr 1828), .inr (.inr 1826)]) rfl ?_
                  refine h_lld (c := 1828) (j := (((H1.1 c i) - 1)).toNat) (i := ((H1.1 c i) - 1)) rfl rfl (by decide) (by omega) (by omega) ?_
                  have g139 : -9223372036854775808 ≤ (H132.1 1828 (((H1.1 c i) - 1)).toNat) ∧ (H132.1 1828 (((H1.1 c i) - 1)).toNat) ≤ 9223372036854775807 := hrg133.2 1828 (((H1.1 c i) - 1)).toNat 16 .long rfl (by omega)
                  have e140 : (H132.1 1828 (((H1.1 c i) - 1)).toNat) = (H1.1 1828 (((H1.1 c i) - 1)).toNat) := congrFun (hx132f.2.1 1828 (by decide) (by decide)) (((H1.1 c i) - 1)).toNat
                  have e141 : (H1.1 1828 (((H1.1 c i) - 1)).toNat) = (H.1 1828 (((H1.1 c i) - 1)).toNat) := congrFun (hf.2.1 1828 (by decide) (by decide)) (((H1.1 c i) - 1)).toNat
                  refine h_run 0 (pc' := 181) (l' := [(0, .inr (.inr 1826)), (1, .inr (.inr c)), (2, .inl 0), (3, .inl (k : Int)), (4, .inl (dp : Int)), (5, .inl (i : Int)), (6, .inl (H1.1 c i)), (7, .inl (ma (H1.1 1833) (H1.1 1830) (H1.1 c i))), (8, .inl 0)]) (st' := [.inr (.inl (H132.1 1828 (((H1.1 c i) - 1)).toNat)), .inr (.inr 1826)]) rfl ?_
                  have g142 : -2147483648 ≤ (H132.1 1826 59) ∧ (H132.1 1826 59) ≤ 2147483647 := hrg133.1 1826 13 59 _ .int rfl rfl
                  refine h_cv (i := 479) (j := 204) (b := 1826) (M' := mt_204) (xs := [.inr (.inl (H132.1 1828 (((H1.1 c i) - 1)).toNat))]) (rest := []) rfl rfl rfl rfl rfl rfl (Nat.le_of_ble_eq_true rfl) (Nat.le_of_ble_eq_true rfl) (by omega) (n_putName (by omega) (by omega : 0 ≤ (H132.1 1826 59) ∧ (H132.1 1826 59) ≤ 7900)) ?_
                  rintro _ H143 ⟨rfl, hx143f, hx143z⟩
                  refine h_rng (fun hrg144 => ?_)
                  have hf145 : fr [59] [1858, 1859, 1860] H H143 := fr_t hf134 hx143f (by decide) (by decide)
                  replace hx143z : (H143.1 1826 59) = (H132.1 1826 59) + (cR (H132.1 1828 (((H1.1 c i) - 1)).toNat) 8) := hx143z
                  refine h_run 0 (pc' := 184) (l' := [(0, .inr (.inr 1826)), (1, .inr (.inr c)), (2, .inl 0), (3, .inl (k : Int)), (4, .inl (dp : Int)), (5, .inl (i : Int)), (6, .inl (H1.1 c i)), (7, .inl (ma (H1.1 1833) (H1.1 1830) (H1.1 c i))), (8, .inl 0)]) (st' := []) rfl ?_
                  refine h_run 4 (pc' := 192) (l' := [(0, .inr (.inr 1826)), (1, .inr (.inr c)), (2, .inl 0), (3, .inl (k : Int)), (4, .inl (dp : Int)), (5, .inl (i : Int)), (6, .inl (H1.1 c i)), (7, .inl (ma (H1.1 1833) (H1.1 1830) (H1.1 c i))), (8, .inl 0)]) (st' := [.inl (ma (H1.1 1833) (H1.1 1830) (H1.1 c i)), .inl (dp : Int), .inr (.inr 1859)]) rfl ?_
                  have hnq0 : cR ((H132.1 1828) (H1.1 c i - 1).toNat) 8 = cR ((H1.1 1828) (H1.1 c i - 1).toNat) 8 := by rw [show (H132.1 1828) = (H1.1 1828) from (hx132f.2.1 1828 (by decide) (by decide))]
                  have hnq1 : cR ((H132.1 1832) (H1.1 c i - 100).toNat) 8 = cR ((H1.1 1832) (H1.1 c i - 100).toNat) 8 := by rw [show (H132.1 1832) = (H1.1 1832) from (hx132f.2.1 1832 (by decide) (by decide))]
                  have g146 : -2147483648 ≤ (H143.1 1826 59) ∧ (H143.1 1826 59) ≤ 2147483647 := hrg144.1 1826 13 59 _ .int rfl rfl
                  have hgo : 1 ≤ (H143.1 1826 59) := by unfold lenR at hln; (repeat (first | rw [if_pos (by omega)] at hln | rw [if_neg (by omega)] at hln)); omega
                  refine h_ist (c := 1859) (j := dp) (i := (dp : Int)) (x := (ma (H1.1 1833) (H1.1 1830) (H1.1 c i))) rfl rfl (by decide) (by decide) rfl (by omega) (by omega) ?_
                  refine h_run 4 (pc' := 201) (l' := [(0, .inr (.inr 1826)), (1, .inr (.inr c)), (2, .inl 0), (3, .inl (k : Int)), (4, .inl (dp : Int)), (5, .inl (i : Int)), (6, .inl (H1.1 c i)), (7, .inl (ma (H1.1 1833) (H1.1 1830) (H1.1 c i))), (8, .inl 0)]) (st' := [.inl 0, .inl (dp : Int), .inr (.inr 1860)]) rfl ?_
                  refine h_bst (c := 1860) (j := dp) (i := (dp : Int)) (x := 0) (Or.inr rfl) rfl rfl (by decide) (by decide) rfl (by omega) (show (0 : Int) ≤ 0 ∧ 0 ≤ 1 by omega) ?_
                  refine h_run 1 (pc' := 205) (l' := [(0, .inr (.inr 1826)), (1, .inr (.inr c)), (2, .inl 0), (3, .inl (k : Int)), (4, .inl ((dp : Int) + 1)), (5, .inl (i : Int)), (6, .inl (H1.1 c i)), (7, .inl (ma (H1.1 1833) (H1.1 1830) (H1.1 c i))), (8, .inl 0)]) (st' := []) rfl ?_
                  refine h_loc [0, 1, 2, 3, 4, 5] rfl ?_
                  rw [show ((dp : Int) + 1) = (((dp + 1) : Nat) : Int) by omega]
                  exact ih.2 _ (dp + 1) i (fr_a (fr_a hf145 (by decide)) (by decide)) (by omega) (by omega : 1 ≤ (H143.1 1826 59)) (by first | exact Or.inl (show JL9 (ma (H.1 1833) (H.1 1830)) (lenR (H.1 1832) (H.1 1828)) (H.1 c) (up (H143.1 1859) dp (ma (H1.1 1833) (H1.1 1830) (H1.1 c i))) (up (H143.1 1860) dp (0 : Int)) (H143.1 1826 59) (dp + 1) i from (by rw [show (H143.1 1859) = (H1.1 1859) from ((hx143f.2.1 1859 (by decide) (by decide)).trans (hx132f.2.1 1859 (by decide) (by decide))), show (H143.1 1860) = (H1.1 1860) from ((hx143f.2.1 1860 (by decide) (by decide)).trans (hx132f.2.1 1860 (by decide) (by decide)))]; rw [show (ma (H1.1 1833) (H1.1 1830) (H1.1 c i)) = 0 by omega]; exact J_leaf hJ hw9 (by omega) (by rw [← eFN, ← eCN, ← es]; unfold lenR; (repeat (first | rw [if_pos (by omega)] | rw [if_neg (by omega)])); omega))) | exact Or.inr (show JM9 (ma (H.1 1833) (H.1 1830)) (lenR (H.1 1832) (H.1 1828)) (H.1 c) (up (H143.1 1859) dp (ma (H1.1 1833) (H1.1 1830) (H1.1 c i))) (up (H143.1 1860) dp (0 : Int)) (H143.1 1826 59) (dp + 1) i from (by rw [show (H143.1 1859) = (H1.1 1859) from ((hx143f.2.1 1859 (by decide) (by decide)).trans (hx132f.2.1 1859 (by decide) (by decide))), show (H143.1 1860) = (H1.1 1860) from ((hx143f.2.1 1860 (by decide) (by decide)).trans (hx132f.2.1 1860 (by decide) (by decide)))]; exact J_node hJ hw9 ⟨hae, by omega, by omega⟩ (by first | (rw [if_pos (by omega)]; done) | (rw [if_neg (by omega)]; done)) (by rw [← eFN, ← eCN, ← es]; unfold lenR; (repeat (first | rw [if_pos (by omega)] | rw [if_neg (by omega)])); omega)))) (by omega : 1000 * (k - i) + (dp + 1) < w)
                · refine h_run 5 (pc' := 168) (l' := [(0, .inr (.inr 1826)), (1, .inr (.inr c)), (2, .inl 0), (3, .inl (k : Int)), (4, .inl (dp : Int)), (5, .inl (i : Int)), (6, .inl (H1.1 c i)), (7, .inl (ma (H1.1 1833) (H1.1 1830) (H1.1 c i))), (8, .inl 0)]) (st' := [.inl ((H1.1 c i) - 100), .inr (.inr 1832), .inr (.inr 1826)]) rfl ?_
                  refine h_lld (c := 1832) (j := (((H1.1 c i) - 100)).toNat) (i := ((H1.1 c i) - 100)) rfl rfl (by decide) (by omega) (by omega) ?_
                  have g147 : -9223372036854775808 ≤ (H132.1 1832 (((H1.1 c i) - 100)).toNat) ∧ (H132.1 1832 (((H1.1 c i) - 100)).toNat) ≤ 9223372036854775807 := hrg133.2 1832 (((H1.1 c i) - 100)).toNat 16 .long rfl (by omega)
                  have e148 : (H132.1 1832 (((H1.1 c i) - 100)).toNat) = (H1.1 1832 (((H1.1 c i) - 100)).toNat) := congrFun (hx132f.2.1 1832 (by decide) (by decide)) (((H1.1 c i) - 100)).toNat
                  have e149 : (H1.1 1832 (((H1.1 c i) - 100)).toNat) = (H.1 1832 (((H1.1 c i) - 100)).toNat) := congrFun (hf.2.1 1832 (by decide) (by decide)) (((H1.1 c i) - 100)).toNat
                  refine h_run 0 (pc' := 169) (l' := [(0, .inr (.inr 1826)), (1, .inr (.inr c)), (2, .inl 0), (3, .inl (k : Int)), (4, .inl (dp : Int)), (5, .inl (i : Int)), (6, .inl (H1.1 c i)), (7, .inl (ma (H1.1 1833) (H1.1 1830) (H1.1 c i))), (8, .inl 0)]) (st' := [.inr (.inl (H132.1 1832 (((H1.1 c i) - 100)).toNat)), .inr (.inr 1826)]) rfl ?_
                  refine h_run 1 (pc' := 181) (l' := [(0, .inr (.inr 1826)), (1, .inr (.inr c)), (2, .inl 0), (3, .inl (k : Int)), (4, .inl (dp : Int)), (5, .inl (i : Int)), (6, .inl (H1.1 c i)), (7, .inl (ma (H1.1 1833) (H1.1 1830) (H1.1 c i))), (8, .inl 0)]) (st' := [.inr (.inl (H132.1 1832 (((H1.1 c i) - 100)).toNat)), .inr (.inr 1826)]) rfl ?_
                  have g150 : -2147483648 ≤ (H132.1 1826 59) ∧ (H132.1 1826 59) ≤ 2147483647 := hrg133.1 1826 13 59 _ .int rfl rfl
                  refine h_cv (i := 479) (j := 204) (b := 1826) (M' := mt_204) (xs := [.inr (.inl (H132.1 1832 (((H1.1 c i) - 100)).toNat))]) (rest := []) rfl rfl rfl rfl rfl rfl (Nat.le_of_ble_eq_true rfl) (Nat.le_of_ble_eq_true rfl) (by omega) (n_putName (by omega) (by omega : 0 ≤ (H132.1 1826 59) ∧ (H132.1 1826 59) ≤ 7900)) ?_
                  rintro _ H151 ⟨rfl, hx151f, hx151z⟩
                  refine h_rng (fun hrg152 => ?_)
                  have hf153 : fr [59] [1858, 1859, 1860] H H151 := fr_t hf134 hx151f (by decide) (by decide)
                  replace hx151z : (H151.1 1826 59) = (H132.1 1826 59) + (cR (H132.1 1832 (((H1.1 c i) - 100)).toNat) 8) := hx151z
                  refine h_run 0 (pc' := 184) (l' := [(0, .inr (.inr 1826)), (1, .inr (.inr c)), (2, .inl 0), (3, .inl (k : Int)), (4, .inl (dp : Int)), (5, .inl (i : Int)), (6, .inl (H1.1 c i)), (7, .inl (ma (H1.1 1833) (H1.1 1830) (H1.1 c i))), (8, .inl 0)]) (st' := []) rfl ?_
                  refine h_run 4 (pc' := 192) (l' := [(0, .inr (.inr 1826)), (1, .inr (.inr c)), (2, .inl 0), (3, .inl (k : Int)), (4, .inl (dp : Int)), (5, .inl (i : Int)), (6, .inl (H1.1 c i)), (7, .inl (ma (H1.1 1833) (H1.1 1830) (H1.1 c i))), (8, .inl 0)]) (st' := [.inl (ma (H1.1 1833) (H1.1 1830) (H1.1 c i)), .inl (dp : Int), .inr (.inr 1859)]) rfl ?_
                  have hnq0 : cR ((H132.1 1828) (H1.1 c i - 1).toNat) 8 = cR ((H1.1 1828) (H1.1 c i - 1).toNat) 8 := by rw [show (H132.1 1828) = (H1.1 1828) from (hx132f.2.1 1828 (by decide) (by decide))]
                  have hnq1 : cR ((H132.1 1832) (H1.1 c i - 100).toNat) 8 = cR ((H1.1 1832) (H1.1 c i - 100).toNat) 8 := by rw [show (H132.1 1832) = (H1.1 1832) from (hx132f.2.1 1832 (by decide) (by decide))]
                  have g154 : -2147483648 ≤ (H151.1 1826 59) ∧ (H151.1 1826 59) ≤ 2147483647 := hrg152.1 1826 13 59 _ .int rfl rfl
                  have hgo : 1 ≤ (H151.1 1826 59) := by unfold lenR at hln; (repeat (first | rw [if_pos (by omega)] at hln | rw [if_neg (by omega)] at hln)); omega
                  refine h_ist (c := 1859) (j := dp) (i := (dp : Int)) (x := (ma (H1.1 1833) (H1.1 1830) (H1.1 c i))) rfl rfl (by decide) (by decide) rfl (by omega) (by omega) ?_
                  refine h_run 4 (pc' := 201) (l' := [(0, .inr (.inr 1826)), (1, .inr (.inr c)), (2, .inl 0), (3, .inl (k : Int)), (4, .inl (dp : Int)), (5, .inl (i : Int)), (6, .inl (H1.1 c i)), (7, .inl (ma (H1.1 1833) (H1.1 1830) (H1.1 c i))), (8, .inl 0)]) (st' := [.inl 0, .inl (dp : Int), .inr (.inr 1860)]) rfl ?_
                  refine h_bst (c := 1860) (j := dp) (i := (dp : Int)) (x := 0) (Or.inr rfl) rfl rfl (by decide) (by decide) rfl (by omega) (show (0 : Int) ≤ 0 ∧ 0 ≤ 1 by omega) ?_
                  refine h_run 1 (pc' := 205) (l' := [(0, .inr (.inr 1826)), (1, .inr (.inr c)), (2, .inl 0), (3, .inl (k : Int)), (4, .inl ((dp : Int) + 1)), (5, .inl (i : Int)), (6, .inl (H1.1 c i)), (7, .inl (ma (H1.1 1833) (H1.1 1830) (H1.1 c i))), (8, .inl 0)]) (st' := []) rfl ?_
                  refine h_loc [0, 1, 2, 3, 4, 5] rfl ?_
                  rw [show ((dp : Int) + 1) = (((dp + 1) : Nat) : Int) by omega]
                  exact ih.2 _ (dp + 1) i (fr_a (fr_a hf153 (by decide)) (by decide)) (by omega) (by omega : 1 ≤ (H151.1 1826 59)) (by first | exact Or.inl (show JL9 (ma (H.1 1833) (H.1 1830)) (lenR (H.1 1832) (H.1 1828)) (H.1 c) (up (H151.1 1859) dp (ma (H1.1 1833) (H1.1 1830) (H1.1 c i))) (up (H151.1 1860) dp (0 : Int)) (H151.1 1826 59) (dp + 1) i from (by rw [show (H151.1 1859) = (H1.1 1859) from ((hx151f.2.1 1859 (by decide) (by decide)).trans (hx132f.2.1 1859 (by decide) (by decide))), show (H151.1 1860) = (H1.1 1860) from ((hx151f.2.1 1860 (by decide) (by decide)).trans (hx132f.2.1 1860 (by decide) (by decide)))]; rw [show (ma (H1.1 1833) (H1.1 1830) (H1.1 c i)) = 0 by omega]; exact J_leaf hJ hw9 (by omega) (by rw [← eFN, ← eCN, ← es]; unfold lenR; (repeat (first | rw [if_pos (by omega)] | rw [if_neg (by omega)])); omega))) | exact Or.inr (show JM9 (ma (H.1 1833) (H.1 1830)) (lenR (H.1 1832) (H.1 1828)) (H.1 c) (up (H151.1 1859) dp (ma (H1.1 1833) (H1.1 1830) (H1.1 c i))) (up (H151.1 1860) dp (0 : Int)) (H151.1 1826 59) (dp + 1) i from (by rw [show (H151.1 1859) = (H1.1 1859) from ((hx151f.2.1 1859 (by decide) (by decide)).trans (hx132f.2.1 1859 (by decide) (by decide))), show (H151.1 1860) = (H1.1 1860) from ((hx151f.2.1 1860 (by decide) (by decide)).trans (hx132f.2.1 1860 (by decide) (by decide)))]; exact J_node hJ hw9 ⟨hae, by omega, by omega⟩ (by first | (rw [if_pos (by omega)]; done) | (rw [if_neg (by omega)]; done)) (by rw [← eFN, ← eCN, ← es]; unfold lenR; (repeat (first | rw [if_pos (by omega)] | rw [if_neg (by omega)])); omega)))) (by omega : 1000 * (k - i) + (dp + 1) < w)
              · refine h_run 3 (pc' := 108) (l' := [(0, .inr (.inr 1826)), (1, .inr (.inr c)), (2, .inl 0), (3, .inl (k : Int)), (4, .inl (dp : Int)), (5, .inl (i : Int)), (6, .inl (H1.1 c i)), (7, .inl (ma (H1.1 1833) (H1.1 1830) (H1.1 c i))), (8, .inl 0)]) (st' := [.inl 2000, .inl (H1.1 c i), .inr (.inr 1826)]) rfl ?_
                refine h_ilt (off := 8) (t := 116) rfl rfl (by omega) (by decide) (fun c155 => ?_) (fun c155 => ?_)
                · refine h_run 1 (pc' := 118) (l' := [(0, .inr (.inr 1826)), (1, .inr (.inr c)), (2, .inl 0), (3, .inl (k : Int)), (4, .inl (dp : Int)), (5, .inl (i : Int)), (6, .inl (H1.1 c i)), (7, .inl (ma (H1.1 1833) (H1.1 1830) (H1.1 c i))), (8, .inl 0)]) (st' := [.inl 118, .inr (.inr 1826)]) rfl ?_
                  have g156 : -2147483648 ≤ (H132.1 1826 59) ∧ (H132.1 1826 59) ≤ 2147483647 := hrg133.1 1826 13 59 _ .int rfl rfl
                  refine h_cv (i := 473) (j := 203) (b := 1826) (M' := mt_203) (xs := [.inl 118]) (rest := []) rfl rfl rfl rfl rfl rfl (Nat.le_of_ble_eq_true rfl) (Nat.le_of_ble_eq_true rfl) (by omega) (n_letter (by omega) (by omega : 0 ≤ (H132.1 1826 59) ∧ (H132.1 1826 59) ≤ 7950)) ?_
                  rintro _ H157 ⟨rfl, hx157f, hx157z⟩
                  refine h_rng (fun hrg158 => ?_)
                  have hf159 : fr [59] [1858, 1859, 1860] H H157 := fr_t hf134 hx157f (by decide) (by decide)
                  replace hx157z : (H157.1 1826 59) = (H132.1 1826 59) + 1 := hx157z
                  refine h_run 0 (pc' := 121) (l' := [(0, .inr (.inr 1826)), (1, .inr (.inr c)), (2, .inl 0), (3, .inl (k : Int)), (4, .inl (dp : Int)), (5, .inl (i : Int)), (6, .inl (H1.1 c i)), (7, .inl (ma (H1.1 1833) (H1.1 1830) (H1.1 c i))), (8, .inl 0)]) (st' := []) rfl ?_
                  refine h_run 3 (pc' := 127) (l' := [(0, .inr (.inr 1826)), (1, .inr (.inr c)), (2, .inl 0), (3, .inl (k : Int)), (4, .inl (dp : Int)), (5, .inl (i : Int)), (6, .inl (H1.1 c i)), (7, .inl (ma (H1.1 1833) (H1.1 1830) (H1.1 c i))), (8, .inl 0)]) (st' := [.inl 2000, .inl (H1.1 c i), .inr (.inr 1826)]) rfl ?_
                  refine h_ilt (off := 12) (t := 139) rfl rfl (by omega) (by decide) (fun c160 => ?_) (fun c160 => ?_)
                  · refine h_run 3 (pc' := 145) (l' := [(0, .inr (.inr 1826)), (1, .inr (.inr c)), (2, .inl 0), (3, .inl (k : Int)), (4, .inl (dp : Int)), (5, .inl (i : Int)), (6, .inl (H1.1 c i)), (7, .inl (ma (H1.1 1833) (H1.1 1830) (H1.1 c i))), (8, .inl 0)]) (st' := [.inl ((H1.1 c i) - 1000), .inr (.inr 1826)]) rfl ?_
                    have g161 : -2147483648 ≤ (H157.1 1826 59) ∧ (H157.1 1826 59) ≤ 2147483647 := hrg158.1 1826 13 59 _ .int rfl rfl
                    refine h_cv (i := 476) (j := 205) (b := 1826) (M' := mt_205) (xs := [.inl ((H1.1 c i) - 1000)]) (rest := []) rfl rfl rfl rfl rfl rfl (Nat.le_of_ble_eq_true rfl) (Nat.le_of_ble_eq_true rfl) (by omega) (n_putNumber (by omega) (by omega : 0 ≤ (H157.1 1826 59) ∧ (H157.1 1826 59) ≤ 7900) (by omega)) ?_
                    rintro _ H162 ⟨rfl, hx162f, hx162z⟩
                    refine h_rng (fun hrg163 => ?_)
                    have hf164 : fr [59] [1858, 1859, 1860] H H162 := fr_t hf159 hx162f (by decide) (by decide)
                    replace hx162z : (H162.1 1826 59) = (H157.1 1826 59) + (if 9 < ((H1.1 c i) - 1000) then 2 else 1) := hx162z
                    refine h_run 0 (pc' := 148) (l' := [(0, .inr (.inr 1826)), (1, .inr (.inr c)), (2, .inl 0), (3, .inl (k : Int)), (4, .inl (dp : Int)), (5, .inl (i : Int)), (6, .inl (H1.1 c i)), (7, .inl (ma (H1.1 1833) (H1.1 1830) (H1.1 c i))), (8, .inl 0)]) (st' := []) rfl ?_
                    refine h_run 5 (pc' := 192) (l' := [(0, .inr (.inr 1826)), (1, .inr (.inr c)), (2, .inl 0), (3, .inl (k : Int)), (4, .inl (dp : Int)), (5, .inl (i : Int)), (6, .inl (H1.1 c i)), (7, .inl (ma (H1.1 1833) (H1.1 1830) (H1.1 c i))), (8, .inl 0)]) (st' := [.inl (ma (H1.1 1833) (H1.1 1830) (H1.1 c i)), .inl (dp : Int), .inr (.inr 1859)]) rfl ?_
                    have hnq0 : cR ((H157.1 1828) (H1.1 c i - 1).toNat) 8 = cR ((H1.1 1828) (H1.1 c i - 1).toNat) 8 := by rw [show (H157.1 1828) = (H1.1 1828) from ((hx157f.2.1 1828 (by decide) (by decide)).trans (hx132f.2.1 1828 (by decide) (by decide)))]
                    have hnq1 : cR ((H157.1 1832) (H1.1 c i - 100).toNat) 8 = cR ((H1.1 1832) (H1.1 c i - 100).toNat) 8 := by rw [show (H157.1 1832) = (H1.1 1832) from ((hx157f.2.1 1832 (by decide) (by decide)).trans (hx132f.2.1 1832 (by decide) (by decide)))]
                    have g165 : -2147483648 ≤ (H162.1 1826 59) ∧ (H162.1 1826 59) ≤ 2147483647 := hrg163.1 1826 13 59 _ .int rfl rfl
                    have hgo : 1 ≤ (H162.1 1826 59) := by unfold lenR at hln; (repeat (first | rw [if_pos (by omega)] at hln | rw [if_neg (by omega)] at hln)); omega
                    refine h_ist (c := 1859) (j := dp) (i := (dp : Int)) (x := (ma (H1.1 1833) (H1.1 1830) (H1.1 c i))) rfl rfl (by decide) (by decide) rfl (by omega) (by omega) ?_
                    refine h_run 4 (pc' := 201) (l' := [(0, .inr (.inr 1826)), (1, .inr (.inr c)), (2, .inl 0), (3, .inl (k : Int)), (4, .inl (dp : Int)), (5, .inl (i : Int)), (6, .inl (H1.1 c i)), (7, .inl (ma (H1.1 1833) (H1.1 1830) (H1.1 c i))), (8, .inl 0)]) (st' := [.inl 0, .inl (dp : Int), .inr (.inr 1860)]) rfl ?_
                    refine h_bst (c := 1860) (j := dp) (i := (dp : Int)) (x := 0) (Or.inr rfl) rfl rfl (by decide) (by decide) rfl (by omega) (show (0 : Int) ≤ 0 ∧ 0 ≤ 1 by omega) ?_
                    refine h_run 1 (pc' := 205) (l' := [(0, .inr (.inr 1826)), (1, .inr (.inr c)), (2, .inl 0), (3, .inl (k : Int)), (4, .inl ((dp : Int) + 1)), (5, .inl (i : Int)), (6, .inl (H1.1 c i)), (7, .inl (ma (H1.1 1833) (H1.1 1830) (H1.1 c i))), (8, .inl 0)]) (st' := []) rfl ?_
                    refine h_loc [0, 1, 2, 3, 4, 5] rfl ?_
                    rw [show ((dp : Int) + 1) = (((dp + 1) : Nat) : Int) by omega]
                    exact ih.2 _ (dp + 1) i (fr_a (fr_a hf164 (by decide)) (by decide)) (by omega) (by omega : 1 ≤ (H162.1 1826 59)) (by first | exact Or.inl (show JL9 (ma (H.1 1833) (H.1 1830)) (lenR (H.1 1832) (H.1 1828)) (H.1 c) (up (H162.1 1859) dp (ma (H1.1 1833) (H1.1 1830) (H1.1 c i))) (up (H162.1 1860) dp (0 : Int)) (H162.1 1826 59) (dp + 1) i from (by rw [show (H162.1 1859) = (H1.1 1859) from (((hx162f.2.1 1859 (by decide) (by decide)).trans (hx157f.2.1 1859 (by decide) (by decide))).trans (hx132f.2.1 1859 (by decide) (by decide))), show (H162.1 1860) = (H1.1 1860) from (((hx162f.2.1 1860 (by decide) (by decide)).trans (hx157f.2.1 1860 (by decide) (by decide))).trans (hx132f.2.1 1860 (by decide) (by decide)))]; rw [show (ma (H1.1 1833) (H1.1 1830) (H1.1 c i)) = 0 by omega]; exact J_leaf hJ hw9 (by omega) (by rw [← eFN, ← eCN, ← es]; unfold lenR; (repeat (first | rw [if_pos (by omega)] | rw [if_neg (by omega)])); omega))) | exact Or.inr (show JM9 (ma (H.1 1833) (H.1 1830)) (lenR (H.1 1832) (H.1 1828)) (H.1 c) (up (H162.1 1859) dp (ma (H1.1 1833) (H1.1 1830) (H1.1 c i))) (up (H162.1 1860) dp (0 : Int)) (H162.1 1826 59) (dp + 1) i from (by rw [show (H162.1 1859) = (H1.1 1859) from (((hx162f.2.1 1859 (by decide) (by decide)).trans (hx157f.2.1 1859 (by decide) (by decide))).trans (hx132f.2.1 1859 (by decide) (by decide))), show (H162.1 1860) = (H1.1 1860) from (((hx162f.2.1 1860 (by decide) (by decide)).trans (hx157f.2.1 1860 (by decide) (by decide))).trans (hx132f.2.1 1860 (by decide) (by decide)))]; exact J_node hJ hw9 ⟨hae, by omega, by omega⟩ (by first | (rw [if_pos (by omega)]; done) | (rw [if_neg (by omega)]; done)) (by rw [← eFN, ← eCN, ← es]; unfold lenR; (repeat (first | rw [if_pos (by omega)] | rw [if_neg (by omega)])); omega)))) (by omega : 1000 * (k - i) + (dp + 1) < w)
                  · exfalso
                    omega
                · refine h_run 2 (pc' := 118) (l' := [(0, .inr (.inr 1826)), (1, .inr (.inr c)), (2, .inl 0), (3, .inl (k : Int)), (4, .inl (dp : Int)), (5, .inl (i : Int)), (6, .inl (H1.1 c i)), (7, .inl (ma (H1.1 1833) (H1.1 1830) (H1.1 c i))), (8, .inl 0)]) (st' := [.inl 102, .inr (.inr 1826)]) rfl ?_
                  have g166 : -2147483648 ≤ (H132.1 1826 59) ∧ (H132.1 1826 59) ≤ 2147483647 := hrg133.1 1826 13 59 _ .int rfl rfl
                  refine h_cv (i := 473) (j := 203) (b := 1826) (M' := mt_203) (xs := [.inl 102]) (rest := []) rfl rfl rfl rfl rfl rfl (Nat.le_of_ble_eq_true rfl) (Nat.le_of_ble_eq_true rfl) (by omega) (n_letter (by omega) (by omega : 0 ≤ (H132.1 1826 59) ∧ (H132.1 1826 59) ≤ 7950)) ?_
                  rintro _ H167 ⟨rfl, hx167f, hx167z⟩
                  refine h_rng (fun hrg168 => ?_)
                  have hf169 : fr [59] [1858, 1859, 1860] H H167 := fr_t hf134 hx167f (by decide) (by decide)
                  replace hx167z : (H167.1 1826 59) = (H132.1 1826 59) + 1 := hx167z
                  refine h_run 0 (pc' := 121) (l' := [(0, .inr (.inr 1826)), (1, .inr (.inr c)), (2, .inl 0), (3, .inl (k : Int)), (4, .inl (dp : Int)), (5, .inl (i : Int)), (6, .inl (H1.1 c i)), (7, .inl (ma (H1.1 1833) (H1.1 1830) (H1.1 c i))), (8, .inl 0)]) (st' := []) rfl ?_
                  refine h_run 3 (pc' := 127) (l' := [(0, .inr (.inr 1826)), (1, .inr (.inr c)), (2, .inl 0), (3, .inl (k : Int)), (4, .inl (dp : Int)), (5, .inl (i : Int)), (6, .inl (H1.1 c i)), (7, .inl (ma (H1.1 1833) (H1.1 1830) (H1.1 c i))), (8, .inl 0)]) (st' := [.inl 2000, .inl (H1.1 c i), .inr (.inr 1826)]) rfl ?_
                  refine h_ilt (off := 12) (t := 139) rfl rfl (by omega) (by decide) (fun c170 => ?_) (fun c170 => ?_)
                  · exfalso
                    omega
                  · refine h_run 4 (pc' := 145) (l' := [(0, .inr (.inr 1826)), (1, .inr (.inr c)), (2, .inl 0), (3, .inl (k : Int)), (4, .inl (dp : Int)), (5, .inl (i : Int)), (6, .inl (H1.1 c i)), (7, .inl (ma (H1.1 1833) (H1.1 1830) (H1.1 c i))), (8, .inl 0)]) (st' := [.inl ((H1.1 c i) - 2000), .inr (.inr 1826)]) rfl ?_
                    have g171 : -2147483648 ≤ (H167.1 1826 59) ∧ (H167.1 1826 59) ≤ 2147483647 := hrg168.1 1826 13 59 _ .int rfl rfl
                    refine h_cv (i := 476) (j := 205) (b := 1826) (M' := mt_205) (xs := [.inl ((H1.1 c i) - 2000)]) (rest := []) rfl rfl rfl rfl rfl rfl (Nat.le_of_ble_eq_true rfl) (Nat.le_of_ble_eq_true rfl) (by omega) (n_putNumber (by omega) (by omega : 0 ≤ (H167.1 1826 59) ∧ (H167.1 1826 59) ≤ 7900) (by omega)) ?_
                    rintro _ H172 ⟨rfl, hx172f, hx172z⟩
                    refine h_rng (fun hrg173 => ?_)
                    have hf174 : fr [59] [1858, 1859, 1860] H H172 := fr_t hf169 hx172f (by decide) (by decide)
                    replace hx172z : (H172.1 1826 59) = (H167.1 1826 59) + (if 9 < ((H1.1 c i) - 2000) then 2 else 1) := hx172z
                    refine h_run 0 (pc' := 148) (l' := [(0, .inr (.inr 1826)), (1, .inr (.inr c)), (2, .inl 0), (3, .inl (k : Int)), (4, .inl (dp : Int)), (5, .inl (i : Int)), (6, .inl (H1.1 c i)), (7, .inl (ma (H1.1 1833) (H1.1 1830) (H1.1 c i))), (8, .inl 0)]) (st' := []) rfl ?_
                    refine h_run 5 (pc' := 192) (l' := [(0, .inr (.inr 1826)), (1, .inr (.inr c)), (2, .inl 0), (3, .inl (k : Int)), (4, .inl (dp : Int)), (5, .inl (i : Int)), (6, .inl (H1.1 c i)), (7, .inl (ma (H1.1 1833) (H1.1 1830) (H1.1 c i))), (8, .inl 0)]) (st' := [.inl (ma (H1.1 1833) (H1.1 1830) (H1.1 c i)), .inl (dp : Int), .inr (.inr 1859)]) rfl ?_
                    have hnq0 : cR ((H167.1 1828) (H1.1 c i - 1).toNat) 8 = cR ((H1.1 1828) (H1.1 c i - 1).toNat) 8 := by rw [show (H167.1 1828) = (H1.1 1828) from ((hx167f.2.1 1828 (by decide) (by decide)).trans (hx132f.2.1 1828 (by decide) (by decide)))]
                    have hnq1 : cR ((H167.1 1832) (H1.1 c i - 100).toNat) 8 = cR ((H1.1 1832) (H1.1 c i - 100).toNat) 8 := by rw [show (H167.1 1832) = (H1.1 1832) from ((hx167f.2.1 1832 (by decide) (by decide)).trans (hx132f.2.1 1832 (by decide) (by decide)))]
                    have g175 : -2147483648 ≤ (H172.1 1826 59) ∧ (H172.1 1826 59) ≤ 2147483647 := hrg173.1 1826 13 59 _ .int rfl rfl
                    have hgo : 1 ≤ (H172.1 1826 59) := by unfold lenR at hln; (repeat (first | rw [if_pos (by omega)] at hln | rw [if_neg (by omega)] at hln)); omega
                    refine h_ist (c := 1859) (j := dp) (i := (dp : Int)) (x := (ma (H1.1 1833) (H1.1 1830) (H1.1 c i))) rfl rfl (by decide) (by decide) rfl (by omega) (by omega) ?_
                    refine h_run 4 (pc' := 201) (l' := [(0, .inr (.inr 1826)), (1, .inr (.inr c)), (2, .inl 0), (3, .inl (k : Int)), (4, .inl (dp : Int)), (5, .inl (i : Int)), (6, .inl (H1.1 c i)), (7, .inl (ma (H1.1 1833) (H1.1 1830) (H1.1 c i))), (8, .inl 0)]) (st' := [.inl 0, .inl (dp : Int), .inr (.inr 1860)]) rfl ?_
                    refine h_bst (c := 1860) (j := dp) (i := (dp : Int)) (x := 0) (Or.inr rfl) rfl rfl (by decide) (by decide) rfl (by omega) (show (0 : Int) ≤ 0 ∧ 0 ≤ 1 by omega) ?_
                    refine h_run 1 (pc' := 205) (l' := [(0, .inr (.inr 1826)), (1, .inr (.inr c)), (2, .inl 0), (3, .inl (k : Int)), (4, .inl ((dp : Int) + 1)), (5, .inl (i : Int)), (6, .inl (H1.1 c i)), (7, .inl (ma (H1.1 1833) (H1.1 1830) (H1.1 c i))), (8, .inl 0)]) (st' := []) rfl ?_
                    refine h_loc [0, 1, 2, 3, 4, 5] rfl ?_
                    rw [show ((dp : Int) + 1) = (((dp + 1) : Nat) : Int) by omega]
                    exact ih.2 _ (dp + 1) i (fr_a (fr_a hf174 (by decide)) (by decide)) (by omega) (by omega : 1 ≤ (H172.1 1826 59)) (by first | exact Or.inl (show JL9 (ma (H.1 1833) (H.1 1830)) (lenR (H.1 1832) (H.1 1828)) (H.1 c) (up (H172.1 1859) dp (ma (H1.1 1833) (H1.1 1830) (H1.1 c i))) (up (H172.1 1860) dp (0 : Int)) (H172.1 1826 59) (dp + 1) i from (by rw [show (H172.1 1859) = (H1.1 1859) from (((hx172f.2.1 1859 (by decide) (by decide)).trans (hx167f.2.1 1859 (by decide) (by decide))).trans (hx132f.2.1 1859 (by decide) (by decide))), show (H172.1 1860) = (H1.1 1860) from (((hx172f.2.1 1860 (by decide) (by decide)).trans (hx167f.2.1 1860 (by decide) (by decide))).trans (hx132f.2.1 1860 (by decide) (by decide)))]; rw [show (ma (H1.1 1833) (H1.1 1830) (H1.1 c i)) = 0 by omega]; exact J_leaf hJ hw9 (by omega) (by rw [← eFN, ← eCN, ← es]; unfold lenR; (repeat (first | rw [if_pos (by omega)] | rw [if_neg (by omega)])); omega))) | exact Or.inr (show JM9 (ma (H.1 1833) (H.1 1830)) (lenR (H.1 1832) (H.1 1828)) (H.1 c) (up (H172.1 1859) dp (ma (H1.1 1833) (H1.1 1830) (H1.1 c i))) (up (H172.1 1860) dp (0 : Int)) (H172.1 1826 59) (dp + 1) i from (by rw [show (H172.1 1859) = (H1.1 1859) from (((hx172f.2.1 1859 (by decide) (by decide)).trans (hx167f.2.1 1859 (by decide) (by decide))).trans (hx132f.2.1 1859 (by decide) (by decide))), show (H172.1 1860) = (H1.1 1860) from (((hx172f.2.1 1860 (by decide) (by decide)).trans (hx167f.2.1 1860 (by decide) (by decide))).trans (hx132f.2.1 1860 (by decide) (by decide)))]; exact J_node hJ hw9 ⟨hae, by omega, by omega⟩ (by first | (rw [if_pos (by omega)]; done) | (rw [if_neg (by omega)]; done)) (by rw [← eFN, ← eCN, ← es]; unfold lenR; (repeat (first | rw [if_pos (by omega)] | rw [if_neg (by omega)])); omega)))) (by omega : 1000 * (k - i) + (dp + 1) < w)
            · refine h_run 2 (pc' := 88) (l' := [(0, .inr (.inr 1826)), (1, .inr (.inr c)), (2, .inl 0), (3, .inl (k : Int)), (4, .inl (dp : Int)), (5, .inl (i : Int)), (6, .inl (H1.1 c i)), (7, .inl (ma (H1.1 1833) (H1.1 1830) (H1.1 c i))), (8, .inl 0)]) (st' := [.inl 95, .inr (.inr 1826)]) rfl ?_
              have g176 : -2147483648 ≤ (H132.1 1826 59) ∧ (H132.1 1826 59) ≤ 2147483647 := hrg133.1 1826 13 59 _ .int rfl rfl
              refine h_cv (i := 473) (j := 203) (b := 1826) (M' := mt_203) (xs := [.inl 95]) (rest := []) rfl rfl rfl rfl rfl rfl (Nat.le_of_ble_eq_true rfl) (Nat.le_of_ble_eq_true rfl) (by omega) (n_letter (by omega) (by omega : 0 ≤ (H132.1 1826 59) ∧ (H132.1 1826 59) ≤ 7950)) ?_
              rintro _ H177 ⟨rfl, hx177f, hx177z⟩
              refine h_rng (fun hrg178 => ?_)
              have hf179 : fr [59] [1858, 1859, 1860] H H177 := fr_t hf134 hx177f (by decide) (by decide)
              replace hx177z : (H177.1 1826 59) = (H132.1 1826 59) + 1 := hx177z
              refine h_run 0 (pc' := 91) (l' := [(0, .inr (.inr 1826)), (1, .inr (.inr c)), (2, .inl 0), (3, .inl (k : Int)), (4, .inl (dp : Int)), (5, .inl (i : Int)), (6, .inl (H1.1 c i)), (7, .inl (ma (H1.1 1833) (H1.1 1830) (H1.1 c i))), (8, .inl 0)]) (st' := []) rfl ?_
              refine h_run 5 (pc' := 192) (l' := [(0, .inr (.inr 1826)), (1, .inr (.inr c)), (2, .inl 0), (3, .inl (k : Int)), (4, .inl (dp : Int)), (5, .inl (i : Int)), (6, .inl (H1.1 c i)), (7, .inl (ma (H1.1 1833) (H1.1 1830) (H1.1 c i))), (8, .inl 0)]) (st' := [.inl (ma (H1.1 1833) (H1.1 1830) (H1.1 c i)), .inl (dp : Int), .inr (.inr 1859)]) rfl ?_
              have hnq0 : cR ((H132.1 1828) (H1.1 c i - 1).toNat) 8 = cR ((H1.1 1828) (H1.1 c i - 1).toNat) 8 := by rw [show (H132.1 1828) = (H1.1 1828) from (hx132f.2.1 1828 (by decide) (by decide))]
              have hnq1 : cR ((H132.1 1832) (H1.1 c i - 100).toNat) 8 = cR ((H1.1 1832) (H1.1 c i - 100).toNat) 8 := by rw [show (H132.1 1832) = (H1.1 1832) from (hx132f.2.1 1832 (by decide) (by decide))]
              have g180 : -2147483648 ≤ (H177.1 1826 59) ∧ (H177.1 1826 59) ≤ 2147483647 := hrg178.1 1826 13 59 _ .int rfl rfl
              have hgo : 1 ≤ (H177.1 1826 59) := by unfold lenR at hln; (repeat (first | rw [if_pos (by omega)] at hln | rw [if_neg (by omega)] at hln)); omega
              refine h_ist (c := 1859) (j := dp) (i := (dp : Int)) (x := (ma (H1.1 1833) (H1.1 1830) (H1.1 c i))) rfl rfl (by decide) (by decide) rfl (by omega) (by omega) ?_
              refine h_run 4 (pc' := 201) (l' := [(0, .inr (.inr 1826)), (1, .inr (.inr c)), (2, .inl 0), (3, .inl (k : Int)), (4, .inl (dp : Int)), (5, .inl (i : Int)), (6, .inl (H1.1 c i)), (7, .inl (ma (H1.1 1833) (H1.1 1830) (H1.1 c i))), (8, .inl 0)]) (st' := [.inl 0, .inl (dp : Int), .inr (.inr 1860)]) rfl ?_
              refine h_bst (c := 1860) (j := dp) (i := (dp : Int)) (x := 0) (Or.inr rfl) rfl rfl (by decide) (by decide) rfl (by omega) (show (0 : Int) ≤ 0 ∧ 0 ≤ 1 by omega) ?_
              refine h_run 1 (pc' := 205) (l' := [(0, .inr (.inr 1826)), (1, .inr (.inr c)), (2, .inl 0), (3, .inl (k : Int)), (4, .inl ((dp : Int) + 1)), (5, .inl (i : Int)), (6, .inl (H1.1 c i)), (7, .inl (ma (H1.1 1833) (H1.1 1830) (H1.1 c i))), (8, .inl 0)]) (st' := []) rfl ?_
              refine h_loc [0, 1, 2, 3, 4, 5] rfl ?_
              rw [show ((dp : Int) + 1) = (((dp + 1) : Nat) : Int) by omega]
              exact ih.2 _ (dp + 1) i (fr_a (fr_a hf179 (by decide)) (by decide)) (by omega) (by omega : 1 ≤ (H177.1 1826 59)) (by first | exact Or.inl (show JL9 (ma (H.1 1833) (H.1 1830)) (lenR (H.1 1832) (H.1 1828)) (H.1 c) (up (H177.1 1859) dp (ma (H1.1 1833) (H1.1 1830) (H1.1 c i))) (up (H177.1 1860) dp (0 : Int)) (H177.1 1826 59) (dp + 1) i from (by rw [show (H177.1 1859) = (H1.1 1859) from ((hx177f.2.1 1859 (by decide) (by decide)).trans (hx132f.2.1 1859 (by decide) (by decide))), show (H177.1 1860) = (H1.1 1860) from ((hx177f.2.1 1860 (by decide) (by decide)).trans (hx132f.2.1 1860 (by decide) (by decide)))]; rw [show (ma (H1.1 1833) (H1.1 1830) (H1.1 c i)) = 0 by omega]; exact J_leaf hJ hw9 (by omega) (by rw [← eFN, ← eCN, ← es]; unfold lenR; (repeat (first | rw [if_pos (by omega)] | rw [if_neg (by omega)])); omega))) | exact Or.inr (show JM9 (ma (H.1 1833) (H.1 1830)) (lenR (H.1 1832) (H.1 1828)) (H.1 c) (up (H177.1 1859) dp (ma (H1.1 1833) (H1.1 1830) (H1.1 c i))) (up (H177.1 1860) dp (0 : Int)) (H177.1 1826 59) (dp + 1) i from (by rw [show (H177.1 1859) = (H1.1 1859) from ((hx177f.2.1 1859 (by decide) (by decide)).trans (hx132f.2.1 1859 (by decide) (by decide))), show (H177.1 1860) = (H1.1 1860) from ((hx177f.2.1 1860 (by decide) (by decide)).trans (hx132f.2.1 1860 (by decide) (by decide)))]; exact J_node hJ hw9 ⟨hae, by omega, by omega⟩ (by first | (rw [if_pos (by omega)]; done) | (rw [if_neg (by omega)]; done)) (by rw [← eFN, ← eCN, ← es]; unfold lenR; (repeat (first | rw [if_pos (by omega)] | rw [if_neg (by omega)])); omega)))) (by omega : 1000 * (k - i) + (dp + 1) < w)
          · refine h_run 2 (pc' := 59) (l' := [(0, .inr (.inr 1826)), (1, .inr (.inr c)), (2, .inl 0), (3, .inl (k : Int)), (4, .inl (dp : Int)), (5, .inl (i : Int)), (6, .inl (H1.1 c i)), (7, .inl (ma (H1.1 1833) (H1.1 1830) (H1.1 c i)))]) (st' := [.inl 0, .inl (i : Int)]) rfl ?_
            refine h_ile (off := 7) (t := 66) rfl rfl (by omega) (by decide) (fun c181 => ?_) (fun c181 => ?_)
            · refine h_run 3 (pc' := 71) (l' := [(0, .inr (.inr 1826)), (1, .inr (.inr c)), (2, .inl 0), (3, .inl (k : Int)), (4, .inl (dp : Int)), (5, .inl (i : Int)), (6, .inl (H1.1 c i)), (7, .inl (ma (H1.1 1833) (H1.1 1830) (H1.1 c i))), (8, .inl 0)]) (st' := [.inl 0]) rfl ?_
              refine h_zeq (off := 9) (t := 80) rfl rfl (by decide) (fun _ => ?_) (fun c => absurd c (by decide))
              refine h_run 1 (pc' := 82) (l' := [(0, .inr (.inr 1826)), (1, .inr (.inr c)), (2, .inl 0), (3, .inl (k : Int)), (4, .inl (dp : Int)), (5, .inl (i : Int)), (6, .inl (H1.1 c i)), (7, .inl (ma (H1.1 1833) (H1.1 1830) (H1.1 c i))), (8, .inl 0)]) (st' := [.inl (H1.1 c i)]) rfl ?_
              refine h_zne (off := 12) (t := 94) rfl rfl (by omega) (fun c182 => ?_) (fun c182 => ?_)
              · refine h_run 2 (pc' := 99) (l' := [(0, .inr (.inr 1826)), (1, .inr (.inr c)), (2, .inl 0), (3, .inl (k : Int)), (4, .inl (dp : Int)), (5, .inl (i : Int)), (6, .inl (H1.1 c i)), (7, .inl (ma (H1.1 1833) (H1.1 1830) (H1.1 c i))), (8, .inl 0)]) (st' := [.inl 1000, .inl (H1.1 c i)]) rfl ?_
                refine h_ilt (off := 52) (t := 151) rfl rfl (by omega) (by decide) (fun c183 => ?_) (fun c183 => ?_)
                · refine h_run 3 (pc' := 156) (l' := [(0, .inr (.inr 1826)), (1, .inr (.inr c)), (2, .inl 0), (3, .inl (k : Int)), (4, .inl (dp : Int)), (5, .inl (i : Int)), (6, .inl (H1.1 c i)), (7, .inl (ma (H1.1 1833) (H1.1 1830) (H1.1 c i))), (8, .inl 0)]) (st' := [.inl 100, .inl (H1.1 c i), .inr (.inr 1826)]) rfl ?_
                  refine h_ilt (off := 16) (t := 172) rfl rfl (by omega) (by decide) (fun c184 => ?_) (fun c184 => ?_)
                  · refine h_run 5 (pc' := 180) (l' := [(0, .inr (.inr 1826)), (1, .inr (.inr c)), (2, .inl 0), (3, .inl (k : Int)), (4, .inl (dp : Int)), (5, .inl (i : Int)), (6, .inl (H1.1 c i)), (7, .inl (ma (H1.1 1833) (H1.1 1830) (H1.1 c i))), (8, .inl 0)]) (st' := [.inl ((H1.1 c i) - 1), .inr (.inr 1828), .inr (.inr 1826)]) rfl ?_
                    refine h_lld (c := 1828) (j := (((H1.1 c i) - 1)).toNat) (i := ((H1.1 c i) - 1)) rfl rfl (by decide) (by omega) (by omega) ?_
                    have g185 : -9223372036854775808 ≤ (H132.1 1828 (((H1.1 c i) - 1)).toNat) ∧ (H132.1 1828 (((H1.1 c i) - 1)).toNat) ≤ 9223372036854775807 := hrg133.2 1828 (((H1.1 c i) - 1)).toNat 16 .long rfl (by omega)
                    have e186 : (H132.1 1828 (((H1.1 c i) - 1)).toNat) = (H1.1 1828 (((H1.1 c i) - 1)).toNat) := congrFun (hx132f.2.1 1828 (by decide) (by decide)) (((H1.1 c i) - 1)).toNat
                    have e187 : (H1.1 1828 (((H1.1 c i) - 1)).toNat) = (H.1 1828 (((H1.1 c i) - 1)).toNat) := congrFun (hf.2.1 1828 (by decide) (by decide)) (((H1.1 c i) - 1)).toNat
                    refine h_run 0 (pc' := 181) (l' := [(0, .inr (.inr 1826)), (1, .inr (.inr c)), (2, .inl 0), (3, .inl (k : Int)), (4, .inl (dp : Int)), (5, .inl (i : Int)), (6, .inl (H1.1 c i)), (7, .inl (ma (H1.1 1833) (H1.1 1830) (H1.1 c i))), (8, .inl 0)]) (st' := [.inr (.inl (H132.1 1828 (((H1.1 c i) - 1)).toNat)), .inr (.inr 1826)]) rfl ?_
                    have g188 : -2147483648 ≤ (H132.1 1826 59) ∧ (H132.1 1826 59) ≤ 2147483647 := hrg133.1 1826 13 59 _ .int rfl rfl
                    refine h_cv (i := 479) (j := 204) (b := 1826) (M' := mt_204) (xs := [.inr (.inl (H132.1 1828 (((H1.1 c i) - 1)).toNat))]) (rest := []) rfl rfl rfl rfl rfl rfl (Nat.le_of_ble_eq_true rfl) (Nat.le_of_ble_eq_true rfl) (by omega) (n_putName (by omega) (by omega : 0 ≤ (H132.1 1826 59) ∧ (H132.1 1826 59) ≤ 7900)) ?_
                    rintro _ H189 ⟨rfl, hx189f, hx189z⟩
                    refine h_rng (fun hrg190 => ?_)
                    have hf191 : fr [59] [1858, 1859, 1860] H H189 := fr_t hf134 hx189f (by decide) (by decide)
                    replace hx189z : (H189.1 1826 59) = (H132.1 1826 59) + (cR (H132.1 1828 (((H1.1 c i) - 1)).toNat) 8) := hx189z
                    refine h_run 0 (pc' := 184) (l' := [(0, .inr (.inr 1826)), (1, .inr (.inr c)), (2, .inl 0), (3, .inl (k : Int)), (4, .inl (dp : Int)), (5, .inl (i : Int)), (6, .inl (H1.1 c i)), (7, .inl (ma (H1.1 1833) (H1.1 1830) (H1.1 c i))), (8, .inl 0)]) (st' := []) rfl ?_
                    refine h_run 4 (pc' := 192) (l' := [(0, .inr (.inr 1826)), (1, .inr (.inr c)), (2, .inl 0), (3, .inl (k : Int)), (4, .inl (dp : Int)), (5, .inl (i : Int)), (6, .inl (H1.1 c i)), (7, .inl (ma (H1.1 1833) (H1.1 1830) (H1.1 c i))), (8, .inl 0)]) (st' := [.inl (ma (H1.1 1833) (H1.1 1830) (H1.1 c i)), .inl (dp : Int), .inr (.inr 1859)]) rfl ?_
                    have hnq0 : cR ((H132.1 1828) (H1.1 c i - 1).toNat) 8 = cR ((H1.1 1828) (H1.1 c i - 1).toNat) 8 := by rw [show (H132.1 1828) = (H1.1 1828) from (hx132f.2.1 1828 (by decide) (by decide))]
                    have hnq1 : cR ((H132.1 1832) (H1.1 c i - 100).toNat) 8 = cR ((H1.1 1832) (H1.1 c i - 100).toNat) 8 := by rw [show (H132.1 1832) = (H1.1 1832) from (hx132f.2.1 1832 (by decide) (by decide))]
                    have g192 : -2147483648 ≤ (H189.1 1826 59) ∧ (H189.1 1826 59) ≤ 2147483647 := hrg190.1 1826 13 59 _ .int rfl rfl
                    have hgo : 1 ≤ (H189.1 1826 59) := by unfold lenR at hln; (repeat (first | rw [if_pos (by omega)] at hln | rw [if_neg (by omega)] at hln)); omega
                    refine h_ist (c := 1859) (j := dp) (i := (dp : Int)) (x := (ma (H1.1 1833) (H1.1 1830) (H1.1 c i))) rfl rfl (by decide) (by decide) rfl (by omega) (by omega) ?_
                    refine h_run 4 (pc' := 201) (l' := [(0, .inr (.inr 1826)), (1, .inr (.inr c)), (2, .inl 0), (3, .inl (k : Int)), (4, .inl (dp : Int)), (5, .inl (i : Int)), (6, .inl (H1.1 c i)), (7, .inl (ma (H1.1 1833) (H1.1 1830) (H1.1 c i))), (8, .inl 0)]) (st' := [.inl 0, .inl (dp : Int), .inr (.inr 1860)]) rfl ?_
                    refine h_bst (c := 1860) (j := dp) (i := (dp : Int)) (x := 0) (Or.inr rfl) rfl rfl (by decide) (by decide) rfl (by omega) (show (0 : Int) ≤ 0 ∧ 0 ≤ 1 by omega) ?_
                    refine h_run 1 (pc' := 205) (l' := [(0, .inr (.inr 1826)), (1, .inr (.inr c)), (2, .inl 0), (3, .inl (k : Int)), (4, .inl ((dp : Int) + 1)), (5, .inl (i : Int)), (6, .inl (H1.1 c i)), (7, .inl (ma (H1.1 1833) (H1.1 1830) (H1.1 c i))), (8, .inl 0)]) (st' := []) rfl ?_
                    refine h_loc [0, 1, 2, 3, 4, 5] rfl ?_
                    rw [show ((dp : Int) + 1) = (((dp + 1) : Nat) : Int) by omega]
                    exact ih.2 _ (dp + 1) i (fr_a (fr_a hf191 (by decide)) (by decide)) (by omega) (by omega : 1 ≤ (H189.1 1826 59)) (by first | exact Or.inl (show JL9 (ma (H.1 1833) (H.1 1830)) (lenR (H.1 1832) (H.1 1828)) (H.1 c) (up (H189.1 1859) dp (ma (H1.1 1833) (H1.1 1830) (H1.1 c i))) (up (H189.1 1860) dp (0 : Int)) (H189.1 1826 59) (dp + 1) i from (by rw [show (H189.1 1859) = (H1.1 1859) from ((hx189f.2.1 1859 (by decide) (by decide)).trans (hx132f.2.1 1859 (by decide) (by decide))), show (H189.1 1860) = (H1.1 1860) from ((hx189f.2.1 1860 (by decide) (by decide)).trans (hx132f.2.1 1860 (by decide) (by decide)))]; rw [show (ma (H1.1 1833) (H1.1 1830) (H1.1 c i)) = 0 by omega]; exact J_leaf hJ hw9 (by omega) (by rw [← eFN, ← eCN, ← es]; unfold lenR; (repeat (first | rw [if_pos (by omega)] | rw [if_neg (by omega)])); omega))) | exact Or.inr (show JM9 (ma (H.1 1833) (H.1 1830)) (lenR (H.1 1832) (H.1 1828)) (H.1 c) (up (H189.1 1859) dp (ma (H1.1 1833) (H1.1 1830) (H1.1 c i))) (up (H189.1 1860) dp (0 : Int)) (H189.1 1826 59) (dp + 1) i from (by rw [show (H189.1 1859) = (H1.1 1859) from ((hx189f.2.1 1859 (by decide) (by decide)).trans (hx132f.2.1 1859 (by decide) (by decide))), show (H189.1 1860) = (H1.1 1860) from ((hx189f.2.1 1860 (by decide) (by decide)).trans (hx132f.2.1 1860 (by decide) (by decide)))]; exact J_node hJ hw9 ⟨hae, by omega, by omega⟩ (by first | (rw [if_pos (by omega)]; done) | (rw [if_neg (by omega)]; done)) (by rw [← eFN, ← eCN, ← es]; unfold lenR; (repeat (first | rw [if_pos (by omega)] | rw [if_neg (by omega)])); omega)))) (by omega : 1000 * (k - i) + (dp + 1) < w)
                  · refine h_run 5 (pc' := 168) (l' := [(0, .inr (.inr 1826)), (1, .inr (.inr c)), (2, .inl 0), (3, .inl (k : Int)), (4, .inl (dp : Int)), (5, .inl (i : Int)), (6, .inl (H1.1 c i)), (7, .inl (ma (H1.1 1833) (H1.1 1830) (H1.1 c i))), (8, .inl 0)]) (st' := [.inl ((H1.1 c i) - 100), .inr (.inr 1832), .inr (.inr 1826)]) rfl ?_
                    refine h_lld (c := 1832) (j := (((H1.1 c i) - 100)).toNat) (i := ((H1.1 c i) - 100)) rfl rfl (by decide) (by omega) (by omega) ?_
                    have g193 : -9223372036854775808 ≤ (H132.1 1832 (((H1.1 c i) - 100)).toNat) ∧ (H132.1 1832 (((H1.1 c i) - 100)).toNat) ≤ 9223372036854775807 := hrg133.2 1832 (((H1.1 c i) - 100)).toNat 16 .long rfl (by omega)
                    have e194 : (H132.1 1832 (((H1.1 c i) - 100)).toNat) = (H1.1 1832 (((H1.1 c i) - 100)).toNat) := congrFun (hx132f.2.1 1832 (by decide) (by decide)) (((H1.1 c i) - 100)).toNat
                    have e195 : (H1.1 1832 (((H1.1 c i) - 100)).toNat) = (H.1 1832 (((H1.1 c i) - 100)).toNat) := congrFun (hf.2.1 1832 (by decide) (by decide)) (((H1.1 c i) - 100)).toNat
                    refine h_run 0 (pc' := 169) (l' := [(0, .inr (.inr 1826)), (1, .inr (.inr c)), (2, .inl 0), (3, .inl (k : Int)), (4, .inl (dp : Int)), (5, .inl (i : Int)), (6, .inl (H1.1 c i)), (7, .inl (ma (H1.1 1833) (H1.1 1830) (H1.1 c i))), (8, .inl 0)]) (st' := [.inr (.inl (H132.1 1832 (((H1.1 c i) - 100)).toNat)), .inr (.inr 1826)]) rfl ?_
                    refine h_run 1 (pc' := 181) (l' := [(0, .inr (.inr 1826)), (1, .inr (.inr c)), (2, .inl 0), (3, .inl (k : Int)), (4, .inl (dp : Int)), (5, .inl (i : Int)), (6, .inl (H1.1 c i)), (7, .inl (ma (H1.1 1833) (H1.1 1830) (H1.1 c i))), (8, .inl 0)]) (st' := [.inr (.inl (H132.1 1832 (((H1.1 c i) - 100)).toNat)), .inr (.inr 1826)]) rfl ?_
                    have g196 : -2147483648 ≤ (H132.1 1826 59) ∧ (H132.1 1826 59) ≤ 2147483647 := hrg133.1 1826 13 59 _ .int rfl rfl
                    refine h_cv (i := 479) (j := 204) (b := 1826) (M' := mt_204) (xs := [.inr (.inl (H132.1 1832 (((H1.1 c i) - 100)).toNat))]) (rest := []) rfl rfl rfl rfl rfl rfl (Nat.le_of_ble_eq_true rfl) (Nat.le_of_ble_eq_true rfl) (by omega) (n_putName (by omega) (by omega : 0 ≤ (H132.1 1826 59) ∧ (H132.1 1826 59) ≤ 7900)) ?_
                    rintro _ H197 ⟨rfl, hx197f, hx197z⟩
                    refine h_rng (fun hrg198 => ?_)
                    have hf199 : fr [59] [1858, 1859, 1860] H H197 := fr_t hf134 hx197f (by decide) (by decide)
                    replace hx197z : (H197.1 1826 59) = (H132.1 1826 59) + (cR (H132.1 1832 (((H1.1 c i) - 100)).toNat) 8) := hx197z
                    refine h_run 0 (pc' := 184) (l' := [(0, .inr (.inr 1826)), (1, .inr (.inr c)), (2, .inl 0), (3, .inl (k : Int)), (4, .inl (dp : Int)), (5, .inl (i : Int)), (6, .inl (H1.1 c i)), (7, .inl (ma (H1.1 1833) (H1.1 1830) (H1.1 c i))), (8, .inl 0)]) (st' := []) rfl ?_
                    refine h_run 4 (pc' := 192) (l' := [(0, .inr (.inr 1826)), (1, .inr (.inr c)), (2, .inl 0), (3, .inl (k : Int)), (4, .inl (dp : Int)), (5, .inl (i : Int)), (6, .inl (H1.1 c i)), (7, .inl (ma (H1.1 1833) (H1.1 1830) (H1.1 c i))), (8, .inl 0)]) (st' := [.inl (ma (H1.1 1833) (H1.1 1830) (H1.1 c i)), .inl (dp : Int), .inr (.inr 1859)]) rfl ?_
                    have hnq0 : cR ((H132.1 1828) (H1.1 c i - 1).toNat) 8 = cR ((H1.1 1828) (H1.1 c i - 1).toNat) 8 := by rw [show (H132.1 1828) = (H1.1 1828) from (hx132f.2.1 1828 (by decide) (by decide))]
                    have hnq1 : cR ((H132.1 1832) (H1.1 c i - 100).toNat) 8 = cR ((H1.1 1832) (H1.1 c i - 100).toNat) 8 := by rw [show (H132.1 1832) = (H1.1 1832) from (hx132f.2.1 1832 (by decide) (by decide))]
                    have g200 : -2147483648 ≤ (H197.1 1826 59) ∧ (H197.1 1826 59) ≤ 2147483647 := hrg198.1 1826 13 59 _ .int rfl rfl
                    have hgo : 1 ≤ (H197.1 1826 59) := by unfold lenR at hln; (repeat (first | rw [if_pos (by omega)] at hln | rw [if_neg (by omega)] at hln)); omega
                    refine h_ist (c := 1859) (j := dp) (i := (dp : Int)) (x := (ma (H1.1 1833) (H1.1 1830) (H1.1 c i))) rfl rfl (by decide) (by decide) rfl (by omega) (by omega) ?_
                    refine h_run 4 (pc' := 201) (l' := [(0, .inr (.inr 1826)), (1, .inr (.inr c)), (2, .inl 0), (3, .inl (k : Int)), (4, .inl (dp : Int)), (5, .inl (i : Int)), (6, .inl (H1.1 c i)), (7, .inl (ma (H1.1 1833) (H1.1 1830) (H1.1 c i))), (8, .inl 0)]) (st' := [.inl 0, .inl (dp : Int), .inr (.inr 1860)]) rfl ?_
                    refine h_bst (c := 1860) (j := dp) (i := (dp : Int)) (x := 0) (Or.inr rfl) rfl rfl (by decide) (by decide) rfl (by omega) (show (0 : Int) ≤ 0 ∧ 0 ≤ 1 by omega) ?_
                    refine h_run 1 (pc' := 205) (l' := [(0, .inr (.inr 1826)), (1, .inr (.inr c)), (2, .inl 0), (3, .inl (k : Int)), (4, .inl ((dp : Int) + 1)), (5, .inl (i : Int)), (6, .inl (H1.1 c i)), (7, .inl (ma (H1.1 1833) (H1.1 1830) (H1.1 c i))), (8, .inl 0)]) (st' := []) rfl ?_
                    refine h_loc [0, 1, 2, 3, 4, 5] rfl ?_
                    rw [show ((dp : Int) + 1) = (((dp + 1) : Nat) : Int) by omega]
                    exact ih.2 _ (dp + 1) i (fr_a (fr_a hf199 (by decide)) (by decide)) (by omega) (by omega : 1 ≤ (H197.1 1826 59)) (by first | exact Or.inl (show JL9 (ma (H.1 1833) (H.1 1830)) (lenR (H.1 1832) (H.1 1828)) (H.1 c) (up (H197.1 1859) dp (ma (H1.1 1833) (H1.1 1830) (H1.1 c i))) (up (H197.1 1860) dp (0 : Int)) (H197.1 1826 59) (dp + 1) i from (by rw [show (H197.1 1859) = (H1.1 1859) from ((hx197f.2.1 1859 (by decide) (by decide)).trans (hx132f.2.1 1859 (by decide) (by decide))), show (H197.1 1860) = (H1.1 1860) from ((hx197f.2.1 1860 (by decide) (by decide)).trans (hx132f.2.1 1860 (by decide) (by decide)))]; rw [show (ma (H1.1 1833) (H1.1 1830) (H1.1 c i)) = 0 by omega]; exact J_leaf hJ hw9 (by omega) (by rw [← eFN, ← eCN, ← es]; unfold lenR; (repeat (first | rw [if_pos (by omega)] | rw [if_neg (by omega)])); omega))) | exact Or.inr (show JM9 (ma (H.1 1833) (H.1 1830)) (lenR (H.1 1832) (H.1 1828)) (H.1 c) (up (H197.1 1859) dp (ma (H1.1 1833) (H1.1 1830) (H1.1 c i))) (up (H197.1 1860) dp (0 : Int)) (H197.1 1826 59) (dp + 1) i from (by rw [show (H197.1 1859) = (H1.1 1859) from ((hx197f.2.1 1859 (by decide) (by decide)).trans (hx132f.2.1 1859 (by decide) (by decide))), show (H197.1 1860) = (H1.1 1860) from ((hx197f.2.1 1860 (by decide) (by decide)).trans (hx132f.2.1 1860 (by decide) (by decide)))]; exact J_node hJ hw9 ⟨hae, by omega, by omega⟩ (by first | (rw [if_pos (by omega)]; done) | (rw [if_neg (by omega)]; done)) (by rw [← eFN, ← eCN, ← es]; unfold lenR; (repeat (first | rw [if_pos (by omega)] | rw [if_neg (by omega)])); omega)))) (by omega : 1000 * (k - i) + (dp + 1) < w)
                · refine h_run 3 (pc' := 108) (l' := [(0, .inr (.inr 1826)), (1, .inr (.inr c)), (2, .inl 0), (3, .inl (k : Int)), (4, .inl (dp : Int)), (5, .inl (i : Int)), (6, .inl (H1.1 c i)), (7, .inl (ma (H1.1 1833) (H1.1 1830) (H1.1 c i))), (8, .inl 0)]) (st' := [.inl 2000, .inl (H1.1 c i), .inr (.inr 1826)]) rfl ?_
                  refine h_ilt (off := 8) (t := 116) rfl rfl (by omega) (by decide) (fun c201 => ?_) (fun c201 => ?_)
                  · refine h_run 1 (pc' := 118) (l' := [(0, .inr (.inr 1826)), (1, .inr (.inr c)), (2, .inl 0), (3, .inl (k : Int)), (4, .inl (dp : Int)), (5, .inl (i : Int)), (6, .inl (H1.1 c i)), (7, .inl (ma (H1.1 1833) (H1.1 1830) (H1.1 c i))), (8, .inl 0)]) (st' := [.inl 118, .inr (.inr 1826)]) rfl ?_
                    have g202 : -2147483648 ≤ (H132.1 1826 59) ∧ (H132.1 1826 59) ≤ 2147483647 := hrg133.1 1826 13 59 _ .int rfl rfl
                    refine h_cv (i := 473) (j := 203) (b := 1826) (M' := mt_203) (xs := [.inl 118]) (rest := []) rfl rfl rfl rfl rfl rfl (Nat.le_of_ble_eq_true rfl) (Nat.le_of_ble_eq_true rfl) (by omega) (n_letter (by omega) (by omega : 0 ≤ (H132.1 1826 59) ∧ (H132.1 1826 59) ≤ 7950)) ?_
                    rintro _ H203 ⟨rfl, hx203f, hx203z⟩
                    refine h_rng (fun hrg204 => ?_)
                    have hf205 : fr [59] [1858, 1859, 1860] H H203 := fr_t hf134 hx203f (by decide) (by decide)
                    replace hx203z : (H203.1 1826 59) = (H132.1 1826 59) + 1 := hx203z
                    refine h_run 0 (pc' := 121) (l' := [(0, .inr (.inr 1826)), (1, .inr (.inr c)), (2, .inl 0), (3, .inl (k : Int)), (4, .inl (dp : Int)), (5, .inl (i : Int)), (6, .inl (H1.1 c i)), (7, .inl (ma (H1.1 1833) (H1.1 1830) (H1.1 c i))), (8, .inl 0)]) (st' := []) rfl ?_
                    refine h_run 3 (pc' := 127) (l' := [(0, .inr (.inr 1826)), (1, .inr (.inr c)), (2, .inl 0), (3, .inl (k : Int)), (4, .inl (dp : Int)), (5, .inl (i : Int)), (6, .inl (H1.1 c i)), (7, .inl (ma (H1.1 1833) (H1.1 1830) (H1.1 c i))), (8, .inl 0)]) (st' := [.inl 2000, .inl (H1.1 c i), .inr (.inr 1826)]) rfl ?_
                    refine h_ilt (off := 12) (t := 139) rfl rfl (by omega) (by decide) (fun c206 => ?_) (fun c206 => ?_)
                    · refine h_run 3 (pc' := 145) (l' := [(0, .inr (.inr 1826)), (1, .inr (.inr c)), (2, .inl 0), (3, .inl (k : Int)), (4, .inl (dp : Int)), (5, .inl (i : Int)), (6, .inl (H1.1 c i)), (7, .inl (ma (H1.1 1833) (H1.1 1830) (H1.1 c i))), (8, .inl 0)]) (st' := [.inl ((H1.1 c i) - 1000), .inr (.inr 1826)]) rfl ?_
                      have g207 : -2147483648 ≤ (H203.1 1826 59) ∧ (H203.1 1826 59) ≤ 2147483647 := hrg204.1 1826 13 59 _ .int rfl rfl
                      refine h_cv (i := 476) (j := 205) (b := 1826) (M' := mt_205) (xs := [.inl ((H1.1 c i) - 1000)]) (rest := []) rfl rfl rfl rfl rfl rfl (Nat.le_of_ble_eq_true rfl) (Nat.le_of_ble_eq_true rfl) (by omega) (n_putNumber (by omega) (by omega : 0 ≤ (H203.1 1826 59) ∧ (H203.1 1826 59) ≤ 7900) (by omega)) ?_
                      rintro _ H208 ⟨rfl, hx208f, hx208z⟩
                      refine h_rng (fun hrg209 => ?_)
                      have hf210 : fr [59] [1858, 1859, 1860] H H208 := fr_t hf205 hx208f (by decide) (by decide)
                      replace hx208z : (H208.1 1826 59) = (H203.1 1826 59) + (if 9 < ((H1.1 c i) - 1000) then 2 else 1) := hx208z
                      refine h_run 0 (pc' := 148) (l' := [(0, .inr (.inr 1826)), (1, .inr (.inr c)), (2, .inl 0), (3, .inl (k : Int)), (4, .inl (dp : Int)), (5, .inl (i : Int)), (6, .inl (H1.1 c i)), (7, .inl (ma (H1.1 1833) (H1.1 1830) (H1.1 c i))), (8, .inl 0)]) (st' := []) rfl ?_
                      refine h_run 5 (pc' := 192) (l' := [(0, .inr (.inr 1826)), (1, .inr (.inr c)), (2, .inl 0), (3, .inl (k : Int)), (4, .inl (dp : Int)), (5, .inl (i : Int)), (6, .inl (H1.1 c i)), (7, .inl (ma (H1.1 1833) (H1.1 1830) (H1.1 c i))), (8, .inl 0)]) (st' := [.inl (ma (H1.1 1833) (H1.1 1830) (H1.1 c i)), .inl (dp : Int), .inr (.inr 1859)]) rfl ?_
                      have hnq0 : cR ((H203.1 1828) (H1.1 c i - 1).toNat) 8 = cR ((H1.1 1828) (H1.1 c i - 1).toNat) 8 := by rw [show (H203.1 1828) = (H1.1 1828) from ((hx203f.2.1 1828 (by decide) (by decide)).trans (hx132f.2.1 1828 (by decide) (by decide)))]
                      have hnq1 : cR ((H203.1 1832) (H1.1 c i - 100).toNat) 8 = cR ((H1.1 1832) (H1.1 c i - 100).toNat) 8 := by rw [show (H203.1 1832) = (H1.1 1832) from ((hx203f.2.1 1832 (by decide) (by decide)).trans (hx132f.2.1 1832 (by decide) (by decide)))]
                      have g211 : -2147483648 ≤ (H208.1 1826 59) ∧ (H208.1 1826 59) ≤ 2147483647 := hrg209.1 1826 13 59 _ .int rfl rfl
                      have hgo : 1 ≤ (H208.1 1826 59) := by unfold lenR at hln; (repeat (first | rw [if_pos (by omega)] at hln | rw [if_neg (by omega)] at hln)); omega
                      refine h_ist (c := 1859) (j := dp) (i := (dp : Int)) (x := (ma (H1.1 1833) (H1.1 1830) (H1.1 c i))) rfl rfl (by decide) (by decide) rfl (by omega) (by omega) ?_
                      refine h_run 4 (pc' := 201) (l' := [(0, .inr (.inr 1826)), (1, .inr (.inr c)), (2, .inl 0), (3, .inl (k : Int)), (4, .inl (dp : Int)), (5, .inl (i : Int)), (6, .inl (H1.1 c i)), (7, .inl (ma (H1.1 1833) (H1.1 1830) (H1.1 c i))), (8, .inl 0)]) (st' := [.inl 0, .inl (dp : Int), .inr (.inr 1860)]) rfl ?_
                      refine h_bst (c := 1860) (j := dp) (i := (dp : Int)) (x := 0) (Or.inr rfl) rfl rfl (by decide) (by decide) rfl (by omega) (show (0 : Int) ≤ 0 ∧ 0 ≤ 1 by omega) ?_
                      refine h_run 1 (pc' := 205) (l' := [(0, .inr (.inr 1826)), (1, .inr (.inr c)), (2, .inl 0), (3, .inl (k : Int)), (4, .inl ((dp : Int) + 1)), (5, .inl (i : Int)), (6, .inl (H1.1 c i)), (7, .inl (ma (H1.1 1833) (H1.1 1830) (H1.1 c i))), (8, .inl 0)]) (st' := []) rfl ?_
                      refine h_loc [0, 1, 2, 3, 4, 5] rfl ?_
                      rw [show ((dp : Int) + 1) = (((dp + 1) : Nat) : Int) by omega]
                      exact ih.2 _ (dp + 1) i (fr_a (fr_a hf210 (by decide)) (by decide)) (by omega) (by omega : 1 ≤ (H208.1 1826 59)) (by first | exact Or.inl (show JL9 (ma (H.1 1833) (H.1 1830)) (lenR (H.1 1832) (H.1 1828)) (H.1 c) (up (H208.1 1859) dp (ma (H1.1 1833) (H1.1 1830) (H1.1 c i))) (up (H208.1 1860) dp (0 : Int)) (H208.1 1826 59) (dp + 1) i from (by rw [show (H208.1 1859) = (H1.1 1859) from (((hx208f.2.1 1859 (by decide) (by decide)).trans (hx203f.2.1 1859 (by decide) (by decide))).trans (hx132f.2.1 1859 (by decide) (by decide))), show (H208.1 1860) = (H1.1 1860) from (((hx208f.2.1 1860 (by decide) (by decide)).trans (hx203f.2.1 1860 (by decide) (by decide))).trans (hx132f.2.1 1860 (by decide) (by decide)))]; rw [show (ma (H1.1 1833) (H1.1 1830) (H1.1 c i)) = 0 by omega]; exact J_leaf hJ hw9 (by omega) (by rw [← eFN, ← eCN, ← es]; unfold lenR; (repeat (first | rw [if_pos (by omega)] | rw [if_neg (by omega)])); omega))) | exact Or.inr (show JM9 (ma (H.1 1833) (H.1 1830)) (lenR (H.1 1832) (H.1 1828)) (H.1 c) (up (H208.1 1859) dp (ma (H1.1 1833) (H1.1 1830) (H1.1 c i))) (up (H208.1 1860) dp (0 : Int)) (H208.1 1826 59) (dp + 1) i from (by rw [show (H208.1 1859) = (H1.1 1859) from (((hx208f.2.1 1859 (by decide) (by decide)).trans (hx203f.2.1 1859 (by decide) (by decide))).trans (hx132f.2.1 1859 (by decide) (by decide))), show (H208.1 1860) = (H1.1 1860) from (((hx208f.2.1 1860 (by decide) (by decide)).trans (hx203f.2.1 1860 (by decide) (by decide))).trans (hx132f.2.1 1860 (by decide) (by decide)))]; exact J_node hJ hw9 ⟨hae, by omega, by omega⟩ (by first | (rw [if_pos (by omega)]; done) | (rw [if_neg (by omega)]; done)) (by rw [← eFN, ← eCN, ← es]; unfold lenR; (repeat (first | rw [if_pos (by omega)] | rw [if_neg (by omega)])); omega)))) (by omega : 1000 * (k - i) + (dp + 1) < w)
                    · exfalso
                      omega
                  · refine h_run 2 (pc' := 118) (l' := [(0, .inr (.inr 1826)), (1, .inr (.inr c)), (2, .inl 0), (3, .inl (k : Int)), (4, .inl (dp : Int)), (5, .inl (i : Int)), (6, .inl (H1.1 c i)), (7, .inl (ma (H1.1 1833) (H1.1 1830) (H1.1 c i))), (8, .inl 0)]) (st' := [.inl 102, .inr (.inr 1826)]) rfl ?_
                    have g212 : -2147483648 ≤ (H132.1 1826 59) ∧ (H132.1 1826 59) ≤ 2147483647 := hrg133.1 1826 13 59 _ .int rfl rfl
                    refine h_cv (i := 473) (j := 203) (b := 1826) (M' := mt_203) (xs := [.inl 102]) (rest := []) rfl rfl rfl rfl rfl rfl (Nat.le_of_ble_eq_true rfl) (Nat.le_of_ble_eq_true rfl) (by omega) (n_letter (by omega) (by omega : 0 ≤ (H132.1 1826 59) ∧ (H132.1 1826 59) ≤ 7950)) ?_
                    rintro _ H213 ⟨rfl, hx213f, hx213z⟩
                    refine h_rng (fun hrg214 => ?_)
                    have hf215 : fr [59] [1858, 1859, 1860] H H213 := fr_t hf134 hx213f (by decide) (by decide)
                    replace hx213z : (H213.1 1826 59) = (H132.1 1826 59) + 1 := hx213z
                    refine h_run 0 (pc' := 121) (l' := [(0, .inr (.inr 1826)), (1, .inr (.inr c)), (2, .inl 0), (3, .inl (k : Int)), (4, .inl (dp : Int)), (5, .inl (i : Int)), (6, .inl (H1.1 c i)), (7, .inl (ma (H1.1 1833) (H1.1 1830) (H1.1 c i))), (8, .inl 0)]) (st' := []) rfl ?_
                    refine h_run 3 (pc' := 127) (l' := [(0, .inr (.inr 1826)), (1, .inr (.inr c)), (2, .inl 0), (3, .inl (k : Int)), (4, .inl (dp : Int)), (5, .inl (i : Int)), (6, .inl (H1.1 c i)), (7, .inl (ma (H1.1 1833) (H1.1 1830) (H1.1 c i))), (8, .inl 0)]) (st' := [.inl 2000, .inl (H1.1 c i), .inr (.inr 1826)]) rfl ?_
                    refine h_ilt (off := 12) (t := 139) rfl rfl (by omega) (by decide) (fun c216 => ?_) (fun c216 => ?_)
                    · exfalso
                      omega
                    · refine h_run 4 (pc' := 145) (l' := [(0, .inr (.inr 1826)), (1, .inr (.inr c)), (2, .inl 0), (3, .inl (k : Int)), (4, .inl (dp : Int)), (5, .inl (i : Int)), (6, .inl (H1.1 c i)), (7, .inl (ma (H1.1 1833) (H1.1 1830) (H1.1 c i))), (8, .inl 0)]) (st' := [.inl ((H1.1 c i) - 2000), .inr (.inr 1826)]) rfl ?_
                      have g217 : -2147483648 ≤ (H213.1 1826 59) ∧ (H213.1 1826 59) ≤ 2147483647 := hrg214.1 1826 13 59 _ .int rfl rfl
                      refine h_cv (i := 476) (j := 205) (b := 1826) (M' := mt_205) (xs := [.inl ((H1.1 c i) - 2000)]) (rest := []) rfl rfl rfl rfl rfl rfl (Nat.le_of_ble_eq_true rfl) (Nat.le_of_ble_eq_true rfl) (by omega) (n_putNumber (by omega) (by omega : 0 ≤ (H213.1 1826 59) ∧ (H213.1 1826 59) ≤ 7900) (by omega)) ?_
                      rintro _ H218 ⟨rfl, hx218f, hx218z⟩
                      refine h_rng (fun hrg219 => ?_)
                      have hf220 : fr [59] [1858, 1859, 1860] H H218 := fr_t hf215 hx218f (by decide) (by decide)
                      replace hx218z : (H218.1 1826 59) = (H213.1 1826 59) + (if 9 < ((H1.1 c i) - 2000) then 2 else 1) := hx218z
                      refine h_run 0 (pc' := 148) (l' := [(0, .inr (.inr 1826)), (1, .inr (.inr c)), (2, .inl 0), (3, .inl (k : Int)), (4, .inl (dp : Int)), (5, .inl (i : Int)), (6, .inl (H1.1 c i)), (7, .inl (ma (H1.1 1833) (H1.1 1830) (H1.1 c i))), (8, .inl 0)]) (st' := []) rfl ?_
                      refine h_run 5 (pc' := 192) (l' := [(0, .inr (.inr 1826)), (1, .inr (.inr c)), (2, .inl 0), (3, .inl (k : Int)), (4, .inl (dp : Int)), (5, .inl (i : Int)), (6, .inl (H1.1 c i)), (7, .inl (ma (H1.1 1833) (H1.1 1830) (H1.1 c i))), (8, .inl 0)]) (st' := [.inl (ma (H1.1 1833) (H1.1 1830) (H1.1 c i)), .inl (dp : Int), .inr (.inr 1859)]) rfl ?_
                      have hnq0 : cR ((H213.1 1828) (H1.1 c i - 1).toNat) 8 = cR ((H1.1 1828) (H1.1 c i - 1).toNat) 8 := by rw [show (H213.1 1828) = (H1.1 1828) from ((hx213f.2.1 1828 (by decide) (by decide)).trans (hx132f.2.1 1828 (by decide) (by decide)))]
                      have hnq1 : cR ((H213.1 1832) (H1.1 c i - 100).toNat) 8 = cR ((H1.1 1832) (H1.1 c i - 100).toNat) 8 := by rw [show (H213.1 1832) = (H1.1 1832) from ((hx213f.2.1 1832 (by decide) (by decide)).trans (hx132f.2.1 1832 (by decide) (by decide)))]
                      have g221 : -2147483648 ≤ (H218.1 1826 59) ∧ (H218.1 1826 59) ≤ 2147483647 := hrg219.1 1826 13 59 _ .int rfl rfl
                      have hgo : 1 ≤ (H218.1 1826 59) := by unfold lenR at hln; (repeat (first | rw [if_pos (by omega)] at hln | rw [if_neg (by omega)] at hln)); omega
                      refine h_ist (c := 1859) (j := dp) (i := (dp : Int)) (x := (ma (H1.1 1833) (H1.1 1830) (H1.1 c i))) rfl rfl (by decide) (by decide) rfl (by omega) (by omega) ?_
                      refine h_run 4 (pc' := 201) (l' := [(0, .inr (.inr 1826)), (1, .inr (.inr c)), (2, .inl 0), (3, .inl (k : Int)), (4, .inl (dp : Int)), (5, .inl (i : Int)), (6, .inl (H1.1 c i)), (7, .inl (ma (H1.1 1833) (H1.1 1830) (H1.1 c i))), (8, .inl 0)]) (st' := [.inl 0, .inl (dp : Int), .inr (.inr 1860)]) rfl ?_
                      refine h_bst (c := 1860) (j := dp) (i := (dp : Int)) (x := 0) (Or.inr rfl) rfl rfl (by decide) (by decide) rfl (by omega) (show (0 : Int) ≤ 0 ∧ 0 ≤ 1 by omega) ?_
                      refine h_run 1 (pc' := 205) (l' := [(0, .inr (.inr 1826)), (1, .inr (.inr c)), (2, .inl 0), (3, .inl (k : Int)), (4, .inl ((dp : Int) + 1)), (5, .inl (i : Int)), (6, .inl (H1.1 c i)), (7, .inl (ma (H1.1 1833) (H1.1 1830) (H1.1 c i))), (8, .inl 0)]) (st' := []) rfl ?_
                      refine h_loc [0, 1, 2, 3, 4, 5] rfl ?_
                      rw [show ((dp : Int) + 1) = (((dp + 1) : Nat) : Int) by omega]
                      exact ih.2 _ (dp + 1) i (fr_a (fr_a hf220 (by decide)) (by decide)) (by omega) (by omega : 1 ≤ (H218.1 1826 59)) (by first | exact Or.inl (show JL9 (ma (H.1 1833) (H.1 1830)) (lenR (H.1 1832) (H.1 1828)) (H.1 c) (up (H218.1 1859) dp (ma (H1.1 1833) (H1.1 1830) (H1.1 c i))) (up (H218.1 1860) dp (0 : Int)) (H218.1 1826 59) (dp + 1) i from (by rw [show (H218.1 1859) = (H1.1 1859) from (((hx218f.2.1 1859 (by decide) (by decide)).trans (hx213f.2.1 1859 (by decide) (by decide))).trans (hx132f.2.1 1859 (by decide) (by decide))), show (H218.1 1860) = (H1.1 1860) from (((hx218f.2.1 1860 (by decide) (by decide)).trans (hx213f.2.1 1860 (by decide) (by decide))).trans (hx132f.2.1 1860 (by decide) (by decide)))]; rw [show (ma (H1.1 1833) (H1.1 1830) (H1.1 c i)) = 0 by omega]; exact J_leaf hJ hw9 (by omega) (by rw [← eFN, ← eCN, ← es]; unfold lenR; (repeat (first | rw [if_pos (by omega)] | rw [if_neg (by omega)])); omega))) | exact Or.inr (show JM9 (ma (H.1 1833) (H.1 1830)) (lenR (H.1 1832) (H.1 1828)) (H.1 c) (up (H218.1 1859) dp (ma (H1.1 1833) (H1.1 1830) (H1.1 c i))) (up (H218.1 1860) dp (0 : Int)) (H218.1 1826 59) (dp + 1) i from (by rw [show (H218.1 1859) = (H1.1 1859) from (((hx218f.2.1 1859 (by decide) (by decide)).trans (hx213f.2.1 1859 (by decide) (by decide))).trans (hx132f.2.1 1859 (by decide) (by decide))), show (H218.1 1860) = (H1.1 1860) from (((hx218f.2.1 1860 (by decide) (by decide)).trans (hx213f.2.1 1860 (by decide) (by decide))).trans (hx132f.2.1 1860 (by decide) (by decide)))]; exact J_node hJ hw9 ⟨hae, by omega, by omega⟩ (by first | (rw [if_pos (by omega)]; done) | (rw [if_neg (by omega)]; done)) (by rw [← eFN, ← eCN, ← es]; unfold lenR; (repeat (first | rw [if_pos (by omega)] | rw [if_neg (by omega)])); omega)))) (by omega : 1000 * (k - i) + (dp + 1) < w)
              · refine h_run 2 (pc' := 88) (l' := [(0, .inr (.inr 1826)), (1, .inr (.inr c)), (2, .inl 0), (3, .inl (k : Int)), (4, .inl (dp : Int)), (5, .inl (i : Int)), (6, .inl (H1.1 c i)), (7, .inl (ma (H1.1 1833) (H1.1 1830) (H1.1 c i))), (8, .inl 0)]) (st' := [.inl 95, .inr (.inr 1826)]) rfl ?_
                have g222 : -2147483648 ≤ (H132.1 1826 59) ∧ (H132.1 1826 59) ≤ 2147483647 := hrg133.1 1826 13 59 _ .int rfl rfl
                refine h_cv (i := 473) (j := 203) (b := 1826) (M' := mt_203) (xs := [.inl 95]) (rest := []) rfl rfl rfl rfl rfl rfl (Nat.le_of_ble_eq_true rfl) (Nat.le_of_ble_eq_true rfl) (by omega) (n_letter (by omega) (by omega : 0 ≤ (H132.1 1826 59) ∧ (H132.1 1826 59) ≤ 7950)) ?_
                rintro _ H223 ⟨rfl, hx223f, hx223z⟩
                refine h_rng (fun hrg224 => ?_)
                have hf225 : fr [59] [1858, 1859, 1860] H H223 := fr_t hf134 hx223f (by decide) (by decide)
                replace hx223z : (H223.1 1826 59) = (H132.1 1826 59) + 1 := hx223z
                refine h_run 0 (pc' := 91) (l' := [(0, .inr (.inr 1826)), (1, .inr (.inr c)), (2, .inl 0), (3, .inl (k : Int)), (4, .inl (dp : Int)), (5, .inl (i : Int)), (6, .inl (H1.1 c i)), (7, .inl (ma (H1.1 1833) (H1.1 1830) (H1.1 c i))), (8, .inl 0)]) (st' := []) rfl ?_
                refine h_run 5 (pc' := 192) (l' := [(0, .inr (.inr 1826)), (1, .inr (.inr c)), (2, .inl 0), (3, .inl (k : Int)), (4, .inl (dp : Int)), (5, .inl (i : Int)), (6, .inl (H1.1 c i)), (7, .inl (ma (H1.1 1833) (H1.1 1830) (H1.1 c i))), (8, .inl 0)]) (st' := [.inl (ma (H1.1 1833) (H1.1 1830) (H1.1 c i)), .inl (dp : Int), .inr (.inr 1859)]) rfl ?_
                have hnq0 : cR ((H132.1 1828) (H1.1 c i - 1).toNat) 8 = cR ((H1.1 1828) (H1.1 c i - 1).toNat) 8 := by rw [show (H132.1 1828) = (H1.1 1828) from (hx132f.2.1 1828 (by decide) (by decide))]
                have hnq1 : cR ((H132.1 1832) (H1.1 c i - 100).toNat) 8 = cR ((H1.1 1832) (H1.1 c i - 100).toNat) 8 := by rw [show (H132.1 1832) = (H1.1 1832) from (hx132f.2.1 1832 (by decide) (by decide))]
                have g226 : -2147483648 ≤ (H223.1 1826 59) ∧ (H223.1 1826 59) ≤ 2147483647 := hrg224.1 1826 13 59 _ .int rfl rfl
                have hgo : 1 ≤ (H223.1 1826 59) := by unfold lenR at hln; (repeat (first | rw [if_pos (by omega)] at hln | rw [if_neg (by omega)] at hln)); omega
                refine h_ist (c := 1859) (j := dp) (i := (dp : Int)) (x := (ma (H1.1 1833) (H1.1 1830) (H1.1 c i))) rfl rfl (by decide) (by decide) rfl (by omega) (by omega) ?_
                refine h_run 4 (pc' := 201) (l' := [(0, .inr (.inr 1826)), (1, .inr (.inr c)), (2, .inl 0), (3, .inl (k : Int)), (4, .inl (dp : Int)), (5, .inl (i : Int)), (6, .inl (H1.1 c i)), (7, .inl (ma (H1.1 1833) (H1.1 1830) (H1.1 c i))), (8, .inl 0)]) (st' := [.inl 0, .inl (dp : Int), .inr (.inr 1860)]) rfl ?_
                refine h_bst (c := 1860) (j := dp) (i := (dp : Int)) (x := 0) (Or.inr rfl) rfl rfl (by decide) (by decide) rfl (by omega) (show (0 : Int) ≤ 0 ∧ 0 ≤ 1 by omega) ?_
                refine h_run 1 (pc' := 205) (l' := [(0, .inr (.inr 1826)), (1, .inr (.inr c)), (2, .inl 0), (3, .inl (k : Int)), (4, .inl ((dp : Int) + 1)), (5, .inl (i : Int)), (6, .inl (H1.1 c i)), (7, .inl (ma (H1.1 1833) (H1.1 1830) (H1.1 c i))), (8, .inl 0)]) (st' := []) rfl ?_
                refine h_loc [0, 1, 2, 3, 4, 5] rfl ?_
                rw [show ((dp : Int) + 1) = (((dp + 1) : Nat) : Int) by omega]
                exact ih.2 _ (dp + 1) i (fr_a (fr_a hf225 (by decide)) (by decide)) (by omega) (by omega : 1 ≤ (H223.1 1826 59)) (by first | exact Or.inl (show JL9 (ma (H.1 1833) (H.1 1830)) (lenR (H.1 1832) (H.1 1828)) (H.1 c) (up (H223.1 1859) dp (ma (H1.1 1833) (H1.1 1830) (H1.1 c i))) (up (H223.1 1860) dp (0 : Int)) (H223.1 1826 59) (dp + 1) i from (by rw [show (H223.1 1859) = (H1.1 1859) from ((hx223f.2.1 1859 (by decide) (by decide)).trans (hx132f.2.1 1859 (by decide) (by decide))), show (H223.1 1860) = (H1.1 1860) from ((hx223f.2.1 1860 (by decide) (by decide)).trans (hx132f.2.1 1860 (by decide) (by decide)))]; rw [show (ma (H1.1 1833) (H1.1 1830) (H1.1 c i)) = 0 by omega]; exact J_leaf hJ hw9 (by omega) (by rw [← eFN, ← eCN, ← es]; unfold lenR; (repeat (first | rw [if_pos (by omega)] | rw [if_neg (by omega)])); omega))) | exact Or.inr (show JM9 (ma (H.1 1833) (H.1 1830)) (lenR (H.1 1832) (H.1 1828)) (H.1 c) (up (H223.1 1859) dp (ma (H1.1 1833) (H1.1 1830) (H1.1 c i))) (up (H223.1 1860) dp (0 : Int)) (H223.1 1826 59) (dp + 1) i from (by rw [show (H223.1 1859) = (H1.1 1859) from ((hx223f.2.1 1859 (by decide) (by decide)).trans (hx132f.2.1 1859 (by decide) (by decide))), show (H223.1 1860) = (H1.1 1860) from ((hx223f.2.1 1860 (by decide) (by decide)).trans (hx132f.2.1 1860 (by decide) (by decide)))]; exact J_node hJ hw9 ⟨hae, by omega, by omega⟩ (by first | (rw [if_pos (by omega)]; done) | (rw [if_neg (by omega)]; done)) (by rw [← eFN, ← eCN, ← es]; unfold lenR; (repeat (first | rw [if_pos (by omega)] | rw [if_neg (by omega)])); omega)))) (by omega : 1000 * (k - i) + (dp + 1) < w)
            · refine h_run 4 (pc' := 71) (l' := [(0, .inr (.inr 1826)), (1, .inr (.inr c)), (2, .inl 0), (3, .inl (k : Int)), (4, .inl (dp : Int)), (5, .inl (i : Int)), (6, .inl (H1.1 c i)), (7, .inl (ma (H1.1 1833) (H1.1 1830) (H1.1 c i))), (8, .inl 1)]) (st' := [.inl 1]) rfl ?_
              refine h_zeq (off := 9) (t := 80) rfl rfl (by decide) (fun c => absurd c (by decide)) (fun _ => ?_)
              refine h_run 2 (pc' := 77) (l' := [(0, .inr (.inr 1826)), (1, .inr (.inr c)), (2, .inl 0), (3, .inl (k : Int)), (4, .inl (dp : Int)), (5, .inl (i : Int)), (6, .inl (H1.1 c i)), (7, .inl (ma (H1.1 1833) (H1.1 1830) (H1.1 c i))), (8, .inl 1)]) (st' := [.inl 40, .inr (.inr 1826)]) rfl ?_
              have g227 : -2147483648 ≤ (H132.1 1826 59) ∧ (H132.1 1826 59) ≤ 2147483647 := hrg133.1 1826 13 59 _ .int rfl rfl
              refine h_cv (i := 473) (j := 203) (b := 1826) (M' := mt_203) (xs := [.inl 40]) (rest := []) rfl rfl rfl rfl rfl rfl (Nat.le_of_ble_eq_true rfl) (Nat.le_of_ble_eq_true rfl) (by omega) (n_letter (by omega) (by omega : 0 ≤ (H132.1 1826 59) ∧ (H132.1 1826 59) ≤ 7950)) ?_
              rintro _ H228 ⟨rfl, hx228f, hx228z⟩
              refine h_rng (fun hrg229 => ?_)
              have hf230 : fr [59] [1858, 1859, 1860] H H228 := fr_t hf134 hx228f (by decide) (by decide)
              replace hx228z : (H228.1 1826 59) = (H132.1 1826 59) + 1 := hx228z
              refine h_run 0 (pc' := 80) (l' := [(0, .inr (.inr 1826)), (1, .inr (.inr c)), (2, .inl 0), (3, .inl (k : Int)), (4, .inl (dp : Int)), (5, .inl (i : Int)), (6, .inl (H1.1 c i)), (7, .inl (ma (H1.1 1833) (H1.1 1830) (H1.1 c i))), (8, .inl 1)]) (st' := []) rfl ?_
              refine h_run 1 (pc' := 82) (l' := [(0, .inr (.inr 1826)), (1, .inr (.inr c)), (2, .inl 0), (3, .inl (k : Int)), (4, .inl (dp : Int)), (5, .inl (i : Int)), (6, .inl (H1.1 c i)), (7, .inl (ma (H1.1 1833) (H1.1 1830) (H1.1 c i))), (8, .inl 1)]) (st' := [.inl (H1.1 c i)]) rfl ?_
              refine h_zne (off := 12) (t := 94) rfl rfl (by omega) (fun c231 => ?_) (fun c231 => ?_)
              · refine h_run 2 (pc' := 99) (l' := [(0, .inr (.inr 1826)), (1, .inr (.inr c)), (2, .inl 0), (3, .inl (k : Int)), (4, .inl (dp : Int)), (5, .inl (i : Int)), (6, .inl (H1.1 c i)), (7, .inl (ma (H1.1 1833) (H1.1 1830) (H1.1 c i))), (8, .inl 1)]) (st' := [.inl 1000, .inl (H1.1 c i)]) rfl ?_
                refine h_ilt (off := 52) (t := 151) rfl rfl (by omega) (by decide) (fun c232 => ?_) (fun c232 => ?_)
                · refine h_run 3 (pc' := 156) (l' := [(0, .inr (.inr 1826)), (1, .inr (.inr c)), (2, .inl 0), (3, .inl (k : Int)), (4, .inl (dp : Int)), (5, .inl (i : Int)), (6, .inl (H1.1 c i)), (7, .inl (ma (H1.1 1833) (H1.1 1830) (H1.1 c i))), (8, .inl 1)]) (st' := [.inl 100, .inl (H1.1 c i), .inr (.inr 1826)]) rfl ?_
                  refine h_ilt (off := 16) (t := 172) rfl rfl (by omega) (by decide) (fun c233 => ?_) (fun c233 => ?_)
                  · refine h_run 5 (pc' := 180) (l' := [(0, .inr (.inr 1826)), (1, .inr (.inr c)), (2, .inl 0), (3, .inl (k : Int)), (4, .inl (dp : Int)), (5, .inl (i : Int)), (6, .inl (H1.1 c i)), (7, .inl (ma (H1.1 1833) (H1.1 1830) (H1.1 c i))), (8, .inl 1)]) (st' := [.inl ((H1.1 c i) - 1), .inr (.inr 1828), .inr (.inr 1826)]) rfl ?_
                    refine h_lld (c := 1828) (j := (((H1.1 c i) - 1)).toNat) (i := ((H1.1 c i) - 1)) rfl rfl (by decide) (by omega) (by omega) ?_
                    have g234 : -9223372036854775808 ≤ (H228.1 1828 (((H1.1 c i) - 1)).toNat) ∧ (H228.1 1828 (((H1.1 c i) - 1)).toNat) ≤ 9223372036854775807 := hrg229.2 1828 (((H1.1 c i) - 1)).toNat 16 .long rfl (by omega)
                    have e235 : (H228.1 1828 (((H1.1 c i) - 1)).toNat) = (H132.1 1828 (((H1.1 c i) - 1)).toNat) := congrFun (hx228f.2.1 1828 (by decide) (by decide)) (((H1.1 c i) - 1)).toNat
                    have e236 : (H132.1 1828 (((H1.1 c i) - 1)).toNat) = (H1.1 1828 (((H1.1 c i) - 1)).toNat) := congrFun (hx132f.2.1 1828 (by decide) (by decide)) (((H1.1 c i) - 1)).toNat
                    have e237 : (H1.1 1828 (((H1.1 c i) - 1)).toNat) = (H.1 1828 (((H1.1 c i) - 1)).toNat) := congrFun (hf.2.1 1828 (by decide) (by decide)) (((H1.1 c i) - 1)).toNat
                    refine h_run 0 (pc' := 181) (l' := [(0, .inr (.inr 1826)), (1, .inr (.inr c)), (2, .inl 0), (3, .inl (k : Int)), (4, .inl (dp : Int)), (5, .inl (i : Int)), (6, .inl (H1.1 c i)), (7, .inl (ma (H1.1 1833) (H1.1 1830) (H1.1 c i))), (8, .inl 1)]) (st' := [.inr (.inl (H228.1 1828 (((H1.1 c i) - 1)).toNat)), .inr (.inr 1826)]) rfl ?_
                    have g238 : -2147483648 ≤ (H228.1 1826 59) ∧ (H228.1 1826 59) ≤ 2147483647 := hrg229.1 1826 13 59 _ .int rfl rfl
                    refine h_cv (i := 479) (j := 204) (b := 1826) (M' := mt_204) (xs := [.inr (.inl (H228.1 1828 (((H1.1 c i) - 1)).toNat))]) (rest := []) rfl rfl rfl rfl rfl rfl (Nat.le_of_ble_eq_true rfl) (Nat.le_of_ble_eq_true rfl) (by omega) (n_putName (by omega) (by omega : 0 ≤ (H228.1 1826 59) ∧ (H228.1 1826 59) ≤ 7900)) ?_
                    rintro _ H239 ⟨rfl, hx239f, hx239z⟩
                    refine h_rng (fun hrg240 => ?_)
                    have hf241 : fr [59] [1858, 1859, 1860] H H239 := fr_t hf230 hx239f (by decide) (by decide)
                    replace hx239z : (H239.1 1826 59) = (H228.1 1826 59) + (cR (H228.1 1828 (((H1.1 c i) - 1)).toNat) 8) := hx239z
                    refine h_run 0 (pc' := 184) (l' := [(0, .inr (.inr 1826)), (1, .inr (.inr c)), (2, .inl 0), (3, .inl (k : Int)), (4, .inl (dp : Int)), (5, .inl (i : Int)), (6, .inl (H1.1 c i)), (7, .inl (ma (H1.1 1833) (H1.1 1830) (H1.1 c i))), (8, .inl 1)]) (st' := []) rfl ?_
                    refine h_run 4 (pc' := 192) (l' := [(0, .inr (.inr 1826)), (1, .inr (.inr c)), (2, .inl 0), (3, .inl (k : Int)), (4, .inl (dp : Int)), (5, .inl (i : Int)), (6, .inl (H1.1 c i)), (7, .inl (ma (H1.1 1833) (H1.1 1830) (H1.1 c i))), (8, .inl 1)]) (st' := [.inl (ma (H1.1 1833) (H1.1 1830) (H1.1 c i)), .inl (dp : Int), .inr (.inr 1859)]) rfl ?_
                    have hnq0 : cR ((H228.1 1828) (H1.1 c i - 1).toNat) 8 = cR ((H1.1 1828) (H1.1 c i - 1).toNat) 8 := by rw [show (H228.1 1828) = (H1.1 1828) from ((hx228f.2.1 1828 (by decide) (by decide)).trans (hx132f.2.1 1828 (by decide) (by decide)))]
                    have hnq1 : cR ((H228.1 1832) (H1.1 c i - 100).toNat) 8 = cR ((H1.1 1832) (H1.1 c i - 100).toNat) 8 := by rw [show (H228.1 1832) = (H1.1 1832) from ((hx228f.2.1 1832 (by decide) (by decide)).trans (hx132f.2.1 1832 (by decide) (by decide)))]
                    have g242 : -2147483648 ≤ (H239.1 1826 59) ∧ (H239.1 1826 59) ≤ 2147483647 := hrg240.1 1826 13 59 _ .int rfl rfl
                    have hgo : 1 ≤ (H239.1 1826 59) := by unfold lenR at hln; (repeat (first | rw [if_pos (by omega)] at hln | rw [if_neg (by omega)] at hln)); omega
                    refine h_ist (c := 1859) (j := dp) (i := (dp : Int)) (x := (ma (H1.1 1833) (H1.1 1830) (H1.1 c i))) rfl rfl (by decide) (by decide) rfl (by omega) (by omega) ?_
                    refine h_run 4 (pc' := 201) (l' := [(0, .inr (.inr 1826)), (1, .inr (.inr c)), (2, .inl 0), (3, .inl (k : Int)), (4, .inl (dp : Int)), (5, .inl (i : Int)), (6, .inl (H1.1 c i)), (7, .inl (ma (H1.1 1833) (H1.1 1830) (H1.1 c i))), (8, .inl 1)]) (st' := [.inl 1, .inl (dp : Int), .inr (.inr 1860)]) rfl ?_
                    refine h_bst (c := 1860) (j := dp) (i := (dp : Int)) (x := 1) (Or.inr rfl) rfl rfl (by decide) (by decide) rfl (by omega) (show (0 : Int) ≤ 1 ∧ 1 ≤ 1 by omega) ?_
                    refine h_run 1 (pc' := 205) (l' := [(0, .inr (.inr 1826)), (1, .inr (.inr c)), (2, .inl 0), (3, .inl (k : Int)), (4, .inl ((dp : Int) + 1)), (5, .inl (i : Int)), (6, .inl (H1.1 c i)), (7, .inl (ma (H1.1 1833) (H1.1 1830) (H1.1 c i))), (8, .inl 1)]) (st' := []) rfl ?_
                    refine h_loc [0, 1, 2, 3, 4, 5] rfl ?_
                    rw [show ((dp : Int) + 1) = (((dp + 1) : Nat) : Int) by omega]
                    exact ih.2 _ (dp + 1) i (fr_a (fr_a hf241 (by decide)) (by decide)) (by omega) (by omega : 1 ≤ (H239.1 1826 59)) (by first | exact Or.inl (show JL9 (ma (H.1 1833) (H.1 1830)) (lenR (H.1 1832) (H.1 1828)) (H.1 c) (up (H239.1 1859) dp (ma (H1.1 1833) (H1.1 1830) (H1.1 c i))) (up (H239.1 1860) dp (1 : Int)) (H239.1 1826 59) (dp + 1) i from (by rw [show (H239.1 1859) = (H1.1 1859) from (((hx239f.2.1 1859 (by decide) (by decide)).trans (hx228f.2.1 1859 (by decide) (by decide))).trans (hx132f.2.1 1859 (by decide) (by decide))), show (H239.1 1860) = (H1.1 1860) from (((hx239f.2.1 1860 (by decide) (by decide)).trans (hx228f.2.1 1860 (by decide) (by decide))).trans (hx132f.2.1 1860 (by decide) (by decide)))]; rw [show (ma (H1.1 1833) (H1.1 1830) (H1.1 c i)) = 0 by omega]; exact J_leaf hJ hw9 (by omega) (by rw [← eFN, ← eCN, ← es]; unfold lenR; (repeat (first | rw [if_pos (by omega)] | rw [if_neg (by omega)])); omega))) | exact Or.inr (show JM9 (ma (H.1 1833) (H.1 1830)) (lenR (H.1 1832) (H.1 1828)) (H.1 c) (up (H239.1 1859) dp (ma (H1.1 1833) (H1.1 1830) (H1.1 c i))) (up (H239.1 1860) dp (1 : Int)) (H239.1 1826 59) (dp + 1) i from (by rw [show (H239.1 1859) = (H1.1 1859) from (((hx239f.2.1 1859 (by decide) (by decide)).trans (hx228f.2.1 1859 (by decide) (by decide))).trans (hx132f.2.1 1859 (by decide) (by decide))), show (H239.1 1860) = (H1.1 1860) from (((hx239f.2.1 1860 (by decide) (by decide)).trans (hx228f.2.1 1860 (by decide) (by decide))).trans (hx132f.2.1 1860 (by decide) (by decide)))]; exact J_node hJ hw9 ⟨hae, by omega, by omega⟩ (by first | (rw [if_pos (by omega)]; done) | (rw [if_neg (by omega)]; done)) (by rw [← eFN, ← eCN, ← es]; unfold lenR; (repeat (first | rw [if_pos (by omega)] | rw [if_neg (by omega)])); omega)))) (by omega : 1000 * (k - i) + (dp + 1) < w)
                  · refine h_run 5 (pc' := 168) (l' := [(0, .inr (.inr 1826)), (1, .inr (.inr c)), (2, .inl 0), (3, .inl (k : Int)), (4, .inl (dp : Int)), (5, .inl (i : Int)), (6, .inl (H1.1 c i)), (7, .inl (ma (H1.1 1833) (H1.1 1830) (H1.1 c i))), (8, .inl 1)]) (st' := [.inl ((H1.1 c i) - 100), .inr (.inr 1832), .inr (.inr 1826)]) rfl ?_
                    refine h_lld (c := 1832) (j := (((H1.1 c i) - 100)).toNat) (i := ((H1.1 c i) - 100)) rfl rfl (by decide) (by omega) (by omega) ?_
                    have g243 : -9223372036854775808 ≤ (H228.1 1832 (((H1.1 c i) - 100)).toNat) ∧ (H228.1 1832 (((H1.1 c i) - 100)).toNat) ≤ 9223372036854775807 := hrg229.2 1832 (((H1.1 c i) - 100)).toNat 16 .long rfl (by omega)
                    have e244 : (H228.1 1832 (((H1.1 c i) - 100)).toNat) = (H132.1 1832 (((H1.1 c i) - 100)).toNat) := congrFun (hx228f.2.1 1832 (by decide) (by decide)) (((H1.1 c i) - 100)).toNat
                    have e245 : (H132.1 1832 (((H1.1 c i) - 100)).toNat) = (H1.1 1832 (((H1.1 c i) - 100)).toNat) := congrFun (hx132f.2.1 1832 (by decide) (by decide)) (((H1.1 c i) - 100)).toNat
                    have e246 : (H1.1 1832 (((H1.1 c i) - 100)).toNat) = (H.1 1832 (((H1.1 c i) - 100)).toNat) := congrFun (hf.2.1 1832 (by decide) (by decide)) (((H1.1 c i) - 100)).toNat
                    refine h_run 0 (pc' := 169) (l' := [(0, .inr (.inr 1826)), (1, .inr (.inr c)), (2, .inl 0), (3, .inl (k : Int)), (4, .inl (dp : Int)), (5, .inl (i : Int)), (6, .inl (H1.1 c i)), (7, .inl (ma (H1.1 1833) (H1.1 1830) (H1.1 c i))), (8, .inl 1)]) (st' := [.inr (.inl (H228.1 1832 (((H1.1 c i) - 100)).toNat)), .inr (.inr 1826)]) rfl ?_
                    refine h_run 1 (pc' := 181) (l' := [(0, .inr (.inr 1826)), (1, .inr (.inr c)), (2, .inl 0), (3, .inl (k : Int)), (4, .inl (dp : Int)), (5, .inl (i : Int)), (6, .inl (H1.1 c i)), (7, .inl (ma (H1.1 1833) (H1.1 1830) (H1.1 c i))), (8, .inl 1)]) (st' := [.inr (.inl (H228.1 1832 (((H1.1 c i) - 100)).toNat)), .inr (.inr 1826)]) rfl ?_
                    have g247 : -2147483648 ≤ (H228.1 1826 59) ∧ (H228.1 1826 59) ≤ 2147483647 := hrg229.1 1826 13 59 _ .int rfl rfl
                    refine h_cv (i := 479) (j := 204) (b := 1826) (M' := mt_204) (xs := [.inr (.inl (H228.1 1832 (((H1.1 c i) - 100)).toNat))]) (rest := []) rfl rfl rfl rfl rfl rfl (Nat.le_of_ble_eq_true rfl) (Nat.le_of_ble_eq_true rfl) (by omega) (n_putName (by omega) (by omega : 0 ≤ (H228.1 1826 59) ∧ (H228.1 1826 59) ≤ 7900)) ?_
                    rintro _ H248 ⟨rfl, hx248f, hx248z⟩
                    refine h_rng (fun hrg249 => ?_)
                    have hf250 : fr [59] [1858, 1859, 1860] H H248 := fr_t hf230 hx248f (by decide) (by decide)
                    replace hx248z : (H248.1 1826 59) = (H228.1 1826 59) + (cR (H228.1 1832 (((H1.1 c i) - 100)).toNat) 8) := hx248z
                    refine h_run 0 (pc' := 184) (l' := [(0, .inr (.inr 1826)), (1, .inr (.inr c)), (2, .inl 0), (3, .inl (k : Int)), (4, .inl (dp : Int)), (5, .inl (i : Int)), (6, .inl (H1.1 c i)), (7, .inl (ma (H1.1 1833) (H1.1 1830) (H1.1 c i))), (8, .inl 1)]) (st' := []) rfl ?_
                    refine h_run 4 (pc' := 192) (l' := [(0, .inr (.inr 1826)), (1, .inr (.inr c)), (2, .inl 0), (3, .inl (k : Int)), (4, .inl (dp : Int)), (5, .inl (i : Int)), (6, .inl (H1.1 c i)), (7, .inl (ma (H1.1 1833) (H1.1 1830) (H1.1 c i))), (8, .inl 1)]) (st' := [.inl (ma (H1.1 1833) (H1.1 1830) (H1.1 c i)), .inl (dp : Int), .inr (.inr 1859)]) rfl ?_
                    have hnq0 : cR ((H228.1 1828) (H1.1 c i - 1).toNat) 8 = cR ((H1.1 1828) (H1.1 c i - 1).toNat) 8 := by rw [show (H228.1 1828) = (H1.1 1828) from ((hx228f.2.1 1828 (by decide) (by decide)).trans (hx132f.2.1 1828 (by decide) (by decide)))]
                    have hnq1 : cR ((H228.1 1832) (H1.1 c i - 100).toNat) 8 = cR ((H1.1 1832) (H1.1 c i - 100).toNat) 8 := by rw [show (H228.1 1832) = (H1.1 1832) from ((hx228f.2.1 1832 (by decide) (by decide)).trans (hx132f.2.1 1832 (by decide) (by decide)))]
                    have g251 : -2147483648 ≤ (H248.1 1826 59) ∧ (H248.1 1826 59) ≤ 2147483647 := hrg249.1 1826 13 59 _ .int rfl rfl
                    have hgo : 1 ≤ (H248.1 1826 59) := by unfold lenR at hln; (repeat (first | rw [if_pos (by omega)] at hln | rw [if_neg (by omega)] at hln)); omega
                    refine h_ist (c := 1859) (j := dp) (i := (dp : Int)) (x := (ma (H1.1 1833) (H1.1 1830) (H1.1 c i))) rfl rfl (by decide) (by decide) rfl (by omega) (by omega) ?_
                    refine h_run 4 (pc' := 201) (l' := [(0, .inr (.inr 1826)), (1, .inr (.inr c)), (2, .inl 0), (3, .inl (k : Int)), (4, .inl (dp : Int)), (5, .inl (i : Int)), (6, .inl (H1.1 c i)), (7, .inl (ma (H1.1 1833) (H1.1 1830) (H1.1 c i))), (8, .inl 1)]) (st' := [.inl 1, .inl (dp : Int), .inr (.inr 1860)]) rfl ?_
                    refine h_bst (c := 1860) (j := dp) (i := (dp : Int)) (x := 1) (Or.inr rfl) rfl rfl (by decide) (by decide) rfl (by omega) (show (0 : Int) ≤ 1 ∧ 1 ≤ 1 by omega) ?_
                    refine h_run 1 (pc' := 205) (l' := [(0, .inr (.inr 1826)), (1, .inr (.inr c)), (2, .inl 0), (3, .inl (k : Int)), (4, .inl ((dp : Int) + 1)), (5, .inl (i : Int)), (6, .inl (H1.1 c i)), (7, .inl (ma (H1.1 1833) (H1.1 1830) (H1.1 c i))), (8, .inl 1)]) (st' := []) rfl ?_
                    refine h_loc [0, 1, 2, 3, 4, 5] rfl ?_
                    rw [show ((dp : Int) + 1) = (((dp + 1) : Nat) : Int) by omega]
                    exact ih.2 _ (dp + 1) i (fr_a (fr_a hf250 (by decide)) (by decide)) (by omega) (by omega : 1 ≤ (H248.1 1826 59)) (by first | exact Or.inl (show JL9 (ma (H.1 1833) (H.1 1830)) (lenR (H.1 1832) (H.1 1828)) (H.1 c) (up (H248.1 1859) dp (ma (H1.1 1833) (H1.1 1830) (H1.1 c i))) (up (H248.1 1860) dp (1 : Int)) (H248.1 1826 59) (dp + 1) i from (by rw [show (H248.1 1859) = (H1.1 1859) from (((hx248f.2.1 1859 (by decide) (by decide)).trans (hx228f.2.1 1859 (by decide) (by decide))).trans (hx132f.2.1 1859 (by decide) (by decide))), show (H248.1 1860) = (H1.1 1860) from (((hx248f.2.1 1860 (by decide) (by decide)).trans (hx228f.2.1 1860 (by decide) (by decide))).trans (hx132f.2.1 1860 (by decide) (by decide)))]; rw [show (ma (H1.1 1833) (H1.1 1830) (H1.1 c i)) = 0 by omega]; exact J_leaf hJ hw9 (by omega) (by rw [← eFN, ← eCN, ← es]; unfold lenR; (repeat (first | rw [if_pos (by omega)] | rw [if_neg (by omega)])); omega))) | exact Or.inr (show JM9 (ma (H.1 1833) (H.1 1830)) (lenR (H.1 1832) (H.1 1828)) (H.1 c) (up (H248.1 1859) dp (ma (H1.1 1833) (H1.1 1830) (H1.1 c i))) (up (H248.1 1860) dp (1 : Int)) (H248.1 1826 59) (dp + 1) i from (by rw [show (H248.1 1859) = (H1.1 1859) from (((hx248f.2.1 1859 (by decide) (by decide)).trans (hx228f.2.1 1859 (by decide) (by decide))).trans (hx132f.2.1 1859 (by decide) (by decide))), show (H248.1 1860) = (H1.1 1860) from (((hx248f.2.1 1860 (by decide) (by decide)).trans (hx228f.2.1 1860 (by decide) (by decide))).trans (hx132f.2.1 1860 (by decide) (by decide)))]; exact J_node hJ hw9 ⟨hae, by omega, by omega⟩ (by first | (rw [if_pos (by omega)]; done) | (rw [if_neg (by omega)]; done)) (by rw [← eFN, ← eCN, ← es]; unfold lenR; (repeat (first | rw [if_pos (by omega)] | rw [if_neg (by omega)])); omega)))) (by omega : 1000 * (k - i) + (dp + 1) < w)
                · refine h_run 3 (pc' := 108) (l' := [(0, .inr (.inr 1826)), (1, .inr (.inr c)), (2, .inl 0), (3, .inl (k : Int)), (4, .inl (dp : Int)), (5, .inl (i : Int)), (6, .inl (H1.1 c i)), (7, .inl (ma (H1.1 1833) (H1.1 1830) (H1.1 c i))), (8, .inl 1)]) (st' := [.inl 2000, .inl (H1.1 c i), .inr (.inr 1826)]) rfl ?_
                  refine h_ilt (off := 8) (t := 116) rfl rfl (by omega) (by decide) (fun c252 => ?_) (fun c252 => ?_)
                  · refine h_run 1 (pc' := 118) (l' := [(0, .inr (.inr 1826)), (1, .inr (.inr c)), (2, .inl 0), (3, .inl (k : Int)), (4, .inl (dp : Int)), (5, .inl (i : Int)), (6, .inl (H1.1 c i)), (7, .inl (ma (H1.1 1833) (H1.1 1830) (H1.1 c i))), (8, .inl 1)]) (st' := [.inl 118, .inr (.inr 1826)]) rfl ?_
                    have g253 : -2147483648 ≤ (H228.1 1826 59) ∧ (H228.1 1826 59) ≤ 2147483647 := hrg229.1 1826 13 59 _ .int rfl rfl
                    refine h_cv (i := 473) (j := 203) (b := 1826) (M' := mt_203) (xs := [.inl 118]) (rest := []) rfl rfl rfl rfl rfl rfl (Nat.le_of_ble_eq_true rfl) (Nat.le_of_ble_eq_true rfl) (by omega) (n_letter (by omega) (by omega : 0 ≤ (H228.1 1826 59) ∧ (H228.1 1826 59) ≤ 7950)) ?_
                    rintro _ H254 ⟨rfl, hx254f, hx254z⟩
                    refine h_rng (fun hrg255 => ?_)
                    have hf256 : fr [59] [1858, 1859, 1860] H H254 := fr_t hf230 hx254f (by decide) (by decide)
                    replace hx254z : (H254.1 1826 59) = (H228.1 1826 59) + 1 := hx254z
                    refine h_run 0 (pc' := 121) (l' := [(0, .inr (.inr 1826)), (1, .inr (.inr c)), (2, .inl 0), (3, .inl (k : Int)), (4, .inl (dp : Int)), (5, .inl (i : Int)), (6, .inl (H1.1 c i)), (7, .inl (ma (H1.1 1833) (H1.1 1830) (H1.1 c i))), (8, .inl 1)]) (st' := []) rfl ?_
                    refine h_run 3 (pc' := 127) (l' := [(0, .inr (.inr 1826)), (1, .inr (.inr c)), (2, .inl 0), (3, .inl (k : Int)), (4, .inl (dp : Int)), (5, .inl (i : Int)), (6, .inl (H1.1 c i)), (7, .inl (ma (H1.1 1833) (H1.1 1830) (H1.1 c i))), (8, .inl 1)]) (st' := [.inl 2000, .inl (H1.1 c i), .inr (.inr 1826)]) rfl ?_
                    refine h_ilt (off := 12) (t := 139) rfl rfl (by omega) (by decide) (fun c257 => ?_) (fun c257 => ?_)
                    · refine h_run 3 (pc' := 145) (l' := [(0, .inr (.inr 1826)), (1, .inr (.inr c)), (2, .inl 0), (3, .inl (k : Int)), (4, .inl (dp : Int)), (5, .inl (i : Int)), (6, .inl (H1.1 c i)), (7, .inl (ma (H1.1 1833) (H1.1 1830) (H1.1 c i))), (8, .inl 1)]) (st' := [.inl ((H1.1 c i) - 1000), .inr (.inr 1826)]) rfl ?_
                      have g258 : -2147483648 ≤ (H254.1 1826 59) ∧ (H254.1 1826 59) ≤ 2147483647 := hrg255.1 1826 13 59 _ .int rfl rfl
                      refine h_cv (i := 476) (j := 205) (b := 1826) (M' := mt_205) (xs := [.inl ((H1.1 c i) - 1000)]) (rest := []) rfl rfl rfl rfl rfl rfl (Nat.le_of_ble_eq_true rfl) (Nat.le_of_ble_eq_true rfl) (by omega) (n_putNumber (by omega) (by omega : 0 ≤ (H254.1 1826 59) ∧ (H254.1 1826 59) ≤ 7900) (by omega)) ?_
                      rintro _ H259 ⟨rfl, hx259f, hx259z⟩
                      refine h_rng (fun hrg260 => ?_)
                      have hf261 : fr [59] [1858, 1859, 1860] H H259 := fr_t hf256 hx259f (by decide) (by decide)
                      replace hx259z : (H259.1 1826 59) = (H254.1 1826 59) + (if 9 < ((H1.1 c i) - 1000) then 2 else 1) := hx259z
                      refine h_run 0 (pc' := 148) (l' := [(0, .inr (.inr 1826)), (1, .inr (.inr c)), (2, .inl 0), (3, .inl (k : Int)), (4, .inl (dp : Int)), (5, .inl (i : Int)), (6, .inl (H1.1 c i)), (7, .inl (ma (H1.1 1833) (H1.1 1830) (H1.1 c i))), (8, .inl 1)]) (st' := []) rfl ?_
                      refine h_run 5 (pc' := 192) (l' := [(0, .inr (.inr 1826)), (1, .inr (.inr c)), (2, .inl 0), (3, .inl (k : Int)), (4, .inl (dp : Int)), (5, .inl (i : Int)), (6, .inl (H1.1 c i)), (7, .inl (ma (H1.1 1833) (H1.1 1830) (H1.1 c i))), (8, .inl 1)]) (st' := [.inl (ma (H1.1 1833) (H1.1 1830) (H1.1 c i)), .inl (dp : Int), .inr (.inr 1859)]) rfl ?_
                      have hnq0 : cR ((H254.1 1828) (H1.1 c i - 1).toNat) 8 = cR ((H1.1 1828) (H1.1 c i - 1).toNat) 8 := by rw [show (H254.1 1828) = (H1.1 1828) from (((hx254f.2.1 1828 (by decide) (by decide)).trans (hx228f.2.1 1828 (by decide) (by decide))).trans (hx132f.2.1 1828 (by decide) (by decide)))]
                      have hnq1 : cR ((H254.1 1832) (H1.1 c i - 100).toNat) 8 = cR ((H1.1 1832) (H1.1 c i - 100).toNat) 8 := by rw [show (H254.1 1832) = (H1.1 1832) from (((hx254f.2.1 1832 (by decide) (by decide)).trans (hx228f.2.1 1832 (by decide) (by decide))).trans (hx132f.2.1 1832 (by decide) (by decide)))]
                      have g262 : -2147483648 ≤ (H259.1 1826 59) ∧ (H259.1 1826 59) ≤ 2147483647 := hrg260.1 1826 13 59 _ .int rfl rfl
                      have hgo : 1 ≤ (H259.1 1826 59) := by unfold lenR at hln; (repeat (first | rw [if_pos (by omega)] at hln | rw [if_neg (by omega)] at hln)); omega
                      refine h_ist (c := 1859) (j := dp) (i := (dp : Int)) (x := (ma (H1.1 1833) (H1.1 1830) (H1.1 c i))) rfl rfl (by decide) (by decide) rfl (by omega) (by omega) ?_
                      refine h_run 4 (pc' := 201) (l' := [(0, .inr (.inr 1826)), (1, .inr (.inr c)), (2, .inl 0), (3, .inl (k : Int)), (4, .inl (dp : Int)), (5, .inl (i : Int)), (6, .inl (H1.1 c i)), (7, .inl (ma (H1.1 1833) (H1.1 1830) (H1.1 c i))), (8, .inl 1)]) (st' := [.inl 1, .inl (dp : Int), .inr (.inr 1860)]) rfl ?_
                      refine h_bst (c := 1860) (j := dp) (i := (dp : Int)) (x := 1) (Or.inr rfl) rfl rfl (by decide) (by decide) rfl (by omega) (show (0 : Int) ≤ 1 ∧ 1 ≤ 1 by omega) ?_
                      refine h_run 1 (pc' := 205) (l' := [(0, .inr (.inr 1826)), (1, .inr (.inr c)), (2, .inl 0), (3, .inl (k : Int)), (4, .inl ((dp : Int) + 1)), (5, .inl (i : Int)), (6, .inl (H1.1 c i)), (7, .inl (ma (H1.1 1833) (H1.1 1830) (H1.1 c i))), (8, .inl 1)]) (st' := []) rfl ?_
                      refine h_loc [0, 1, 2, 3, 4, 5] rfl ?_
                      rw [show ((dp : Int) + 1) = (((dp + 1) : Nat) : Int) by omega]
                      exact ih.2 _ (dp + 1) i (fr_a (fr_a hf261 (by decide)) (by decide)) (by omega) (by omega : 1 ≤ (H259.1 1826 59)) (by first | exact Or.inl (show JL9 (ma (H.1 1833) (H.1 1830)) (lenR (H.1 1832) (H.1 1828)) (H.1 c) (up (H259.1 1859) dp (ma (H1.1 1833) (H1.1 1830) (H1.1 c i))) (up (H259.1 1860) dp (1 : Int)) (H259.1 1826 59) (dp + 1) i from (by rw [show (H259.1 1859) = (H1.1 1859) from ((((hx259f.2.1 1859 (by decide) (by decide)).trans (hx254f.2.1 1859 (by decide) (by decide))).trans (hx228f.2.1 1859 (by decide) (by decide))).trans (hx132f.2.1 1859 (by decide) (by decide))), show (H259.1 1860) = (H1.1 1860) from ((((hx259f.2.1 1860 (by decide) (by decide)).trans (hx254f.2.1 1860 (by decide) (by decide))).trans (hx228f.2.1 1860 (by decide) (by decide))).trans (hx132f.2.1 1860 (by decide) (by decide)))]; rw [show (ma (H1.1 1833) (H1.1 1830) (H1.1 c i)) = 0 by omega]; exact J_leaf hJ hw9 (by omega) (by rw [← eFN, ← eCN, ← es]; unfold lenR; (repeat (first | rw [if_pos (by omega)] | rw [if_neg (by omega)])); omega))) | exact Or.inr (show JM9 (ma (H.1 1833) (H.1 1830)) (lenR (H.1 1832) (H.1 1828)) (H.1 c) (up (H259.1 1859) dp (ma (H1.1 1833) (H1.1 1830) (H1.1 c i))) (up (H259.1 1860) dp (1 : Int)) (H259.1 1826 59) (dp + 1) i from (by rw [show (H259.1 1859) = (H1.1 1859) from ((((hx259f.2.1 1859 (by decide) (by decide)).trans (hx254f.2.1 1859 (by decide) (by decide))).trans (hx228f.2.1 1859 (by decide) (by decide))).trans (hx132f.2.1 1859 (by decide) (by decide))), show (H259.1 1860) = (H1.1 1860) from ((((hx259f.2.1 1860 (by decide) (by decide)).trans (hx254f.2.1 1860 (by decide) (by decide))).trans (hx228f.2.1 1860 (by decide) (by decide))).trans (hx132f.2.1 1860 (by decide) (by decide)))]; exact J_node hJ hw9 ⟨hae, by omega, by omega⟩ (by first | (rw [if_pos (by omega)]; done) | (rw [if_neg (by omega)]; done)) (by rw [← eFN, ← eCN, ← es]; unfold lenR; (repeat (first | rw [if_pos (by omega)] | rw [if_neg (by omega)])); omega)))) (by omega : 1000 * (k - i) + (dp + 1) < w)
                    · exfalso
                      omega
                  · refine h_run 2 (pc' := 118) (l' := [(0, .inr (.inr 1826)), (1, .inr (.inr c)), (2, .inl 0), (3, .inl (k : Int)), (4, .inl (dp : Int)), (5, .inl (i : Int)), (6, .inl (H1.1 c i)), (7, .inl (ma (H1.1 1833) (H1.1 1830) (H1.1 c i))), (8, .inl 1)]) (st' := [.inl 102, .inr (.inr 1826)]) rfl ?_
                    have g263 : -2147483648 ≤ (H228.1 1826 59) ∧ (H228.1 1826 59) ≤ 2147483647 := hrg229.1 1826 13 59 _ .int rfl rfl
                    refine h_cv (i := 473) (j := 203) (b := 1826) (M' := mt_203) (xs := [.inl 102]) (rest := []) rfl rfl rfl rfl rfl rfl (Nat.le_of_ble_eq_true rfl) (Nat.le_of_ble_eq_true rfl) (by omega) (n_letter (by omega) (by omega : 0 ≤ (H228.1 1826 59) ∧ (H228.1 1826 59) ≤ 7950)) ?_
                    rintro _ H264 ⟨rfl, hx264f, hx264z⟩
                    refine h_rng (fun hrg265 => ?_)
                    have hf266 : fr [59] [1858, 1859, 1860] H H264 := fr_t hf230 hx264f (by decide) (by decide)
                    replace hx264z : (H264.1 1826 59) = (H228.1 1826 59) + 1 := hx264z
                    refine h_run 0 (pc' := 121) (l' := [(0, .inr (.inr 1826)), (1, .inr (.inr c)), (2, .inl 0), (3, .inl (k : Int)), (4, .inl (dp : Int)), (5, .inl (i : Int)), (6, .inl (H1.1 c i)), (7, .inl (ma (H1.1 1833) (H1.1 1830) (H1.1 c i))), (8, .inl 1)]) (st' := []) rfl ?_
                    refine h_run 3 (pc' := 127) (l' := [(0, .inr (.inr 1826)), (1, .inr (.inr c)), (2, .inl 0), (3, .inl (k : Int)), (4, .inl (dp : Int)), (5, .inl (i : Int)), (6, .inl (H1.1 c i)), (7, .inl (ma (H1.1 1833) (H1.1 1830) (H1.1 c i))), (8, .inl 1)]) (st' := [.inl 2000, .inl (H1.1 c i), .inr (.inr 1826)]) rfl ?_
                    refine h_ilt (off := 12) (t := 139) rfl rfl (by omega) (by decide) (fun c267 => ?_) (fun c267 => ?_)
                    · exfalso
                      omega
                    · refine h_run 4 (pc' := 145) (l' := [(0, .inr (.inr 1826)), (1, .inr (.inr c)), (2, .inl 0), (3, .inl (k : Int)), (4, .inl (dp : Int)), (5, .inl (i : Int)), (6, .inl (H1.1 c i)), (7, .inl (ma (H1.1 1833) (H1.1 1830) (H1.1 c i))), (8, .inl 1)]) (st' := [.inl ((H1.1 c i) - 2000), .inr (.inr 1826)]) rfl ?_
                      have g268 : -2147483648 ≤ (H264.1 1826 59) ∧ (H264.1 1826 59) ≤ 2147483647 := hrg265.1 1826 13 59 _ .int rfl rfl
                      refine h_cv (i := 476) (j := 205) (b := 1826) (M' := mt_205) (xs := [.inl ((H1.1 c i) - 2000)]) (rest := []) rfl rfl rfl rfl rfl rfl (Nat.le_of_ble_eq_true rfl) (Nat.le_of_ble_eq_true rfl) (by omega) (n_putNumber (by omega) (by omega : 0 ≤ (H264.1 1826 59) ∧ (H264.1 1826 59) ≤ 7900) (by omega)) ?_
                      rintro _ H269 ⟨rfl, hx269f, hx269z⟩
                      refine h_rng (fun hrg270 => ?_)
                      have hf271 : fr [59] [1858, 1859, 1860] H H269 := fr_t hf266 hx269f (by decide) (by decide)
                      replace hx269z : (H269.1 1826 59) = (H264.1 1826 59) + (if 9 < ((H1.1 c i) - 2000) then 2 else 1) := hx269z
                      refine h_run 0 (pc' := 148) (l' := [(0, .inr (.inr 1826)), (1, .inr (.inr c)), (2, .inl 0), (3, .inl (k : Int)), (4, .inl (dp : Int)), (5, .inl (i : Int)), (6, .inl (H1.1 c i)), (7, .inl (ma (H1.1 1833) (H1.1 1830) (H1.1 c i))), (8, .inl 1)]) (st' := []) rfl ?_
                      refine h_run 5 (pc' := 192) (l' := [(0, .inr (.inr 1826)), (1, .inr (.inr c)), (2, .inl 0), (3, .inl (k : Int)), (4, .inl (dp : Int)), (5, .inl (i : Int)), (6, .inl (H1.1 c i)), (7, .inl (ma (H1.1 1833) (H1.1 1830) (H1.1 c i))), (8, .inl 1)]) (st' := [.inl (ma (H1.1 1833) (H1.1 1830) (H1.1 c i)), .inl (dp : Int), .inr (.inr 1859)]) rfl ?_
                      have hnq0 : cR ((H264.1 1828) (H1.1 c i - 1).toNat) 8 = cR ((H1.1 1828) (H1.1 c i - 1).toNat) 8 := by rw [show (H264.1 1828) = (H1.1 1828) from (((hx264f.2.1 1828 (by decide) (by decide)).trans (hx228f.2.1 1828 (by decide) (by decide))).trans (hx132f.2.1 1828 (by decide) (by decide)))]
                      have hnq1 : cR ((H264.1 1832) (H1.1 c i - 100).toNat) 8 = cR ((H1.1 1832) (H1.1 c i - 100).toNat) 8 := by rw [show (H264.1 1832) = (H1.1 1832) from (((hx264f.2.1 1832 (by decide) (by decide)).trans (hx228f.2.1 1832 (by decide) (by decide))).trans (hx132f.2.1 1832 (by decide) (by decide)))]
                      have g272 : -2147483648 ≤ (H269.1 1826 59) ∧ (H269.1 1826 59) ≤ 2147483647 := hrg270.1 1826 13 59 _ .int rfl rfl
                      have hgo : 1 ≤ (H269.1 1826 59) := by unfold lenR at hln; (repeat (first | rw [if_pos (by omega)] at hln | rw [if_neg (by omega)] at hln)); omega
                      refine h_ist (c := 1859) (j := dp) (i := (dp : Int)) (x := (ma (H1.1 1833) (H1.1 1830) (H1.1 c i))) rfl rfl (by decide) (by decide) rfl (by omega) (by omega) ?_
                      refine h_run 4 (pc' := 201) (l' := [(0, .inr (.inr 1826)), (1, .inr (.inr c)), (2, .inl 0), (3, .inl (k : Int)), (4, .inl (dp : Int)), (5, .inl (i : Int)), (6, .inl (H1.1 c i)), (7, .inl (ma (H1.1 1833) (H1.1 1830) (H1.1 c i))), (8, .inl 1)]) (st' := [.inl 1, .inl (dp : Int), .inr (.inr 1860)]) rfl ?_
                      refine h_bst (c := 1860) (j := dp) (i := (dp : Int)) (x := 1) (Or.inr rfl) rfl rfl (by decide) (by decide) rfl (by omega) (show (0 : Int) ≤ 1 ∧ 1 ≤ 1 by omega) ?_
                      refine h_run 1 (pc' := 205) (l' := [(0, .inr (.inr 1826)), (1, .inr (.inr c)), (2, .inl 0), (3, .inl (k : Int)), (4, .inl ((dp : Int) + 1)), (5, .inl (i : Int)), (6, .inl (H1.1 c i)), (7, .inl (ma (H1.1 1833) (H1.1 1830) (H1.1 c i))), (8, .inl 1)]) (st' := []) rfl ?_
                      refine h_loc [0, 1, 2, 3, 4, 5] rfl ?_
                      rw [show ((dp : Int) + 1) = (((dp + 1) : Nat) : Int) by omega]
                      exact ih.2 _ (dp + 1) i (fr_a (fr_a hf271 (by decide)) (by decide)) (by omega) (by omega : 1 ≤ (H269.1 1826 59)) (by first | exact Or.inl (show JL9 (ma (H.1 1833) (H.1 1830)) (lenR (H.1 1832) (H.1 1828)) (H.1 c) (up (H269.1 1859) dp (ma (H1.1 1833) (H1.1 1830) (H1.1 c i))) (up (H269.1 1860) dp (1 : Int)) (H269.1 1826 59) (dp + 1) i from (by rw [show (H269.1 1859) = (H1.1 1859) from ((((hx269f.2.1 1859 (by decide) (by decide)).trans (hx264f.2.1 1859 (by decide) (by decide))).trans (hx228f.2.1 1859 (by decide) (by decide))).trans (hx132f.2.1 1859 (by decide) (by decide))), show (H269.1 1860) = (H1.1 1860) from ((((hx269f.2.1 1860 (by decide) (by decide)).trans (hx264f.2.1 1860 (by decide) (by decide))).trans (hx228f.2.1 1860 (by decide) (by decide))).trans (hx132f.2.1 1860 (by decide) (by decide)))]; rw [show (ma (H1.1 1833) (H1.1 1830) (H1.1 c i)) = 0 by omega]; exact J_leaf hJ hw9 (by omega) (by rw [← eFN, ← eCN, ← es]; unfold lenR; (repeat (first | rw [if_pos (by omega)] | rw [if_neg (by omega)])); omega))) | exact Or.inr (show JM9 (ma (H.1 1833) (H.1 1830)) (lenR (H.1 1832) (H.1 1828)) (H.1 c) (up (H269.1 1859) dp (ma (H1.1 1833) (H1.1 1830) (H1.1 c i))) (up (H269.1 1860) dp (1 : Int)) (H269.1 1826 59) (dp + 1) i from (by rw [show (H269.1 1859) = (H1.1 1859) from ((((hx269f.2.1 1859 (by decide) (by decide)).trans (hx264f.2.1 1859 (by decide) (by decide))).trans (hx228f.2.1 1859 (by decide) (by decide))).trans (hx132f.2.1 1859 (by decide) (by decide))), show (H269.1 1860) = (H1.1 1860) from ((((hx269f.2.1 1860 (by decide) (by decide)).trans (hx264f.2.1 1860 (by decide) (by decide))).trans (hx228f.2.1 1860 (by decide) (by decide))).trans (hx132f.2.1 1860 (by decide) (by decide)))]; exact J_node hJ hw9 ⟨hae, by omega, by omega⟩ (by first | (rw [if_pos (by omega)]; done) | (rw [if_neg (by omega)]; done)) (by rw [← eFN, ← eCN, ← es]; unfold lenR; (repeat (first | rw [if_pos (by omega)] | rw [if_neg (by omega)])); omega)))) (by omega : 1000 * (k - i) + (dp + 1) < w)
              · refine h_run 2 (pc' := 88) (l' := [(0, .inr (.inr 1826)), (1, .inr (.inr c)), (2, .inl 0), (3, .inl (k : Int)), (4, .inl (dp : Int)), (5, .inl (i : Int)), (6, .inl (H1.1 c i)), (7, .inl (ma (H1.1 1833) (H1.1 1830) (H1.1 c i))), (8, .inl 1)]) (st' := [.inl 95, .inr (.inr 1826)]) rfl ?_
                have g273 : -2147483648 ≤ (H228.1 1826 59) ∧ (H228.1 1826 59) ≤ 2147483647 := hrg229.1 1826 13 59 _ .int rfl rfl
                refine h_cv (i := 473) (j := 203) (b := 1826) (M' := mt_203) (xs := [.inl 95]) (rest := []) rfl rfl rfl rfl rfl rfl (Nat.le_of_ble_eq_true rfl) (Nat.le_of_ble_eq_true rfl) (by omega) (n_letter (by omega) (by omega : 0 ≤ (H228.1 1826 59) ∧ (H228.1 1826 59) ≤ 7950)) ?_
                rintro _ H274 ⟨rfl, hx274f, hx274z⟩
                refine h_rng (fun hrg275 => ?_)
                have hf276 : fr [59] [1858, 1859, 1860] H H274 := fr_t hf230 hx274f (by decide) (by decide)
                replace hx274z : (H274.1 1826 59) = (H228.1 1826 59) + 1 := hx274z
                refine h_run 0 (pc' := 91) (l' := [(0, .inr (.inr 1826)), (1, .inr (.inr c)), (2, .inl 0), (3, .inl (k : Int)), (4, .inl (dp : Int)), (5, .inl (i : Int)), (6, .inl (H1.1 c i)), (7, .inl (ma (H1.1 1833) (H1.1 1830) (H1.1 c i))), (8, .inl 1)]) (st' := []) rfl ?_
                refine h_run 5 (pc' := 192) (l' := [(0, .inr (.inr 1826)), (1, .inr (.inr c)), (2, .inl 0), (3, .inl (k : Int)), (4, .inl (dp : Int)), (5, .inl (i : Int)), (6, .inl (H1.1 c i)), (7, .inl (ma (H1.1 1833) (H1.1 1830) (H1.1 c i))), (8, .inl 1)]) (st' := [.inl (ma (H1.1 1833) (H1.1 1830) (H1.1 c i)), .inl (dp : Int), .inr (.inr 1859)]) rfl ?_
                have hnq0 : cR ((H228.1 1828) (H1.1 c i - 1).toNat) 8 = cR ((H1.1 1828) (H1.1 c i - 1).toNat) 8 := by rw [show (H228.1 1828) = (H1.1 1828) from ((hx228f.2.1 1828 (by decide) (by decide)).trans (hx132f.2.1 1828 (by decide) (by decide)))]
                have hnq1 : cR ((H228.1 1832) (H1.1 c i - 100).toNat) 8 = cR ((H1.1 1832) (H1.1 c i - 100).toNat) 8 := by rw [show (H228.1 1832) = (H1.1 1832) from ((hx228f.2.1 1832 (by decide) (by decide)).trans (hx132f.2.1 1832 (by decide) (by decide)))]
                have g277 : -2147483648 ≤ (H274.1 1826 59) ∧ (H274.1 1826 59) ≤ 2147483647 := hrg275.1 1826 13 59 _ .int rfl rfl
                have hgo : 1 ≤ (H274.1 1826 59) := by unfold lenR at hln; (repeat (first | rw [if_pos (by omega)] at hln | rw [if_neg (by omega)] at hln)); omega
                refine h_ist (c := 1859) (j := dp) (i := (dp : Int)) (x := (ma (H1.1 1833) (H1.1 1830) (H1.1 c i))) rfl rfl (by decide) (by decide) rfl (by omega) (by omega) ?_
                refine h_run 4 (pc' := 201) (l' := [(0, .inr (.inr 1826)), (1, .inr (.inr c)), (2, .inl 0), (3, .inl (k : Int)), (4, .inl (dp : Int)), (5, .inl (i : Int)), (6, .inl (H1.1 c i)), (7, .inl (ma (H1.1 1833) (H1.1 1830) (H1.1 c i))), (8, .inl 1)]) (st' := [.inl 1, .inl (dp : Int), .inr (.inr 1860)]) rfl ?_
                refine h_bst (c := 1860) (j := dp) (i := (dp : Int)) (x := 1) (Or.inr rfl) rfl rfl (by decide) (by decide) rfl (by omega) (show (0 : Int) ≤ 1 ∧ 1 ≤ 1 by omega) ?_
                refine h_run 1 (pc' := 205) (l' := [(0, .inr (.inr 1826)), (1, .inr (.inr c)), (2, .inl 0), (3, .inl (k : Int)), (4, .inl ((dp : Int) + 1)), (5, .inl (i : Int)), (6, .inl (H1.1 c i)), (7, .inl (ma (H1.1 1833) (H1.1 1830) (H1.1 c i))), (8, .inl 1)]) (st' := []) rfl ?_
                refine h_loc [0, 1, 2, 3, 4, 5] rfl ?_
                rw [show ((dp : Int) + 1) = (((dp + 1) : Nat) : Int) by omega]
                exact ih.2 _ (dp + 1) i (fr_a (fr_a hf276 (by decide)) (by decide)) (by omega) (by omega : 1 ≤ (H274.1 1826 59)) (by first | exact Or.inl (show JL9 (ma (H.1 1833) (H.1 1830)) (lenR (H.1 1832) (H.1 1828)) (H.1 c) (up (H274.1 1859) dp (ma (H1.1 1833) (H1.1 1830) (H1.1 c i))) (up (H274.1 1860) dp (1 : Int)) (H274.1 1826 59) (dp + 1) i from (by rw [show (H274.1 1859) = (H1.1 1859) from (((hx274f.2.1 1859 (by decide) (by decide)).trans (hx228f.2.1 1859 (by decide) (by decide))).trans (hx132f.2.1 1859 (by decide) (by decide))), show (H274.1 1860) = (H1.1 1860) from (((hx274f.2.1 1860 (by decide) (by decide)).trans (hx228f.2.1 1860 (by decide) (by decide))).trans (hx132f.2.1 1860 (by decide) (by decide)))]; rw [show (ma (H1.1 1833) (H1.1 1830) (H1.1 c i)) = 0 by omega]; exact J_leaf hJ hw9 (by omega) (by rw [← eFN, ← eCN, ← es]; unfold lenR; (repeat (first | rw [if_pos (by omega)] | rw [if_neg (by omega)])); omega))) | exact Or.inr (show JM9 (ma (H.1 1833) (H.1 1830)) (lenR (H.1 1832) (H.1 1828)) (H.1 c) (up (H274.1 1859) dp (ma (H1.1 1833) (H1.1 1830) (H1.1 c i))) (up (H274.1 1860) dp (1 : Int)) (H274.1 1826 59) (dp + 1) i from (by rw [show (H274.1 1859) = (H1.1 1859) from (((hx274f.2.1 1859 (by decide) (by decide)).trans (hx228f.2.1 1859 (by decide) (by decide))).trans (hx132f.2.1 1859 (by decide) (by decide))), show (H274.1 1860) = (H1.1 1860) from (((hx274f.2.1 1860 (by decide) (by decide)).trans (hx228f.2.1 1860 (by decide) (by decide))).trans (hx132f.2.1 1860 (by decide) (by decide)))]; exact J_node hJ hw9 ⟨hae, by omega, by omega⟩ (by first | (rw [if_pos (by omega)]; done) | (rw [if_neg (by omega)]; done)) (by rw [← eFN, ← eCN, ← es]; unfold lenR; (repeat (first | rw [if_pos (by omega)] | rw [if_neg (by omega)])); omega)))) (by omega : 1000 * (k - i) + (dp + 1) < w)
    · intro H1 dp i hf hi hz hJ hw
      refine h_rng (fun hrg278 => ?_)
      obtain ⟨⟨pb1, pb2, pb3, pb4, pb5⟩, pw1, pw2, pw3, pw4⟩ := (id hP : PW H (H.1 1826 1) (H.1 1826 3) (H.1 1826 8) (H.1 1826 13) (H.1 1826 19))
      have hjl := JLM_le hJ (fun c9 => lenR_b _ _ c9)
      refine h_run 1 (pc' := 207) (l' := [(0, .inr (.inr 1826)), (1, .inr (.inr c)), (2, .inl 0), (3, .inl (k : Int)), (4, .inl (dp : Int)), (5, .inl (i : Int))]) (st' := [.inl (dp : Int)]) rfl ?_
      refine h_zle (off := 55) (t := 262) rfl rfl (by omega) (fun c279 => ?_) (fun c279 => ?_)
      · refine h_run 2 (pc' := 18) (l' := [(0, .inr (.inr 1826)), (1, .inr (.inr c)), (2, .inl 0), (3, .inl (k : Int)), (4, .inl (dp : Int)), (5, .inl ((i : Int) + 1))]) (st' := []) rfl ?_
        have g280 : -2147483648 ≤ (H1.1 1826 59) ∧ (H1.1 1826 59) ≤ 2147483647 := hrg278.1 1826 13 59 _ .int rfl rfl
        rw [show ((i : Int) + 1) = (((i + 1) : Nat) : Int) by omega]
        exact ih.1 _ dp (i + 1) hf (by omega) (by omega : 0 ≤ (H1.1 1826 59) ∧ (1 ≤ (i + 1) → 1 ≤ (H1.1 1826 59))) (by first | exact hJ.elim (fun q => absurd q.1.1 (by omega)) (fun q => JM_p q (Or.inl (by omega))) | exact hJ.elim (fun q => absurd q.1.2.1 (by rw [show dp - 1 = ((dp : Int) - 1).toNat by omega]; omega)) (fun q => JM_p q (Or.inr (by rw [show dp - 1 = ((dp : Int) - 1).toNat by omega]; omega)))) (by omega : 1000 * (k - (i + 1)) + 900 < w)
      · refine h_run 5 (pc' := 218) (l' := [(0, .inr (.inr 1826)), (1, .inr (.inr c)), (2, .inl 0), (3, .inl (k : Int)), (4, .inl (dp : Int)), (5, .inl (i : Int))]) (st' := [.inl ((dp : Int) - 1), .inr (.inr 1859)]) rfl ?_
        refine h_ild (c := 1859) (j := (((dp : Int) - 1)).toNat) (i := ((dp : Int) - 1)) rfl rfl (by decide) (by omega) (by omega) ?_
        have g281 : -2147483648 ≤ (H1.1 1859 (((dp : Int) - 1)).toNat) ∧ (H1.1 1859 (((dp : Int) - 1)).toNat) ≤ 2147483647 := hrg278.2 1859 (((dp : Int) - 1)).toNat 400 .int rfl (by omega)
        refine h_run 0 (pc' := 219) (l' := [(0, .inr (.inr 1826)), (1, .inr (.inr c)), (2, .inl 0), (3, .inl (k : Int)), (4, .inl (dp : Int)), (5, .inl (i : Int))]) (st' := [.inl (H1.1 1859 (((dp : Int) - 1)).toNat)]) rfl ?_
        refine h_zne (off := 43) (t := 262) rfl rfl (by omega) (fun c282 => ?_) (fun c282 => ?_)
        · refine h_run 2 (pc' := 18) (l' := [(0, .inr (.inr 1826)), (1, .inr (.inr c)), (2, .inl 0), (3, .inl (k : Int)), (4, .inl (dp : Int)), (5, .inl ((i : Int) + 1))]) (st' := []) rfl ?_
          have g283 : -2147483648 ≤ (H1.1 1826 59) ∧ (H1.1 1826 59) ≤ 2147483647 := hrg278.1 1826 13 59 _ .int rfl rfl
          rw [show ((i : Int) + 1) = (((i + 1) : Nat) : Int) by omega]
          exact ih.1 _ dp (i + 1) hf (by omega) (by omega : 0 ≤ (H1.1 1826 59) ∧ (1 ≤ (i + 1) → 1 ≤ (H1.1 1826 59))) (by first | exact hJ.elim (fun q => absurd q.1.1 (by omega)) (fun q => JM_p q (Or.inl (by omega))) | exact hJ.elim (fun q => absurd q.1.2.1 (by rw [show dp - 1 = ((dp : Int) - 1).toNat by omega]; omega)) (fun q => JM_p q (Or.inr (by rw [show dp - 1 = ((dp : Int) - 1).toNat by omega]; omega)))) (by omega : 1000 * (k - (i + 1)) + 900 < w)
        · refine h_run 1 (pc' := 225) (l' := [(0, .inr (.inr 1826)), (1, .inr (.inr c)), (2, .inl 0), (3, .inl (k : Int)), (4, .inl ((dp : Int) + (-1))), (5, .inl (i : Int))]) (st' := []) rfl ?_
          obtain ⟨e, he⟩ : ∃ e : Nat, dp = e + 1 := ⟨dp - 1, by omega⟩
          have hl0 : (H1.1 1859) e = 0 := by rw [show e = ((dp : Int) - 1).toNat by omega]; omega
          rw [he] at hJ
          rw [show ((dp : Int) + (-1)) = (e : Int) by omega]
          refine h_run 3 (pc' := 231) (l' := [(0, .inr (.inr 1826)), (1, .inr (.inr c)), (2, .inl 0), (3, .inl (k : Int)), (4, .inl (e : Int)), (5, .inl (i : Int))]) (st' := [.inl (e : Int), .inr (.inr 1860)]) rfl ?_
          refine h_bld (c := 1860) (j := e) (i := (e : Int)) (Or.inr rfl) rfl rfl (by decide) rfl (by omega) ?_
          have g284 : 0 ≤ (H1.1 1860 e) ∧ (H1.1 1860 e) ≤ 1 := hrg278.2 1860 e 400 .boolean rfl (by omega)
          refine h_run 0 (pc' := 232) (l' := [(0, .inr (.inr 1826)), (1, .inr (.inr c)), (2, .inl 0), (3, .inl (k : Int)), (4, .inl (e : Int)), (5, .inl (i : Int))]) (st' := [.inl (H1.1 1860 e)]) rfl ?_
          refine h_zeq (off := 9) (t := 241) rfl rfl (by omega) (fun c285 => ?_) (fun c285 => ?_)
          · refine h_run 1 (pc' := 243) (l' := [(0, .inr (.inr 1826)), (1, .inr (.inr c)), (2, .inl 0), (3, .inl (k : Int)), (4, .inl (e : Int)), (5, .inl (i : Int))]) (st' := [.inl (e : Int)]) rfl ?_
            refine h_zle (off := -38) (t := 205) rfl rfl (by omega) (fun c286 => ?_) (fun c286 => ?_)
            · have g287 : -2147483648 ≤ (H1.1 1826 59) ∧ (H1.1 1826 59) ≤ 2147483647 := hrg278.1 1826 13 59 _ .int rfl rfl
              exact ih.2 _ e i hf (by omega) (by omega : 1 ≤ (H1.1 1826 59)) (by have e0 : e = 0 := (by omega); subst e0; exact Or.inr (hJ.elim (fun q => JL_0 q) (fun q => JM_0 q hl0))) (by omega : 1000 * (k - i) + e < w)
            · refine h_run 6 (pc' := 255) (l' := [(0, .inr (.inr 1826)), (1, .inr (.inr c)), (2, .inl 0), (3, .inl (k : Int)), (4, .inl (e : Int)), (5, .inl (i : Int))]) (st' := [.inl ((e : Int) - 1), .inr (.inr 1859), .inl ((e : Int) - 1), .inr (.inr 1859)]) rfl ?_
              refine h_ild (c := 1859) (j := (((e : Int) - 1)).toNat) (i := ((e : Int) - 1)) rfl rfl (by decide) (by omega) (by omega) ?_
              have g288 : -2147483648 ≤ (H1.1 1859 (((e : Int) - 1)).toNat) ∧ (H1.1 1859 (((e : Int) - 1)).toNat) ≤ 2147483647 := hrg278.2 1859 (((e : Int) - 1)).toNat 400 .int rfl (by omega)
              refine h_run 0 (pc' := 256) (l' := [(0, .inr (.inr 1826)), (1, .inr (.inr c)), (2, .inl 0), (3, .inl (k : Int)), (4, .inl (e : Int)), (5, .inl (i : Int))]) (st' := [.inl (H1.1 1859 (((e : Int) - 1)).toNat), .inl ((e : Int) - 1), .inr (.inr 1859)]) rfl ?_
              have hlk9 : 1 ≤ (H1.1 1859 (((e : Int) - 1)).toNat) ∧ (H1.1 1859 (((e : Int) - 1)).toNat) ≤ 4 := by rw [show ((e : Int) - 1).toNat = e - 1 by omega]; exact hJ.elim (fun q => (q.2.1 (e - 1) (by rw [Nat.add_sub_cancel]; omega)).1) (fun q => q.2.1 (e - 1) (by omega))
              refine h_run 2 (pc' := 258) (l' := [(0, .inr (.inr 1826)), (1, .inr (.inr c)), (2, .inl 0), (3, .inl (k : Int)), (4, .inl (e : Int)), (5, .inl (i : Int))]) (st' := [.inl ((H1.1 1859 (((e : Int) - 1)).toNat) - 1), .inl ((e : Int) - 1), .inr (.inr 1859)]) rfl ?_
              refine h_ist (c := 1859) (j := (((e : Int) - 1)).toNat) (i := ((e : Int) - 1)) (x := ((H1.1 1859 (((e : Int) - 1)).toNat) - 1)) rfl rfl (by decide) (by decide) (by omega) (by omega) (by omega) ?_
              refine h_run 1 (pc' := 205) (l' := [(0, .inr (.inr 1826)), (1, .inr (.inr c)), (2, .inl 0), (3, .inl (k : Int)), (4, .inl (e : Int)), (5, .inl (i : Int))]) (st' := []) rfl ?_
              have g289 : -2147483648 ≤ (H1.1 1826 59) ∧ (H1.1 1826 59) ≤ 2147483647 := hrg278.1 1826 13 59 _ .int rfl rfl
              exact ih.2 _ e i (fr_a hf (by decide)) (by omega) (by omega : 1 ≤ (H1.1 1826 59)) (Or.inr (show JM9 (ma (H.1 1833) (H.1 1830)) (lenR (H.1 1832) (H.1 1828)) (H.1 c) (up (H1.1 1859) (((e : Int) - 1)).toNat ((H1.1 1859 (((e : Int) - 1)).toNat) - 1)) (H1.1 1860) (H1.1 1826 59) e i from (by rw [show (H1.1 1859) = (H1.1 1859) from rfl, show (H1.1 1860) = (H1.1 1860) from rfl, show (((((e : Int) - 1)).toNat) : Nat) = e - 1 by omega]; exact hJ.elim (fun q => JL_1 q (by omega)) (fun q => absurd (q.1 e (by omega)) (by rw [if_neg (by omega)]; omega))))) (by omega : 1000 * (k - i) + e < w)
          · refine h_run 2 (pc' := 238) (l' := [(0, .inr (.inr 1826)), (1, .inr (.inr c)), (2, .inl 0), (3, .inl (k : Int)), (4, .inl (e : Int)), (5, .inl (i : Int))]) (st' := [.inl 41, .inr (.inr 1826)]) rfl ?_
            have g290 : -2147483648 ≤ (H1.1 1826 59) ∧ (H1.1 1826 59) ≤ 2147483647 := hrg278.1 1826 13 59 _ .int rfl rfl
            refine h_cv (i := 473) (j := 203) (b := 1826) (M' := mt_203) (xs := [.inl 41]) (rest := []) rfl rfl rfl rfl rfl rfl (Nat.le_of_ble_eq_true rfl) (Nat.le_of_ble_eq_true rfl) (by omega) (n_letter (by omega) (by omega : 0 ≤ (H1.1 1826 59) ∧ (H1.1 1826 59) ≤ 7950)) ?_
            rintro _ H291 ⟨rfl, hx291f, hx291z⟩
            refine h_rng (fun hrg292 => ?_)
            have hf293 : fr [59] [1858, 1859, 1860] H H291 := fr_t hf hx291f (by decide) (by decide)
            replace hx291z : (H291.1 1826 59) = (H1.1 1826 59) + 1 := hx291z
            refine h_run 0 (pc' := 241) (l' := [(0, .inr (.inr 1826)), (1, .inr (.inr c)), (2, .inl 0), (3, .inl (k : Int)), (4, .inl (e : Int)), (5, .inl (i : Int))]) (st' := []) rfl ?_
            refine h_run 1 (pc' := 243) (l' := [(0, .inr (.inr 1826)), (1, .inr (.inr c)), (2, .inl 0), (3, .inl (k : Int)), (4, .inl (e : Int)), (5, .inl (i : Int))]) (st' := [.inl (e : Int)]) rfl ?_
            refine h_zle (off := -38) (t := 205) rfl rfl (by omega) (fun c294 => ?_) (fun c294 => ?_)
            · have g295 : -2147483648 ≤ (H291.1 1826 59) ∧ (H291.1 1826 59) ≤ 2147483647 := hrg292.1 1826 13 59 _ .int rfl rfl
              exact ih.2 _ e i hf293 (by omega) (by omega : 1 ≤ (H291.1 1826 59)) (by exfalso; have e0 : e = 0 := (by omega); subst e0; exact hJ.elim (fun q => absurd q.1.2.2 (by rw [Nat.add_sub_cancel]; omega)) (fun q => absurd (q.1 0 (by omega)) (by rw [if_pos rfl]; omega))) (by omega : 1000 * (k - i) + e < w)
            · refine h_run 6 (pc' := 255) (l' := [(0, .inr (.inr 1826)), (1, .inr (.inr c)), (2, .inl 0), (3, .inl (k : Int)), (4, .inl (e : Int)), (5, .inl (i : Int))]) (st' := [.inl ((e : Int) - 1), .inr (.inr 1859), .inl ((e : Int) - 1), .inr (.inr 1859)]) rfl ?_
              refine h_ild (c := 1859) (j := (((e : Int) - 1)).toNat) (i := ((e : Int) - 1)) rfl rfl (by decide) (by omega) (by omega) ?_
              have g296 : -2147483648 ≤ (H291.1 1859 (((e : Int) - 1)).toNat) ∧ (H291.1 1859 (((e : Int) - 1)).toNat) ≤ 2147483647 := hrg292.2 1859 (((e : Int) - 1)).toNat 400 .int rfl (by omega)
              have e297 : (H291.1 1859 (((e : Int) - 1)).toNat) = (H1.1 1859 (((e : Int) - 1)).toNat) := congrFun (hx291f.2.1 1859 (by decide) (by decide)) (((e : Int) - 1)).toNat
              refine h_run 0 (pc' := 256) (l' := [(0, .inr (.inr 1826)), (1, .inr (.inr c)), (2, .inl 0), (3, .inl (k : Int)), (4, .inl (e : Int)), (5, .inl (i : Int))]) (st' := [.inl (H291.1 1859 (((e : Int) - 1)).toNat), .inl ((e : Int) - 1), .inr (.inr 1859)]) rfl ?_
              have hlk9 : 1 ≤ (H291.1 1859 (((e : Int) - 1)).toNat) ∧ (H291.1 1859 (((e : Int) - 1)).toNat) ≤ 4 := by rw [show (H291.1 1859) = (H1.1 1859) from (hx291f.2.1 1859 (by decide) (by decide))]; rw [show ((e : Int) - 1).toNat = e - 1 by omega]; exact hJ.elim (fun q => (q.2.1 (e - 1) (by rw [Nat.add_sub_cancel]; omega)).1) (fun q => q.2.1 (e - 1) (by omega))
              refine h_run 2 (pc' := 258) (l' := [(0, .inr (.inr 1826)), (1, .inr (.inr c)), (2, .inl 0), (3, .inl (k : Int)), (4, .inl (e : Int)), (5, .inl (i : Int))]) (st' := [.inl ((H291.1 1859 (((e : Int) - 1)).toNat) - 1), .inl ((e : Int) - 1), .inr (.inr 1859)]) rfl ?_
              refine h_ist (c := 1859) (j := (((e : Int) - 1)).toNat) (i := ((e : Int) - 1)) (x := ((H291.1 1859 (((e : Int) - 1)).toNat) - 1)) rfl rfl (by decide) (by decide) (by omega) (by omega) (by omega) ?_
              refine h_run 1 (pc' := 205) (l' := [(0, .inr (.inr 1826)), (1, .inr (.inr c)), (2, .inl 0), (3, .inl (k : Int)), (4, .inl (e : Int)), (5, .inl (i : Int))]) (st' := []) rfl ?_
              have g298 : -2147483648 ≤ (H291.1 1826 59) ∧ (H291.1 1826 59) ≤ 2147483647 := hrg292.1 1826 13 59 _ .int rfl rfl
              exact ih.2 _ e i (fr_a hf293 (by decide)) (by omega) (by omega : 1 ≤ (H291.1 1826 59)) (Or.inr (show JM9 (ma (H.1 1833) (H.1 1830)) (lenR (H.1 1832) (H.1 1828)) (H.1 c) (up (H291.1 1859) (((e : Int) - 1)).toNat ((H291.1 1859 (((e : Int) - 1)).toNat) - 1)) (H291.1 1860) (H291.1 1826 59) e i from (by rw [show (H291.1 1859) = (H1.1 1859) from (hx291f.2.1 1859 (by decide) (by decide)), show (H291.1 1860) = (H1.1 1860) from (hx291f.2.1 1860 (by decide) (by decide)), show (((((e : Int) - 1)).toNat) : Nat) = e - 1 by omega]; rw [show (H291.1 1826 59) = (H1.1 1826 59) + 1 by omega]; exact hJ.elim (fun q => absurd q.1.2.2 (by rw [Nat.add_sub_cancel]; omega)) (fun q => JM_1 q (by omega) hl0)))) (by omega : 1000 * (k - i) + e < w)
set_option maxRecDepth 100000 in
theorem n_print {zC : Nat → Option zsh} {d : Nat} (hd : 3 ≤ d) {H : hp} {c n k : Nat} {ok : Int → Prop} (hc : zs zC c = some (.inr (.int, n))) (hn : n ≤ 100000) (hcm : c ≠ 1826 ∧ c ∉ [1858, 1859, 1860]) (hok : ∀ s, ok s → sg0 s) (hP : PWc H) (hT : tm (ma (H.1 1833) (H.1 1830)) ok (H.1 c) k 0 1) (hk : k ≤ n ∧ k ≤ 240) (hk1 : 1 ≤ k) (hwn : ∀ i : Nat, i < k → 1 ≤ wn (ma (H.1 1833) (H.1 1830)) (H.1 c) i) (hw0 : wn (ma (H.1 1833) (H.1 1830)) (H.1 c) k = 0) (hlen : ∀ i : Nat, i < k → 1 ≤ (lenR (H.1 1832) (H.1 1828)) (H.1 c i)) : hG (zs zC) d mt_206 0 (zargs 0 [.inr (.inr 1826), .inr (.inr c), .inl 0]) [] H (fun r9 H2 => r9 = none ∧ fr [59] [1858, 1859, 1860] H H2 ∧ (H2.1 1826 59) = bs (ma (H.1 1833) (H.1 1830)) (lenR (H.1 1832) (H.1 1828)) (H.1 c) k) := by
  refine h_rng (fun hrg0 => ?_)
  refine h_run 0 (pc' := 0) (l' := [(0, .inr (.inr 1826)), (1, .inr (.inr c)), (2, .inl 0)]) (st' := []) rfl ?_
  obtain ⟨⟨pb1, pb2, pb3, pb4, pb5⟩, pw1, pw2, pw3, pw4⟩ := (id hP : PW H (H.1 1826 1) (H.1 1826 3) (H.1 1826 8) (H.1 1826 13) (H.1 1826 19))
  refine h_run 2 (pc' := 2) (l' := [(0, .inr (.inr 1826)), (1, .inr (.inr c)), (2, .inl 0)]) (st' := [.inl 0, .inr (.inr 1826)]) rfl ?_
  refine h_puti (i := 470) (ci := 13) (k := 59) (a := 1826) (x := 0) rfl rfl rfl rfl rfl rfl (by decide) (by decide) ?_
  refine h_run 3 (pc' := 8) (l' := [(0, .inr (.inr 1826)), (1, .inr (.inr c)), (2, .inl 0)]) (st' := [.inl 0, .inr (.inr c), .inr (.inr 1826)]) rfl ?_
  refine h_cv (i := 427) (j := 155) (b := 1826) (M' := mt_155) (xs := [.inl 0, .inr (.inr c)]) (rest := []) rfl rfl rfl rfl rfl rfl (Nat.le_of_ble_eq_true rfl) (Nat.le_of_ble_eq_true rfl) (by omega) (m_behind (by omega) (n := n) (a := 0) (k := k) hc hn (by show tm (ma (H.1 1833) (H.1 1830)) sg0 ((zu H 1826 _).1 c) k 0 1; rw [zu_ne (k := c) _ _ hcm.1]; exact tm_sg0 hT hok) (by omega)) ?_
  rintro _ _ ⟨rfl, rfl⟩
  rw [Nat.zero_add]
  refine h_run 0 (pc' := 11) (l' := [(0, .inr (.inr 1826)), (1, .inr (.inr c)), (2, .inl 0)]) (st' := [.inl (k : Int)]) rfl ?_
  refine h_run 5 (pc' := 18) (l' := [(0, .inr (.inr 1826)), (1, .inr (.inr c)), (2, .inl 0), (3, .inl (k : Int)), (4, .inl 0), (5, .inl 0)]) (st' := []) rfl ?_
  exact (n_print_cut hd hc hn hcm hok hP hT hk hk1 hwn hw0 hlen _).1 _ 0 0 (fr_o (fr_rf _ _ _) (by decide)) (by omega) (by omega : 0 ≤ (0 : Int) ∧ (1 ≤ 0 → 1 ≤ (0 : Int))) JP_0 (Nat.lt_succ_self _)
