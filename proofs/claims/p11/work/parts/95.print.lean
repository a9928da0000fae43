/-! divisions; the reference prints -/
def z_div (x y : Int) : Int := (Int32.ofInt x / Int32.ofInt y).toInt
def z_rem (x y : Int) : Int := (Int32.ofInt x - Int32.ofInt x / Int32.ofInt y * Int32.ofInt y).toInt
section HD
variable {zC : Nat → Option zsh} {d : Nat} {M : am_M} {pc : Nat} {l : zl} {st : List zv} {H : hp} {Q : Option zv → hp → Prop}
theorem h_idiv {x y : Int} (hf : am_find pc M.2.2.2.2.2.1 = some (.idiv, 1)) (hx : -2147483648 ≤ x ∧ x ≤ 2147483647) (hy : -2147483648 ≤ y ∧ y ≤ 2147483647) (h0 : y ≠ 0) (k : hG (zs zC) d M (pc + 1) l (.inl (z_div x y) :: st) H Q) : hG (zs zC) d M pc l (.inl y :: .inl x :: st) H Q := by
  intro S lc hS hl
  have hn : ¬ Int32.ofInt y = 0 := fun e => h0 ((z_eq hy (by omega)).mp e)
  have k := k S lc hS hl
  have e : Value.int (Int32.ofInt x / Int32.ofInt y) = zc (.inl (z_div x y)) := by
    show _ = Value.int (Int32.ofInt (z_div x y))
    unfold z_div
    rw [Int32.ofInt_toInt]
  refine G_ps 1 (pc' := pc + 1) (l' := lc) (st' := (.inl (z_div x y) :: st : List zv).map zc) ?_ k
  unfold am_ps
  rw [hf]
  dsimp only
  have h1 : am_pure M.2.2.1 .idiv 1 pc lc ((.inl y :: .inl x :: st : List zv).map zc) = some (pc + 1, lc, (.inl (z_div x y) :: st : List zv).map zc) := by
    show (if Int32.ofInt y = 0 then none else some (pc + 1, lc, Value.int (Int32.ofInt x / Int32.ofInt y) :: st.map zc)) = _
    rw [if_neg hn, e]
    rfl
  rw [h1]
  rfl
theorem h_irem {x y : Int} (hf : am_find pc M.2.2.2.2.2.1 = some (.irem, 1)) (hx : -2147483648 ≤ x ∧ x ≤ 2147483647) (hy : -2147483648 ≤ y ∧ y ≤ 2147483647) (h0 : y ≠ 0) (k : hG (zs zC) d M (pc + 1) l (.inl (z_rem x y) :: st) H Q) : hG (zs zC) d M pc l (.inl y :: .inl x :: st) H Q := by
  intro S lc hS hl
  have hn : ¬ Int32.ofInt y = 0 := fun e => h0 ((z_eq hy (by omega)).mp e)
  have k := k S lc hS hl
  have e : Value.int (Int32.ofInt x - Int32.ofInt x / Int32.ofInt y * Int32.ofInt y) = zc (.inl (z_rem x y)) := by
    show _ = Value.int (Int32.ofInt (z_rem x y))
    unfold z_rem
    rw [Int32.ofInt_toInt]
  refine G_ps 1 (pc' := pc + 1) (l' := lc) (st' := (.inl (z_rem x y) :: st : List zv).map zc) ?_ k
  unfold am_ps
  rw [hf]
  dsimp only
  have h1 : am_pure M.2.2.1 .irem 1 pc lc ((.inl y :: .inl x :: st : List zv).map zc) = some (pc + 1, lc, (.inl (z_rem x y) :: st : List zv).map zc) := by
    show (if Int32.ofInt y = 0 then none else some (pc + 1, lc, Value.int (Int32.ofInt x - Int32.ofInt x / Int32.ofInt y * Int32.ofInt y) :: st.map zc)) = _
    rw [if_neg hn, e]
    rfl
  rw [h1]
  rfl
end HD
theorem z_div_eq {x y : Int} (hx : 0 ≤ x ∧ x ≤ 2147483647) (hy : 1 ≤ y ∧ y ≤ 2147483647) : z_div x y = x / y := by
  unfold z_div
  rw [Int32.toInt_div_of_ne_right, z_t (by omega), z_t (by omega), Int.tdiv_eq_ediv_of_nonneg hx.1]
  intro e
  have := congrArg Int32.toInt e
  rw [z_t (by omega)] at this
  have h2 : (-1 : Int32).toInt = -1 := rfl
  omega
theorem z_i2b_rng (x : Int) : -128 ≤ z_i2b x ∧ z_i2b x ≤ 127 := by
  unfold z_i2b
  rw [Int8.toInt_toInt32]
  have h1 := Int8.le_toInt (Int32.ofInt x).toInt8
  have h2 := Int8.toInt_lt (Int32.ofInt x).toInt8
  constructor
  · exact h1
  · exact Int.le_of_lt_add_one h2

/-! letter -/
set_option maxRecDepth 100000 in
theorem m_letter {zC : Nat → Option zsh} {d : Nat} (hd : 1 ≤ d) {H : hp} {x : Int} (ho : 0 ≤ (H.1 1826 59) ∧ (H.1 1826 59) ≤ 7950) : hG (zs zC) d mt_203 0 (zargs 0 [.inr (.inr 1826), .inl x]) [] H (fun r9 H2 => r9 = none ∧ fr [59] [1858] H H2 ∧ ((H.1 1826 59) ≤ (H2.1 1826 59) ∧ (H2.1 1826 59) ≤ (H.1 1826 59) + 1)) := by
  refine h_rng (fun hrg0 => ?_)
  refine h_run 0 (pc' := 0) (l' := [(0, .inr (.inr 1826)), (1, .inl x)]) (st' := []) rfl ?_
  refine h_run 4 (pc' := 8) (l' := [(0, .inr (.inr 1826)), (1, .inl x)]) (st' := [.inl (H.1 1826 59), .inr (.inr 1858)]) rfl ?_
  have g1 : -2147483648 ≤ (H.1 1826 59) ∧ (H.1 1826 59) ≤ 2147483647 := hrg0.1 1826 13 59 _ .int rfl rfl
  refine h_run 2 (pc' := 10) (l' := [(0, .inr (.inr 1826)), (1, .inl x)]) (st' := [.inl (z_i2b x), .inl (H.1 1826 59), .inr (.inr 1858)]) rfl ?_
  refine h_bst (c := 1858) (j := ((H.1 1826 59)).toNat) (i := (H.1 1826 59)) (x := (z_i2b x)) (Or.inl rfl) rfl rfl (by decide) (by decide) (by omega) (by omega) (z_i2b_rng _) ?_
  refine h_run 3 (pc' := 16) (l' := [(0, .inr (.inr 1826)), (1, .inl x)]) (st' := [.inl (H.1 1826 59), .inr (.inr 1826)]) rfl ?_
  refine h_run 2 (pc' := 18) (l' := [(0, .inr (.inr 1826)), (1, .inl x)]) (st' := [.inl ((H.1 1826 59) + 1), .inr (.inr 1826)]) rfl ?_
  refine h_puti (i := 470) (ci := 13) (k := 59) (a := 1826) (x := ((H.1 1826 59) + 1)) rfl rfl rfl rfl rfl rfl (by decide) (by omega) ?_
  refine h_ret rfl rfl ?_
  exact ⟨rfl, (fr_o (fr_a (fr_rf _ _ _) (by decide)) (by decide)), (by omega : (H.1 1826 59) ≤ ((H.1 1826 59) + 1) ∧ ((H.1 1826 59) + 1) ≤ (H.1 1826 59) + 1)⟩

/-! putNumber -/
set_option maxRecDepth 100000 in
theorem m_putNumber {zC : Nat → Option zsh} {d : Nat} (hd : 2 ≤ d) {H : hp} {x : Int} (ho : 0 ≤ (H.1 1826 59) ∧ (H.1 1826 59) ≤ 7900) (hx : -2147483648 ≤ x ∧ x ≤ 2147483647) : hG (zs zC) d mt_205 0 (zargs 0 [.inr (.inr 1826), .inl x]) [] H (fun r9 H2 => r9 = none ∧ fr [59] [1858] H H2 ∧ ((H.1 1826 59) ≤ (H2.1 1826 59) ∧ (H2.1 1826 59) ≤ (H.1 1826 59) + 2)) := by
  refine h_rng (fun hrg0 => ?_)
  refine h_run 0 (pc' := 0) (l' := [(0, .inr (.inr 1826)), (1, .inl x)]) (st' := []) rfl ?_
  refine h_run 2 (pc' := 3) (l' := [(0, .inr (.inr 1826)), (1, .inl x)]) (st' := [.inl 9, .inl x]) rfl ?_
  refine h_ile (off := 14) (t := 17) rfl rfl (by omega) (by decide) (fun c1 => ?_) (fun c1 => ?_)
  · refine h_run 4 (pc' := 23) (l' := [(0, .inr (.inr 1826)), (1, .inl x)]) (st' := [.inl 10, .inl x, .inl 48, .inr (.inr 1826)]) rfl ?_
    refine h_irem (x := x) (y := 10) rfl (by omega) (by decide) (by omega : (10 : Int) ≠ 0) ?_
    refine h_run 0 (pc' := 24) (l' := [(0, .inr (.inr 1826)), (1, .inl x)]) (st' := [.inl (z_rem x 10), .inl 48, .inr (.inr 1826)]) rfl ?_
    refine h_run 1 (pc' := 25) (l' := [(0, .inr (.inr 1826)), (1, .inl x)]) (st' := [.inl (48 + (z_rem x 10)), .inr (.inr 1826)]) rfl ?_
    have g2 : -2147483648 ≤ (H.1 1826 59) ∧ (H.1 1826 59) ≤ 2147483647 := hrg0.1 1826 13 59 _ .int rfl rfl
    refine h_cv (i := 473) (j := 203) (b := 1826) (M' := mt_203) (xs := [.inl (48 + (z_rem x 10))]) (rest := []) rfl rfl rfl rfl rfl rfl (Nat.le_of_ble_eq_true rfl) (Nat.le_of_ble_eq_true rfl) (by omega) (m_letter (by omega) (by omega : 0 ≤ (H.1 1826 59) ∧ (H.1 1826 59) ≤ 7950)) ?_
    rintro _ H3 ⟨rfl, hx3f, hx3z⟩
    refine h_rng (fun hrg4 => ?_)
    have hf5 : fr [59] [1858] H H3 := fr_t (fr_rf _ _ _) hx3f (by decide) (by decide)
    replace hx3z : (H.1 1826 59) ≤ (H3.1 1826 59) ∧ (H3.1 1826 59) ≤ (H.1 1826 59) + 1 := hx3z
    refine h_run 0 (pc' := 28) (l' := [(0, .inr (.inr 1826)), (1, .inl x)]) (st' := []) rfl ?_
    refine h_ret rfl rfl ?_
    have g6 : -2147483648 ≤ (H3.1 1826 59) ∧ (H3.1 1826 59) ≤ 2147483647 := hrg4.1 1826 13 59 _ .int rfl rfl
    exact ⟨rfl, hf5, (by omega : (H.1 1826 59) ≤ (H3.1 1826 59) ∧ (H3.1 1826 59) ≤ (H.1 1826 59) + 2)⟩
  · refine h_run 4 (pc' := 12) (l' := [(0, .inr (.inr 1826)), (1, .inl x)]) (st' := [.inl 10, .inl x, .inl 48, .inr (.inr 1826)]) rfl ?_
    refine h_idiv (x := x) (y := 10) rfl (by omega) (by decide) (by omega : (10 : Int) ≠ 0) ?_
    refine h_run 0 (pc' := 13) (l' := [(0, .inr (.inr 1826)), (1, .inl x)]) (st' := [.inl (z_div x 10), .inl 48, .inr (.inr 1826)]) rfl ?_
    refine h_run 1 (pc' := 14) (l' := [(0, .inr (.inr 1826)), (1, .inl x)]) (st' := [.inl (48 + (z_div x 10)), .inr (.inr 1826)]) rfl ?_
    have g7 : -2147483648 ≤ (H.1 1826 59) ∧ (H.1 1826 59) ≤ 2147483647 := hrg0.1 1826 13 59 _ .int rfl rfl
    refine h_cv (i := 473) (j := 203) (b := 1826) (M' := mt_203) (xs := [.inl (48 + (z_div x 10))]) (rest := []) rfl rfl rfl rfl rfl rfl (Nat.le_of_ble_eq_true rfl) (Nat.le_of_ble_eq_true rfl) (by omega) (m_letter (by omega) (by omega : 0 ≤ (H.1 1826 59) ∧ (H.1 1826 59) ≤ 7950)) ?_
    rintro _ H8 ⟨rfl, hx8f, hx8z⟩
    refine h_rng (fun hrg9 => ?_)
    have hf10 : fr [59] [1858] H H8 := fr_t (fr_rf _ _ _) hx8f (by decide) (by decide)
    replace hx8z : (H.1 1826 59) ≤ (H8.1 1826 59) ∧ (H8.1 1826 59) ≤ (H.1 1826 59) + 1 := hx8z
    refine h_run 0 (pc' := 17) (l' := [(0, .inr (.inr 1826)), (1, .inl x)]) (st' := []) rfl ?_
    refine h_run 4 (pc' := 23) (l' := [(0, .inr (.inr 1826)), (1, .inl x)]) (st' := [.inl 10, .inl x, .inl 48, .inr (.inr 1826)]) rfl ?_
    refine h_irem (x := x) (y := 10) rfl (by omega) (by decide) (by omega : (10 : Int) ≠ 0) ?_
    refine h_run 0 (pc' := 24) (l' := [(0, .inr (.inr 1826)), (1, .inl x)]) (st' := [.inl (z_rem x 10), .inl 48, .inr (.inr 1826)]) rfl ?_
    refine h_run 1 (pc' := 25) (l' := [(0, .inr (.inr 1826)), (1, .inl x)]) (st' := [.inl (48 + (z_rem x 10)), .inr (.inr 1826)]) rfl ?_
    have g11 : -2147483648 ≤ (H8.1 1826 59) ∧ (H8.1 1826 59) ≤ 2147483647 := hrg9.1 1826 13 59 _ .int rfl rfl
    refine h_cv (i := 473) (j := 203) (b := 1826) (M' := mt_203) (xs := [.inl (48 + (z_rem x 10))]) (rest := []) rfl rfl rfl rfl rfl rfl (Nat.le_of_ble_eq_true rfl) (Nat.le_of_ble_eq_true rfl) (by omega) (m_letter (by omega) (by omega : 0 ≤ (H8.1 1826 59) ∧ (H8.1 1826 59) ≤ 7950)) ?_
    rintro _ H12 ⟨rfl, hx12f, hx12z⟩
    refine h_rng (fun hrg13 => ?_)
    have hf14 : fr [59] [1858] H H12 := fr_t hf10 hx12f (by decide) (by decide)
    replace hx12z : (H8.1 1826 59) ≤ (H12.1 1826 59) ∧ (H12.1 1826 59) ≤ (H8.1 1826 59) + 1 := hx12z
    refine h_run 0 (pc' := 28) (l' := [(0, .inr (.inr 1826)), (1, .inl x)]) (st' := []) rfl ?_
    refine h_ret rfl rfl ?_
    have g15 : -2147483648 ≤ (H12.1 1826 59) ∧ (H12.1 1826 59) ≤ 2147483647 := hrg13.1 1826 13 59 _ .int rfl rfl
    exact ⟨rfl, hf14, (by omega : (H.1 1826 59) ≤ (H12.1 1826 59) ∧ (H12.1 1826 59) ≤ (H.1 1826 59) + 2)⟩

/-! putName -/
set_option maxRecDepth 100000 in
theorem m_putName_cut {zC : Nat → Option zsh} {d : Nat} (hd : 2 ≤ d) {H : hp} {x : Int} (ho : 0 ≤ (H.1 1826 59) ∧ (H.1 1826 59) ≤ 7900) : ∀ w : Nat, (∀ (H1 : hp) (y : Int), (fr [59] [1858] H H1) → (-8 ≤ y ∧ y ≤ 56) → ((H.1 1826 59) ≤ (H1.1 1826 59) ∧ 8 * (H1.1 1826 59) ≤ 8 * (H.1 1826 59) + 56 - y) → (y + 8).toNat < w → hG (zs zC) d mt_204 3 [(0, .inr (.inr 1826)), (1, .inr (.inl x)), (3, .inl y)] [] H1 (fun r9 H2 => r9 = none ∧ fr [59] [1858] H H2 ∧ ((H.1 1826 59) ≤ (H2.1 1826 59) ∧ (H2.1 1826 59) ≤ (H.1 1826 59) + 8))) := by
  intro w
  induction w with
  | zero => exact fun _ _ _ _ _ h => absurd h (Nat.not_lt_zero _)
  | succ w ih =>
    intro H1 y hf hy hz hw
    refine h_rng (fun hrg1 => ?_)
    refine h_run 1 (pc' := 4) (l' := [(0, .inr (.inr 1826)), (1, .inr (.inl x)), (3, .inl y)]) (st' := [.inl y]) rfl ?_
    refine h_zlt (off := 30) (t := 34) rfl rfl (by omega) (fun c2 => ?_) (fun c2 => ?_)
    · refine h_ret rfl rfl ?_
      have g3 : -2147483648 ≤ (H1.1 1826 59) ∧ (H1.1 1826 59) ≤ 2147483647 := hrg1.1 1826 13 59 _ .int rfl rfl
      exact ⟨rfl, hf, (by omega : (H.1 1826 59) ≤ (H1.1 1826 59) ∧ (H1.1 1826 59) ≤ (H.1 1826 59) + 8)⟩
    · refine h_run 8 (pc' := 19) (l' := [(0, .inr (.inr 1826)), (1, .inr (.inl x)), (3, .inl y), (4, .inl (z_and (z_l2i (z_lushr x y)) 255))]) (st' := [.inl (z_and (z_l2i (z_lushr x y)) 255)]) rfl ?_
      refine h_zle (off := 9) (t := 28) rfl rfl (z_int _) (fun c4 => ?_) (fun c4 => ?_)
      · refine h_run 2 (pc' := 3) (l' := [(0, .inr (.inr 1826)), (1, .inr (.inl x)), (3, .inl (y + (-8))), (4, .inl (z_and (z_l2i (z_lushr x y)) 255))]) (st' := []) rfl ?_
        have g5 : -2147483648 ≤ (H1.1 1826 59) ∧ (H1.1 1826 59) ≤ 2147483647 := hrg1.1 1826 13 59 _ .int rfl rfl
        refine h_loc [0, 1, 3] rfl ?_
        exact ih _ (y + (-8)) hf (by omega : -8 ≤ (y + (-8)) ∧ (y + (-8)) ≤ 56) (by omega : (H.1 1826 59) ≤ (H1.1 1826 59) ∧ 8 * (H1.1 1826 59) ≤ 8 * (H.1 1826 59) + 56 - (y + (-8))) (by omega : ((y + (-8)) + 8).toNat < w)
      · refine h_run 2 (pc' := 25) (l' := [(0, .inr (.inr 1826)), (1, .inr (.inl x)), (3, .inl y), (4, .inl (z_and (z_l2i (z_lushr x y)) 255))]) (st' := [.inl (z_and (z_l2i (z_lushr x y)) 255), .inr (.inr 1826)]) rfl ?_
        have g6 : -2147483648 ≤ (H1.1 1826 59) ∧ (H1.1 1826 59) ≤ 2147483647 := hrg1.1 1826 13 59 _ .int rfl rfl
        refine h_cv (i := 473) (j := 203) (b := 1826) (M' := mt_203) (xs := [.inl (z_and (z_l2i (z_lushr x y)) 255)]) (rest := []) rfl rfl rfl rfl rfl rfl (Nat.le_of_ble_eq_true rfl) (Nat.le_of_ble_eq_true rfl) (by omega) (m_letter (by omega) (by omega : 0 ≤ (H1.1 1826 59) ∧ (H1.1 1826 59) ≤ 7950)) ?_
        rintro _ H7 ⟨rfl, hx7f, hx7z⟩
        refine h_rng (fun hrg8 => ?_)
        have hf9 : fr [59] [1858] H H7 := fr_t hf hx7f (by decide) (by decide)
        replace hx7z : (H1.1 1826 59) ≤ (H7.1 1826 59) ∧ (H7.1 1826 59) ≤ (H1.1 1826 59) + 1 := hx7z
        refine h_run 0 (pc' := 28) (l' := [(0, .inr (.inr 1826)), (1, .inr (.inl x)), (3, .inl y), (4, .inl (z_and (z_l2i (z_lushr x y)) 255))]) (st' := []) rfl ?_
        refine h_run 2 (pc' := 3) (l' := [(0, .inr (.inr 1826)), (1, .inr (.inl x)), (3, .inl (y + (-8))), (4, .inl (z_and (z_l2i (z_lushr x y)) 255))]) (st' := []) rfl ?_
        have g10 : -2147483648 ≤ (H7.1 1826 59) ∧ (H7.1 1826 59) ≤ 2147483647 := hrg8.1 1826 13 59 _ .int rfl rfl
        refine h_loc [0, 1, 3] rfl ?_
        exact ih _ (y + (-8)) hf9 (by omega : -8 ≤ (y + (-8)) ∧ (y + (-8)) ≤ 56) (by omega : (H.1 1826 59) ≤ (H7.1 1826 59) ∧ 8 * (H7.1 1826 59) ≤ 8 * (H.1 1826 59) + 56 - (y + (-8))) (by omega : ((y + (-8)) + 8).toNat < w)
set_option maxRecDepth 100000 in
theorem m_putName {zC : Nat → Option zsh} {d : Nat} (hd : 2 ≤ d) {H : hp} {x : Int} (ho : 0 ≤ (H.1 1826 59) ∧ (H.1 1826 59) ≤ 7900) : hG (zs zC) d mt_204 0 (zargs 0 [.inr (.inr 1826), .inr (.inl x)]) [] H (fun r9 H2 => r9 = none ∧ fr [59] [1858] H H2 ∧ ((H.1 1826 59) ≤ (H2.1 1826 59) ∧ (H2.1 1826 59) ≤ (H.1 1826 59) + 8)) := by
  refine h_rng (fun hrg0 => ?_)
  refine h_run 0 (pc' := 0) (l' := [(0, .inr (.inr 1826)), (1, .inr (.inl x))]) (st' := []) rfl ?_
  refine h_run 2 (pc' := 3) (l' := [(0, .inr (.inr 1826)), (1, .inr (.inl x)), (3, .inl 56)]) (st' := []) rfl ?_
  have g11 : -2147483648 ≤ (H.1 1826 59) ∧ (H.1 1826 59) ≤ 2147483647 := hrg0.1 1826 13 59 _ .int rfl rfl
  exact (m_putName_cut hd ho _) _ (56 : Int) (fr_rf _ _ _) (by omega : -8 ≤ (56 : Int) ∧ (56 : Int) ≤ 56) (by omega : (H.1 1826 59) ≤ (H.1 1826 59) ∧ 8 * (H.1 1826 59) ≤ 8 * (H.1 1826 59) + 56 - (56 : Int)) (Nat.lt_succ_self _)
