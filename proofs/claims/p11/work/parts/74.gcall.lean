/-! rules for calls, with what is on the stack told apart -/
section GC
variable {P : List am_M} {cl : List vw_C} {tyL : List (List FieldType)} {d : Nat} {M : am_M} {pc : Nat} {l : am_L} {st : List Value} {S : am_S} {Q : Option Value → am_S → Nat → Nat → Prop}
theorem am_take_len (xs ys : List Value) : (xs ++ ys).take xs.length = xs ∧ (xs ++ ys).drop xs.length = ys := ⟨List.take_left, List.drop_left⟩
/-- a method of the object b -/
theorem G_cv {i j b z : Nat} {fs : List Value} {M' : am_M} {xs rest : List Value} {Q' : Option Value → am_S → Nat → Nat → Prop} (hf : am_find pc M.2.2.2.2.2.1 = some (.invokevirtual i, 3)) (hj : am_find i M.2.2.2.2.1.2.2.2.2.2 = some (j + 4)) (hP : P[j]? = some M') (hl : M'.2.2.2.2.2.2.1 = xs.length) (hS : am_nth S b = some (z, some (.inr (M'.2.2.2.2.2.2.2, fs)))) (hw : am_words rest ≤ 8) (hw2 : am_words xs.reverse + 1 ≤ M'.2.2.1) (hc : am_G P cl tyL d M' 0 (lv_args 0 (.ref b :: xs.reverse)) [] S Q') (k : ∀ r S1 c1 n1, Q' r S1 c1 n1 → am_G P cl tyL (d + 1) M (pc + 3) l (r.toList ++ rest) S1 (fun r2 S2 c n => Q r2 S2 (c1 + c) (n1 + n))) : am_G P cl tyL (d + 1) M pc l (xs ++ .ref b :: rest) S Q := by
  refine G_call hf rfl hj ?_ hc k
  unfold am_own
  rw [hP]
  try dsimp only
  rw [hl, if_neg (by rw [List.length_append]; omega), (am_take_len xs _).1, (am_take_len xs _).2]
  try dsimp only
  rw [hS]
  try dsimp only
  rw [if_pos ⟨rfl, hw, hw2⟩]
/-- a static method -/
theorem G_cs {i j : Nat} {M' : am_M} {xs rest : List Value} {Q' : Option Value → am_S → Nat → Nat → Prop} (hf : am_find pc M.2.2.2.2.2.1 = some (.invokestatic i, 3)) (hj : am_find i M.2.2.2.2.1.2.2.2.2.2 = some (j + 4)) (hP : P[j]? = some M') (hl : M'.2.2.2.2.2.2.1 = xs.length) (hk : M'.2.2.2.2.2.2.2 = 1000) (hw : am_words rest ≤ 8) (hw2 : am_words xs.reverse ≤ M'.2.2.1) (hc : am_G P cl tyL d M' 0 (lv_args 0 xs.reverse) [] S Q') (k : ∀ r S1 c1 n1, Q' r S1 c1 n1 → am_G P cl tyL (d + 1) M (pc + 3) l (r.toList ++ rest) S1 (fun r2 S2 c n => Q r2 S2 (c1 + c) (n1 + n))) : am_G P cl tyL (d + 1) M pc l (xs ++ rest) S Q := by
  refine G_call hf rfl hj ?_ hc k
  unfold am_own
  rw [hP]
  try dsimp only
  rw [hl, if_neg (by rw [List.length_append]; omega), (am_take_len xs _).1, (am_take_len xs _).2]
  try dsimp only
  rw [if_pos ⟨hk, hw, hw2⟩]
end GC
