/-- counts stop at 1000000 -/
def bq (x : Nat) : Nat := if x ≤ 1000000 then x else 1000000
theorem bq_le (x : Nat) : bq x ≤ 1000000 := by
  unfold bq
  split <;> omega
theorem bq_ex {x : Nat} (h : bq x ≤ 999999) : bq x = x := by
  unfold bq at h ⊢
  split at h <;> split <;> omega
theorem bq_add {x y x' y' : Nat} (hx : bq x = bq x') (hy : bq y = bq y') : bq (x + y) = bq (x' + y') := by
  unfold bq at *
  repeat' split at hx
  all_goals repeat' split at hy
  all_goals repeat' split
  all_goals omega
theorem bq_bq (x : Nat) : bq (bq x) = bq x := by
  unfold bq
  repeat' split
  all_goals omega
theorem bq_mul (x y : Nat) : bq (bq x * bq y) = bq (x * y) := by
  by_cases hx : x = 0
  · subst hx
    rw [show bq 0 = 0 from rfl, Nat.zero_mul, Nat.zero_mul]
  by_cases hy : y = 0
  · subst hy
    rw [show bq 0 = 0 from rfl, Nat.mul_zero, Nat.mul_zero]
  by_cases h1 : x ≤ 1000000
  · by_cases h2 : y ≤ 1000000
    · rw [show bq x = x from if_pos h1, show bq y = y from if_pos h2]
    · rw [show bq y = 1000000 from if_neg h2, show bq x = x from if_pos h1]
      have a1 : 1 * 1000000 ≤ x * 1000000 := Nat.mul_le_mul_right _ (by omega)
      have a2 : 1 * y ≤ x * y := Nat.mul_le_mul_right _ (by omega)
      unfold bq
      split <;> split <;> omega
  · rw [show bq x = 1000000 from if_neg h1]
    have a0 : 1 ≤ bq y := by
      unfold bq
      split <;> omega
    have a1 : 1000000 * 1 ≤ 1000000 * bq y := Nat.mul_le_mul_left _ a0
    have a2 : x * 1 ≤ x * y := Nat.mul_le_mul_left _ (by omega)
    generalize 1000000 * bq y = z at a1 ⊢
    generalize x * y = z' at a2 ⊢
    unfold bq
    split <;> split <;> omega
/-- a product that is not too much is exact -/
theorem bq_pr {x y : Nat} (h : bq x * bq y ≤ 999999) : bq x * bq y = x * y ∧ (0 < x * y → bq x = x ∧ bq y = y) := by
  have h1 := bq_mul x y
  by_cases hz : x * y = 0
  · rw [hz] at h1 ⊢
    refine ⟨?_, fun q => absurd q (by omega)⟩
    have h2 : bq (bq x * bq y) = bq x * bq y := by
      show (if bq x * bq y ≤ 1000000 then _ else _) = _
      rw [if_pos (by omega)]
    rw [← h2, h1]
    rfl
  · have hx : x ≠ 0 := fun e => hz (by rw [e, Nat.zero_mul])
    have hy : y ≠ 0 := fun e => hz (by rw [e, Nat.mul_zero])
    have a0 : 1 ≤ bq y := by
      unfold bq
      split <;> omega
    have a1 : 1 ≤ bq x := by
      unfold bq
      split <;> omega
    have b0 : bq x * 1 ≤ bq x * bq y := Nat.mul_le_mul_left _ a0
    have b1 : 1 * bq y ≤ bq x * bq y := Nat.mul_le_mul_right _ a1
    have e0 : bq x = x := bq_ex (by omega)
    have e1 : bq y = y := bq_ex (by omega)
    exact ⟨by rw [e0, e1], fun _ => ⟨e0, e1⟩⟩
