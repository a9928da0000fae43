/-! one call on fresh objects -/
def s8 : Nat × List am_C := (1899, (1, some (.inl (.long, 1, .long 0, []))) :: ss_7.2.2)
theorem s8_at {L : Nat × List am_C} {k : Nat} {x : am_C} (h : (match am_nth ((0, none), L) (k + 1) with | some y => am_eqC y x | none => false) = true) (c0 : am_C) : am_nth (c0, L) (k + 1) = some x := by
  have e : am_nth (c0, L) (k + 1) = am_nth ((0, none), L) (k + 1) := rfl
  rw [e]
  split at h
  · rename_i y hy
    rw [hy, am_eqC_of h]
  · cases h
