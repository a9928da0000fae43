/-! stores compared by program -/
def am_eqE : am_E → am_E → Bool
  | .inl (t, n, d, u), .inl (t', n', d', u') => decide (t = t') && (decide (n = n') && (decide (d = d') && decide (u = u')))
  | .inr (k, fs), .inr (k', fs') => decide (k = k') && decide (fs = fs')
  | _, _ => false
theorem am_eqE_of : ∀ {a b : am_E}, am_eqE a b = true → a = b
  | .inl (t, n, d, u), .inl (t', n', d', u'), h => by
    simp only [am_eqE, Bool.and_eq_true, decide_eq_true_eq] at h
    obtain ⟨rfl, rfl, rfl, rfl⟩ := h
    rfl
  | .inr (k, fs), .inr (k', fs'), h => by
    simp only [am_eqE, Bool.and_eq_true, decide_eq_true_eq] at h
    obtain ⟨rfl, rfl⟩ := h
    rfl
  | .inl _, .inr _, h => by simp [am_eqE] at h
  | .inr _, .inl _, h => by simp [am_eqE] at h
def am_eqC : am_C → am_C → Bool
  | (z, some x), (z', some x') => decide (z = z') && am_eqE x x'
  | (z, none), (z', none) => decide (z = z')
  | _, _ => false
theorem am_eqC_of : ∀ {a b : am_C}, am_eqC a b = true → a = b
  | (z, some x), (z', some x'), h => by
    simp only [am_eqC, Bool.and_eq_true, decide_eq_true_eq] at h
    obtain ⟨rfl, h⟩ := h
    rw [am_eqE_of h]
  | (z, none), (z', none), h => by
    simp only [am_eqC, decide_eq_true_eq] at h
    rw [h]
  | (_, some _), (_, none), h => by simp [am_eqC] at h
  | (_, none), (_, some _), h => by simp [am_eqC] at h
def am_eqL : List am_C → List am_C → Bool
  | [], [] => true
  | x :: xs, y :: ys => am_eqC x y && am_eqL xs ys
  | _, _ => false
theorem am_eqL_of : ∀ {a b : List am_C}, am_eqL a b = true → a = b
  | [], [], _ => rfl
  | x :: xs, y :: ys, h => by
    simp only [am_eqL, Bool.and_eq_true] at h
    rw [am_eqC_of h.1, am_eqL_of h.2]
  | [], _ :: _, h => by simp [am_eqL] at h
  | _ :: _, [], h => by simp [am_eqL] at h
/-- a run's outcome is just this -/
def am_is (q : Option (Option Value × am_S × Nat × Nat)) (r : Option Value) (S : am_S) (c n : Nat) : Bool := match q with
  | some (r', (c0, k, L), c', n') => decide (r' = r) && (am_eqC c0 S.1 && (decide (k = S.2.1) && (am_eqL L S.2.2 && (decide (c' = c) && decide (n' = n)))))
  | none => false
theorem am_is_of {q : Option (Option Value × am_S × Nat × Nat)} {r : Option Value} {S : am_S} {c n : Nat} (h : am_is q r S c n = true) : q = some (r, S, c, n) := by
  unfold am_is at h
  split at h
  · simp only [Bool.and_eq_true, decide_eq_true_eq] at h
    obtain ⟨h1, h2, h3, h4, h5, h6⟩ := h
    rw [h1, am_eqC_of h2, h3, am_eqL_of h4, h5, h6]
  · cases h
/-- a stretch's outcome is just this -/
def am_isM (q : Option (Nat × am_L × List Value × am_S × Nat × Nat)) (pc : Nat) (l : am_L) (st : List Value) (S : am_S) (c n : Nat) : Bool := match q with
  | some (pc', l', st', (c0, k, L), c', n') => decide (pc' = pc) && (decide (l' = l) && (decide (st' = st) && (am_eqC c0 S.1 && (decide (k = S.2.1) && (am_eqL L S.2.2 && (decide (c' = c) && decide (n' = n)))))))
  | none => false
theorem am_isM_of {q : Option (Nat × am_L × List Value × am_S × Nat × Nat)} {pc : Nat} {l : am_L} {st : List Value} {S : am_S} {c n : Nat} (h : am_isM q pc l st S c n = true) : q = some (pc, l, st, S, c, n) := by
  unfold am_isM at h
  split at h
  · simp only [Bool.and_eq_true, decide_eq_true_eq] at h
    obtain ⟨h1, h2, h3, h4, h5, h6, h7, h8⟩ := h
    rw [h1, h2, h3, am_eqC_of h4, h5, am_eqL_of h6, h7, h8]
  · cases h
