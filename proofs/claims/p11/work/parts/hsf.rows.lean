/-! rows of values: numbers of places, the last variable the fastest -/
def lft (tot : Nat → Nat) (nv r : Nat) : Nat → Nat
  | 0 => r
  | j + 1 => lft tot nv r j / tot (nv - (j + 1))
/-- the place of variable v in row r -/
def dgt (tot : Nat → Nat) (nv r v : Nat) : Nat := lft tot nv r (nv - 1 - v) % tot v
def prN (tot : Nat → Nat) : Nat → Nat
  | 0 => 1
  | k + 1 => prN tot k * tot k
theorem dgt_lt {tot : Nat → Nat} {nv r v : Nat} (h : 0 < tot v) : dgt tot nv r v < tot v := Nat.mod_lt _ h
theorem prN_ps {tot : Nat → Nat} : ∀ {k : Nat}, 0 < prN tot k → ∀ i, i < k → 0 < tot i
  | 0, _, i, hi => absurd hi (Nat.not_lt_zero _)
  | k + 1, h, i, hi => by
    have h : 0 < prN tot k * tot k := h
    by_cases e : i = k
    · subst e
      exact Nat.pos_of_ne_zero (fun q => by rw [q, Nat.mul_zero] at h; exact absurd h (Nat.lt_irrefl _))
    · exact prN_ps (k := k) (Nat.pos_of_ne_zero (fun q => by rw [q, Nat.zero_mul] at h; exact absurd h (Nat.lt_irrefl _))) i (by omega)
theorem prN_z {tot : Nat → Nat} : ∀ {k i : Nat}, i < k → tot i = 0 → prN tot k = 0
  | 0, _, h, _ => absurd h (Nat.not_lt_zero _)
  | k + 1, i, h, h0 => by
    show prN tot k * tot k = 0
    by_cases e : i = k
    · subst e
      rw [h0, Nat.mul_zero]
    · rw [prN_z (k := k) (i := i) (by omega) h0, Nat.zero_mul]
/-- no number of places is more than there are rows -/
theorem prN_le {tot : Nat → Nat} : ∀ {k : Nat}, 0 < prN tot k → ∀ i, i < k → tot i ≤ prN tot k
  | 0, _, i, hi => absurd hi (Nat.not_lt_zero _)
  | k + 1, h, i, hi => by
    have h : 0 < prN tot k * tot k := h
    have a0 : 0 < prN tot k := Nat.pos_of_ne_zero (fun q => by rw [q, Nat.zero_mul] at h; exact absurd h (Nat.lt_irrefl _))
    have b0 : 0 < tot k := Nat.pos_of_ne_zero (fun q => by rw [q, Nat.mul_zero] at h; exact absurd h (Nat.lt_irrefl _))
    show tot i ≤ prN tot k * tot k
    by_cases e : i = k
    · subst e
      have := Nat.mul_le_mul_right (tot i) a0
      rw [Nat.succ_mul, Nat.zero_mul, Nat.zero_add] at this
      exact this
    · have h1 := prN_le a0 i (by omega)
      have := Nat.mul_le_mul_left (prN tot k) b0
      rw [Nat.mul_succ, Nat.mul_zero, Nat.zero_add] at this
      omega
theorem div_up {m t : Nat} (ht : 0 < t) : (m % t + 1 = t → (m + 1) / t = m / t + 1 ∧ (m + 1) % t = 0) ∧ (m % t + 1 ≠ t → (m + 1) / t = m / t ∧ (m + 1) % t = m % t + 1) := by
  have h1 := Nat.div_add_mod m t
  have h2 := Nat.mod_lt m ht
  refine ⟨fun e => ?_, fun e => ?_⟩
  · have h3 : m + 1 = t * (m / t + 1) := by
      rw [Nat.mul_add, Nat.mul_one]
      omega
    rw [h3, Nat.mul_div_cancel_left _ ht, Nat.mul_mod_right]
    exact ⟨rfl, rfl⟩
  · have h3 : m + 1 = t * (m / t) + (m % t + 1) := by omega
    have h4 : m % t + 1 < t := by omega
    refine ⟨?_, ?_⟩
    · rw [h3, Nat.mul_add_div ht, Nat.div_eq_of_lt h4, Nat.add_zero]
    · rw [h3, Nat.mul_add_mod, Nat.mod_eq_of_lt h4]
/-- the rest is the same from here on -/
theorem lft_eq {tot : Nat → Nat} {nv r r' : Nat} : ∀ {j k : Nat}, lft tot nv r j = lft tot nv r' j → j ≤ k → lft tot nv r k = lft tot nv r' k
  | j, 0, h, hk => by
    obtain rfl : j = 0 := by omega
    exact h
  | j, k + 1, h, hk => by
    by_cases e : j = k + 1
    · subst e; exact h
    · show lft tot nv r k / _ = lft tot nv r' k / _
      rw [lft_eq h (by omega)]
theorem lft_z {tot : Nat → Nat} {nv : Nat} : ∀ j : Nat, lft tot nv 0 j = 0
  | 0 => rfl
  | j + 1 => by
    show lft tot nv 0 j / _ = 0
    rw [lft_z j, Nat.zero_div]
theorem dgt_z {tot : Nat → Nat} {nv v : Nat} : dgt tot nv 0 v = 0 := by
  unfold dgt
  rw [lft_z, Nat.zero_mod]
/-- a side, its variables filled -/
def fil (a : Nat → Int) (vs : Nat → List Int) : Nat → List Int
  | 0 => []
  | k + 1 => fil a vs k ++ (if 1000 ≤ a k then vs (a k - 1000).toNat else [a k])
theorem fil_cg {a : Nat → Int} {vs vs' : Nat → List Int} : ∀ {k : Nat}, (∀ x, x < k → 1000 ≤ a x → vs (a x - 1000).toNat = vs' (a x - 1000).toNat) → fil a vs k = fil a vs' k
  | 0, _ => rfl
  | k + 1, h => by
    show fil a vs k ++ _ = fil a vs' k ++ _
    rw [fil_cg (fun x hx => h x (by omega))]
    split
    · rw [h k (by omega) (by assumption)]
    · rfl
/-- one after the other: what it comes to so far (1 ends it), and which one -/
def tsO (out : Nat → Int) : Nat → Int × Nat
  | 0 => (0, 0)
  | k + 1 => if (tsO out k).1 = 1 then tsO out k else if out k = 1 then (1, k) else (if out k = 2 then 2 else (tsO out k).1, 0)
theorem tsO_end {out : Nat → Int} {k : Nat} (h : (tsO out k).1 = 1) : ∀ {n : Nat}, k ≤ n → tsO out n = tsO out k
  | 0, hn => by
    obtain rfl : k = 0 := by omega
    rfl
  | n + 1, hn => by
    by_cases e : k = n + 1
    · subst e; rfl
    · have h1 := tsO_end h (n := n) (by omega)
      show (if (tsO out n).1 = 1 then tsO out n else _) = _
      rw [h1, if_pos h]
theorem tsO_up {out : Nat → Int} {k : Nat} (h : (tsO out k).1 ≠ 1) (h1 : out k ≠ 1) : (tsO out (k + 1)).1 = (if out k = 2 then 2 else (tsO out k).1) ∧ (tsO out (k + 1)).1 ≠ 1 := by
  have e : tsO out (k + 1) = (if out k = 2 then 2 else (tsO out k).1, 0) := by
    show (if (tsO out k).1 = 1 then tsO out k else if out k = 1 then (1, k) else _) = _
    rw [if_neg h, if_neg h1]
  rw [e]
  refine ⟨rfl, ?_⟩
  show (if out k = 2 then (2 : Int) else (tsO out k).1) ≠ 1
  split
  · decide
  · exact h
theorem tsO_hit {out : Nat → Int} {k : Nat} (h : (tsO out k).1 ≠ 1) (h1 : out k = 1) : tsO out (k + 1) = (1, k) := by
  show (if (tsO out k).1 = 1 then tsO out k else if out k = 1 then (1, k) else _) = _
  rw [if_neg h, if_pos h1]
