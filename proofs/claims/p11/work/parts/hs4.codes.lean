/-! codes of signs -/
theorem kcv_all : (List.range 40).all (fun i => decide (z_shr (kco 3 (i : Nat) 0) 10 = 3) && (decide (z_and (z_shr (kco 3 (i : Nat) 0) 3) 127 = (i : Nat)) && decide (z_and (kco 3 (i : Nat) 0) 7 = 0))) = true := by decide +kernel
theorem kcv_ok {i : Int} (hi : 0 ≤ i ∧ i < 40) : z_shr (kco 3 i 0) 10 = 3 ∧ z_and (z_shr (kco 3 i 0) 3) 127 = i ∧ z_and (kco 3 i 0) 7 = 0 := by
  have h1 := List.all_eq_true.mp kcv_all i.toNat (List.mem_range.mpr (by omega))
  rw [Bool.and_eq_true, Bool.and_eq_true, decide_eq_true_eq, decide_eq_true_eq, decide_eq_true_eq, show ((i.toNat : Nat) : Int) = i by omega] at h1
  exact h1
/-- a sign, by its code -/
def KF9 (X : rx) (s : Int) : Prop := (s = 0 ∧ kcd X s = 0 ∧ z_shr (kcd X s) 10 = 0) ∨ ((1 ≤ s ∧ s ≤ 16) ∧ z_shr (kcd X s) 10 = 1 ∧ z_and (z_shr (kcd X s) 3) 127 = s - 1) ∨ ((100 ≤ s ∧ s ≤ 116) ∧ z_shr (kcd X s) 10 = 2 ∧ z_and (z_shr (kcd X s) 3) 127 = s - 100) ∨ ((1000 ≤ s ∧ s < 1040) ∧ z_shr (kcd X s) 10 = 3 ∧ z_and (z_shr (kcd X s) 3) 127 = s - 1000)
theorem z_shr_0 : z_shr 0 10 = 0 := by decide +kernel
theorem KF_of {H : hp} {X : rx} {m v s : Int} (hP : PWc H) (hT : TC H X) (hA : TA m H X) (hv : v ≤ 40) (h : m_sg (H.1 1826 3) (H.1 1826 8) v s) : KF9 X s ∧ aC (kcd X s) = ma (H.1 1833) (H.1 1830) s := by
  obtain ⟨⟨b1, b2, b3, b4, b5⟩, p1, p2, -, -⟩ := (id hP : PW H (H.1 1826 1) (H.1 1826 3) (H.1 1826 8) (H.1 1826 13) (H.1 1826 19))
  obtain ⟨-, ⟨a2, c2⟩, ⟨a3, c3⟩, -, -⟩ := hA
  have t1 := hT.1.2.1
  have t2 := hT.1.2.2.1
  unfold m_sg at h
  rcases h with h | h | h | h
  · rw [h]
    exact ⟨Or.inl ⟨rfl, rfl, z_shr_0⟩, by rw [show kcd X 0 = 0 from if_pos rfl, ma_0 (Or.inr rfl)]; unfold aC; decide⟩
  · have q := c2 (s - 1).toNat (by omega)
    have q2 := (p1 (s - 1).toNat (by omega)).1
    have e : kcd X s = kco 1 (s - 1) (X 4 (s - 1).toNat) := by
      unfold kcd
      rw [if_neg (by omega), if_neg (by omega), if_neg (by omega)]
    obtain ⟨k1, k2⟩ := kco_ok (k := 1) (i := s - 1) (a := X 4 (s - 1).toNat) (by omega) (by omega) (by have := q.2.2.1; omega)
    have k3 := kco7 (k := 1) (i := s - 1) (a := X 4 (s - 1).toNat) (by omega) (by omega) (by have := q.2.2.1; omega)
    refine ⟨Or.inr (Or.inl ?_), ?_⟩
    · rw [e]
      exact ⟨by omega, k1, k2⟩
    · unfold aC
      rw [e, k3, ma_c (by omega)]
      exact q.2.2.1.symm
  · have q := c3 (s - 100).toNat (by omega)
    have q2 := (p2 (s - 100).toNat (by omega)).1
    have e : kcd X s = kco 2 (s - 100) (X 8 (s - 100).toNat) := by
      unfold kcd
      rw [if_neg (by omega), if_neg (by omega), if_pos (by omega)]
    obtain ⟨k1, k2⟩ := kco_ok (k := 2) (i := s - 100) (a := X 8 (s - 100).toNat) (by omega) (by omega) (by have := q.2.1; omega)
    have k3 := kco7 (k := 2) (i := s - 100) (a := X 8 (s - 100).toNat) (by omega) (by omega) (by have := q.2.1; omega)
    refine ⟨Or.inr (Or.inr (Or.inl ?_)), ?_⟩
    · rw [e]
      exact ⟨by omega, k1, k2⟩
    · unfold aC
      rw [e, k3, ma_f (by omega)]
      exact q.2.1.symm
  · have e : kcd X s = kco 3 (s - 1000) 0 := by
      unfold kcd
      rw [if_neg (by omega), if_pos (by omega)]
    obtain ⟨k1, k2, k3⟩ := kcv_ok (i := s - 1000) (by omega)
    refine ⟨Or.inr (Or.inr (Or.inr ?_)), ?_⟩
    · rw [e]
      exact ⟨by omega, k1, k2⟩
    · unfold aC
      rw [e, k3, ma_0 (by omega)]
/-- codes are told apart as signs are -/
theorem KF_inj {X : rx} {s s' : Int} (h : KF9 X s) (h' : KF9 X s') : kcd X s = kcd X s' ↔ s = s' := by
  refine ⟨fun e => ?_, fun e => by rw [e]⟩
  unfold KF9 at h h'
  rw [← e] at h'
  omega
/-- no sign is refused -/
def tr9 (_ : Int) : Prop := True
theorem tm_code {ar : Int → Int} {ok : Int → Prop} {X : rx} {g G : Nat → Int} {k p n : Nat} (h : tm ar ok g k p n) (hG : ∀ x, p ≤ x → x < p + k → G x = kcd X (g x)) (ha : ∀ s, ok s → aC (kcd X s) = ar s) : tm aC tr9 G k p n := by
  induction k generalizing p n with
  | zero => exact h
  | succ k ih =>
    obtain ⟨h0, h1, m, h2, h3, h4⟩ := h
    exact ⟨h0, True.intro, m, by rw [hG p (by omega) (by omega), ha _ h1]; exact h2, h3, ih h4 (fun x hx hx2 => hG x (by omega) (by omega))⟩
/-- one code more -/
theorem BI_s {G : Nat → Int} {kk i m : Nat} {v : Int} (h : tm aC tr9 G kk i m) (hm : 1 ≤ m) (hv : v = z_and (G i) 7) : ∃ k' m' : Nat, tm aC tr9 G k' (i + 1) m' ∧ (m : Int) + (v - 1) = m' ∧ kk = k' + 1 := by
  cases kk with
  | zero => exact absurd (show m = 0 from h) (by omega)
  | succ kk =>
    obtain ⟨-, -, q, h2, -, h4⟩ := h
    have h2 : z_and (G i) 7 = q := h2
    exact ⟨kk, m - 1 + q, h4, by omega, rfl⟩
