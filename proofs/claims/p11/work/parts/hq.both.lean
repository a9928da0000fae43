/-! showLaw, both answer the same -/
theorem kco7_all : (List.range 4).all (fun k => (List.range 16).all (fun i => (List.range 8).all (fun a => decide (z_and (kco (k : Nat) (i : Nat) (a : Nat)) 7 = (a : Nat))))) = true := by decide +kernel
theorem kco7 {k i a : Int} (hk : 0 ≤ k ∧ k < 4) (hi : 0 ≤ i ∧ i < 16) (ha : 0 ≤ a ∧ a < 8) : z_and (kco k i a) 7 = a := by
  have h1 := List.all_eq_true.mp kco7_all k.toNat (List.mem_range.mpr (by omega))
  have h2 := List.all_eq_true.mp h1 i.toNat (List.mem_range.mpr (by omega))
  have h3 := List.all_eq_true.mp h2 a.toNat (List.mem_range.mpr (by omega))
  rw [decide_eq_true_eq, show ((k.toNat : Nat) : Int) = k by omega, show ((i.toNat : Nat) : Int) = i by omega, show ((a.toNat : Nat) : Int) = a by omega] at h3
  exact h3
/-- a sign: its code wants as many arguments, its name has as many bytes -/
theorem sgn_same {H : hp} {X : rx} {m v s : Int} (hP : PWc H) (hT : TC H X) (hA : TA m H X) (hN : NI X) (hv : v ≤ 6) (h : m_sg (H.1 1826 3) (H.1 1826 8) v s) : aC (kcd X s) = ma (H.1 1833) (H.1 1830) s ∧ lenC H (kcd X s) = lenR (H.1 1832) (H.1 1828) s ∧ 1 ≤ lenR (H.1 1832) (H.1 1828) s := by
  obtain ⟨⟨b1, b2, b3, b4, b5⟩, p1, p2, -, -⟩ := (id hP : PW H (H.1 1826 1) (H.1 1826 3) (H.1 1826 8) (H.1 1826 13) (H.1 1826 19))
  obtain ⟨-, ⟨a2, c2⟩, ⟨a3, c3⟩, -, -⟩ := hA
  have t1 := hT.1.2.1
  have t2 := hT.1.2.2.1
  unfold m_sg at h
  rcases h with h | h | h | h
  · rw [h, show kcd X 0 = 0 from if_pos rfl, ma_0 (Or.inr rfl)]
    have e0 : z_shr 0 10 = 0 := by decide
    have e1 : lenC H 0 = 1 := by
      unfold lenC
      rw [e0, if_neg (by decide), if_neg (by decide), if_neg (by decide)]
    have e2 : lenR (H.1 1832) (H.1 1828) 0 = 1 := if_pos rfl
    rw [e1, e2]
    exact ⟨by unfold aC; decide, rfl, by decide⟩
  · have q := c2 (s - 1).toNat (by omega)
    have q2 := (p1 (s - 1).toNat (by omega)).1
    have g := hN.2.1 (s - 1).toNat (by omega)
    have n1 := (hT.2.2.1 (s - 1).toNat (by omega)).1
    have e : kcd X s = kco 1 (s - 1) (X 4 (s - 1).toNat) := by
      unfold kcd
      rw [if_neg (by omega), if_neg (by omega), if_neg (by omega)]
    obtain ⟨k1, k2⟩ := kco_ok (k := 1) (i := s - 1) (a := X 4 (s - 1).toNat) (by omega) (by omega) (by have := q.2.2.1; omega)
    have k3 := kco7 (k := 1) (i := s - 1) (a := X 4 (s - 1).toNat) (by omega) (by omega) (by have := q.2.2.1; omega)
    have l : lenR (H.1 1832) (H.1 1828) s = cR (X 2 (s - 1).toNat) 8 := by
      unfold lenR
      rw [if_neg (by omega), if_neg (by omega), if_neg (by omega), q.1]
    refine ⟨?_, ?_, by rw [l]; exact g.2⟩
    · unfold aC
      rw [e, k3, ma_c (by omega)]
      exact q.2.2.1.symm
    · unfold lenC
      rw [e, k1, k2, if_pos rfl, if_pos (by omega), l, n1]
      exact g.1.symm
  · have q := c3 (s - 100).toNat (by omega)
    have q2 := (p2 (s - 100).toNat (by omega)).1
    have g := hN.2.2 (s - 100).toNat (by omega)
    have n1 := (hT.2.2.2.1 (s - 100).toNat (by omega)).1
    have e : kcd X s = kco 2 (s - 100) (X 8 (s - 100).toNat) := by
      unfold kcd
      rw [if_neg (by omega), if_neg (by omega), if_pos (by omega)]
    obtain ⟨k1, k2⟩ := kco_ok (k := 2) (i := s - 100) (a := X 8 (s - 100).toNat) (by omega) (by omega) (by have := q.2.1; omega)
    have k3 := kco7 (k := 2) (i := s - 100) (a := X 8 (s - 100).toNat) (by omega) (by omega) (by have := q.2.1; omega)
    have l : lenR (H.1 1832) (H.1 1828) s = cR (X 6 (s - 100).toNat) 8 := by
      unfold lenR
      rw [if_neg (by omega), if_neg (by omega), if_pos (by omega), q.1]
    refine ⟨?_, ?_, by rw [l]; exact g.2⟩
    · unfold aC
      rw [e, k3, ma_f (by omega)]
      exact q.2.1.symm
    · unfold lenC
      rw [e, k1, k2, if_neg (by decide), if_pos rfl, if_pos (by omega), l, n1]
      exact g.1.symm
  · have e : kcd X s = kco 3 (s - 1000) 0 := by
      unfold kcd
      rw [if_neg (by omega), if_pos (by omega)]
    obtain ⟨k1, k2⟩ := kco_ok (k := 3) (i := s - 1000) (a := 0) (by omega) (by omega) (by omega)
    have k3 := kco7 (k := 3) (i := s - 1000) (a := 0) (by omega) (by omega) (by omega)
    have l : lenR (H.1 1832) (H.1 1828) s = 2 := by
      unfold lenR
      rw [if_neg (by omega), if_pos (by omega), if_neg (by omega), if_neg (by omega)]
      rfl
    refine ⟨?_, ?_, by rw [l]; decide⟩
    · unfold aC
      rw [e, k3, ma_0 (Or.inl (by omega))]
    · unfold lenC
      rw [e, k1, k2, if_neg (by decide), if_neg (by decide), if_pos rfl, if_neg (by omega), l]
/-- a law's side, both ways -/
theorem side_same {H : hp} {X : rx} {m : Int} (hP : PWc H) (hT : TC H X) (hA : TA m H X) (hS : SC H X) (hN : NI X) (hR : RS9 H X) {l s : Nat} (hl : (l : Int) < X 0 7) (hs : s < 2) : ∃ k : Nat, (1 ≤ k ∧ k ≤ 40) ∧ H.1 1843 (2 * l + s) = (k : Int) ∧ H.1 (265 + 6 * l + (2 * s + 1)) 1 = (k : Int) ∧ (∀ i, i < k → aC (H.1 (265 + 6 * l + (2 * s + 1) + 1) i) = ma (H.1 1833) (H.1 1830) (H.1 1842 (48 * (2 * l + s) + i)) ∧ lenC H (H.1 (265 + 6 * l + (2 * s + 1) + 1) i) = lenR (H.1 1832) (H.1 1828) (H.1 1842 (48 * (2 * l + s) + i))) ∧ (∀ i, i < k → 1 ≤ wn aC (H.1 (265 + 6 * l + (2 * s + 1) + 1)) i) ∧ wn aC (H.1 (265 + 6 * l + (2 * s + 1) + 1)) k = 0 := by
  obtain ⟨⟨b1, b2, b3, b4, b5⟩, -, -, -, p4⟩ := (id hP : PW H (H.1 1826 1) (H.1 1826 3) (H.1 1826 8) (H.1 1826 13) (H.1 1826 19))
  have a7 := hA.2.2.2.1.1.2
  obtain ⟨v, ⟨v1, v2⟩, -, v4⟩ := p4 l (by omega)
  obtain ⟨k, ⟨k1, k2⟩, k3⟩ := v4 s hs
  have hw : ∃ r : Nat, 100 ≤ r ∧ SD H (265 + 6 * l + (2 * s + 1)) X r ∧ WQ H (2 * l + s) X r := by
    have h1 := hS.2.1 l (by omega) hl
    have h2 := hR.2 l hl
    rcases (show s = 0 ∨ s = 1 by omega) with rfl | rfl
    · exact ⟨_, by omega, h1.1, h2.1⟩
    · exact ⟨_, by omega, h1.2.1, h2.2.1⟩
  obtain ⟨r, r0, ⟨d1, d2⟩, w1, w2⟩ := hw
  have t0 : tm (ma (H.1 1833) (H.1 1830)) (m_sg (H.1 1826 3) (H.1 1826 8) v) (fun i => H.1 1842 (48 * (2 * l + s) + i)) k 0 1 := tm_at k3 (fun x hx => by rw [Nat.zero_add])
  have hk := tm_k1 t0
  obtain ⟨g1, g2⟩ := tm_wn t0
  have hc : ∀ i, i < k → aC (H.1 (265 + 6 * l + (2 * s + 1) + 1) i) = ma (H.1 1833) (H.1 1830) (H.1 1842 (48 * (2 * l + s) + i)) ∧ lenC H (H.1 (265 + 6 * l + (2 * s + 1) + 1) i) = lenR (H.1 1832) (H.1 1828) (H.1 1842 (48 * (2 * l + s) + i)) := by
    intro i hi
    have e1 := d2 i (by omega)
    have e2 := w2 i (by omega)
    have o := tm_ok t0 i hi
    rw [Nat.zero_add] at o
    have q := sgn_same hP hT hA hN (by omega) o
    rw [e1, ← e2]
    exact ⟨q.1, q.2.1⟩
  refine ⟨k, ⟨hk, k2⟩, k1, by omega, hc, fun i hi => ?_, ?_⟩
  · rw [wn_cg (ar := ma (H.1 1833) (H.1 1830)) (a := fun i => H.1 1842 (48 * (2 * l + s) + i)) (fun j hj => (hc j (by omega)).1)]
    exact g1 i hi
  · rw [wn_cg (ar := ma (H.1 1833) (H.1 1830)) (a := fun i => H.1 1842 (48 * (2 * l + s) + i)) (fun j hj => (hc j (by omega)).1)]
    exact g2
