/-! the reference reads terms -/
/-- what a name, or a ( , that stands open wants in all -/
def ar5 (ar : Int → Int) (s : Int) : Int := if s = 5000 then 1 else ar s
def cb (ou : Nat → Int) : Nat → Int
  | 0 => 0
  | n + 1 => cb ou n + (if ou n = 5000 then 1 else 0)
theorem cb_eq {ou ou' : Nat → Int} : ∀ {n : Nat}, (∀ i, i < n → ou' i = ou i) → cb ou' n = cb ou n
  | 0, _ => rfl
  | n + 1, h => by
    show cb ou' n + _ = cb ou n + _
    rw [cb_eq (fun i hi => h i (by omega)), h n (by omega)]
theorem cb_nn {ou : Nat → Int} : ∀ {n : Nat}, 0 ≤ cb ou n
  | 0 => Int.le_refl _
  | n + 1 => by
    have := cb_nn (ou := ou) (n := n)
    show 0 ≤ cb ou n + (if ou n = 5000 then 1 else 0)
    split <;> omega
/-- one that stands open -/
def tok (tn cn fn : Int) (ar : Int → Int) (s no bt : Int) : Prop := (s = 5000 ∨ (1 ≤ s ∧ s ≤ cn) ∨ (100 ≤ s ∧ s < 100 + fn)) ∧ (0 ≤ no ∧ no ≤ ar5 ar s) ∧ (s = 5000 → -1 ≤ bt ∧ bt < tn)
/-- a term is being read; w: how many terms are wanted beside those that what stands open wants -/
def TT (H : hp) (w : Int) : Prop := ∃ n m k : Nat, ((H.1 1826 47) = n ∧ (n : Int) ≤ (H.1 1826 43) + (H.1 1826 41) ∧ (H.1 1826 41) = cb (H.1 1852) n ∧ (H.1 1826 41) ≤ 10) ∧ ((H.1 1826 40) = k ∧ (H.1 1826 43) = k ∧ k ≤ 40) ∧ (0 ≤ (H.1 1826 39) ∧ (H.1 1826 39) ≤ 39 ∧ ((H.1 1826 44) = 2 → (H.1 1826 39) ≤ 6)) ∧ (∀ i, i < n → tok (H.1 1826 1) (H.1 1826 3) (H.1 1826 8) (ma (H.1 1833) (H.1 1830)) ((H.1 1852) i) ((H.1 1853) i) ((H.1 1854) i)) ∧ ((m : Int) = pend (ar5 (ma (H.1 1833) (H.1 1830))) (H.1 1852) (H.1 1853) n + w ∧ tp (ma (H.1 1833) (H.1 1830)) (m_sg (H.1 1826 3) (H.1 1826 8) (H.1 1826 39)) (H.1 1851) k 0 1 m) ∧ ((H.1 1826 44) = 2 → ∀ v : Nat, (v : Int) < (H.1 1826 39) → 0 ≤ (H.1 1850) v ∧ (H.1 1850) v < (H.1 1826 1))
theorem TT_fr {ob ar : List Nat} {H K : hp} {w : Int} (h : TT H w) (g : fr ob ar H K) (h1 : ∀ c ∈ [1830, 1833, 1850, 1851, 1852, 1853, 1854], c ∉ ar) (h2 : ∀ j ∈ [1, 3, 8, 39, 40, 41, 43, 44, 47], j ∉ ob) : TT K w := by
  have e : ∀ c ∈ [1830, 1833, 1850, 1851, 1852, 1853, 1854], c ≠ 1826 → K.1 c = H.1 c := fun c hc hn => g.2.1 c hn (h1 c hc)
  have e2 : ∀ j ∈ [1, 3, 8, 39, 40, 41, 43, 44, 47], K.1 1826 j = H.1 1826 j := fun j hj => g.2.2 j (h2 j hj)
  unfold TT
  rw [e 1830 (by decide) (by decide), e 1833 (by decide) (by decide), e 1850 (by decide) (by decide), e 1851 (by decide) (by decide), e 1852 (by decide) (by decide), e 1853 (by decide) (by decide), e 1854 (by decide) (by decide), e2 1 (by decide), e2 3 (by decide), e2 8 (by decide), e2 39 (by decide), e2 40 (by decide), e2 41 (by decide), e2 43 (by decide), e2 44 (by decide), e2 47 (by decide)]
  exact h
/-- the same program, and sort -/
def eqp (H K : hp) : Prop := ((K.1 1826 1) = (H.1 1826 1) ∧ (K.1 1826 3) = (H.1 1826 3) ∧ (K.1 1826 8) = (H.1 1826 8) ∧ (K.1 1826 44) = (H.1 1826 44)) ∧ (K.1 1833) = (H.1 1833) ∧ (K.1 1830) = (H.1 1830)
theorem pend_push {ar : Int → Int} {ou no : Nat → Int} {n : Nat} {s : Int} : pend ar (up ou n s) (up no n 0) (n + 1) = pend ar ou no n + ar s := by
  show pend ar (up ou n s) (up no n 0) n + (ar (up ou n s n) - up no n 0 n) = _
  rw [pend_eq (ou := ou) (no := no) (fun i hi => ⟨up_ne _ _ (by omega), up_ne _ _ (by omega)⟩), up_eq, up_eq]
  omega
/-- one more sign (a variable may be new); q > 0 or a name: it stands open -/
theorem TT_sign {H K : hp} {s : Int} {q : Nat} (hP : PWc H) (h : TT H 1) (e : eqp H K) (hs : m_sg (H.1 1826 3) (H.1 1826 8) (K.1 1826 39) s) (hq : ma (H.1 1833) (H.1 1830) s = q) (hq4 : q ≤ 4) (hnm : (H.1 1826 40) ≠ 40) (e1 : (K.1 1826 40) = (H.1 1826 40) + 1 ∧ (K.1 1826 43) = (H.1 1826 43) + 1 ∧ (K.1 1826 41) = (H.1 1826 41)) (e3 : (K.1 1851) = up (H.1 1851) ((H.1 1826 43)).toNat s)
    (ev : ((K.1 1826 39) = (H.1 1826 39) ∧ (K.1 1850) = (H.1 1850)) ∨ ((H.1 1826 44) = 2 ∧ (H.1 1826 39) ≤ 5 ∧ (K.1 1826 39) = (H.1 1826 39) + 1 ∧ ∃ t : Int, (K.1 1850) = up (H.1 1850) ((H.1 1826 39)).toNat t ∧ 0 ≤ t ∧ t < (H.1 1826 1)))
    (b : (q = 0 ∧ (K.1 1826 47) = (H.1 1826 47) ∧ (K.1 1852) = (H.1 1852) ∧ (K.1 1853) = (H.1 1853) ∧ (K.1 1854) = (H.1 1854)) ∨ (((1 ≤ s ∧ s ≤ (H.1 1826 3)) ∨ (100 ≤ s ∧ s < 100 + (H.1 1826 8))) ∧ (K.1 1826 47) = (H.1 1826 47) + 1 ∧ (K.1 1852) = up (H.1 1852) ((H.1 1826 47)).toNat s ∧ (K.1 1853) = up (H.1 1853) ((H.1 1826 47)).toNat 0 ∧ ∃ t : Int, (K.1 1854) = up (H.1 1854) ((H.1 1826 47)).toNat t)) : TT K 0 := by
  obtain ⟨n, m, k, ⟨a1, a2, a3, a4⟩, ⟨b1, b2, b3⟩, ⟨c1, c2, c3⟩, d1, ⟨x1, x2⟩, y1⟩ := h
  obtain ⟨⟨e4, e5, e6, e7⟩, e8, e9⟩ := e
  obtain ⟨⟨pb1, pb2, pb3, pb4, pb5⟩, -⟩ := hP
  rw [show ((H.1 1826 43)).toNat = k by omega] at e3
  rw [show ((H.1 1826 47)).toNat = n by omega] at b
  have hpn : 0 ≤ pend (ar5 (ma (H.1 1833) (H.1 1830))) (H.1 1852) (H.1 1853) n := pend_nn (fun i hi => (d1 i hi).2.1.2)
  obtain ⟨m, rfl⟩ : ∃ m0, m = m0 + 1 := ⟨m - 1, by omega⟩
  have hvv : (H.1 1826 39) ≤ (K.1 1826 39) := by omega
  have ht : tp (ma (H.1 1833) (H.1 1830)) (m_sg (H.1 1826 3) (H.1 1826 8) (K.1 1826 39)) (K.1 1851) (k + 1) 0 1 (m + q) := by
    refine tp_snoc (tp_mono x2 (fun j _ hj ho => ⟨?_, m_sg_mono (Int.le_refl _) (Int.le_refl _) hvv ho, rfl⟩)) ?_ ?_ hq4
    · rw [e3, up_ne _ _ (by omega)]
    · rw [e3, Nat.zero_add, up_eq]
      exact hs
    · rw [e3, Nat.zero_add, up_eq]
      exact hq
  have hv : 0 ≤ (K.1 1826 39) ∧ (K.1 1826 39) ≤ 39 ∧ ((K.1 1826 44) = 2 → (K.1 1826 39) ≤ 6) := by
    rw [e7]
    omega
  have hw : (K.1 1826 44) = 2 → ∀ v : Nat, (v : Int) < (K.1 1826 39) → 0 ≤ (K.1 1850) v ∧ (K.1 1850) v < (K.1 1826 1) := by
    rw [e7, e4]
    intro h2 v hv
    rcases ev with ⟨v1, v2⟩ | ⟨v0, v1, v2, t, v3, v4⟩
    · rw [v2]
      exact y1 h2 v (by omega)
    · rw [v3]
      by_cases e : v = ((H.1 1826 39)).toNat
      · rw [e, up_eq]
        exact v4
      · rw [up_ne _ _ e]
        exact y1 h2 v (by omega)
  clear ev
  rcases b with ⟨k1, k2, k3, k4, k5⟩ | ⟨k1, k2, k3, k4, t, k5⟩
  · refine ⟨n, m + q, k + 1, ⟨by omega, by omega, by rw [k3]; omega, by omega⟩, ⟨by omega, by omega, by omega⟩, hv, fun i hi => ?_, ⟨?_, by rw [e8, e9, e5, e6]; exact ht⟩, hw⟩
    · rw [e4, e5, e6, e8, e9, k3, k4, k5]
      exact d1 i hi
    · rw [e8, e9, k3, k4]
      omega
  · have hs5 : s ≠ 5000 := by omega
    refine ⟨n + 1, m + q, k + 1, ⟨by omega, by omega, ?_, by omega⟩, ⟨by omega, by omega, by omega⟩, hv, fun i hi => ?_, ⟨?_, by rw [e8, e9, e5, e6]; exact ht⟩, hw⟩
    · rw [k3]
      show _ = cb (up (H.1 1852) n s) n + (if up (H.1 1852) n s n = 5000 then 1 else 0)
      rw [cb_eq (ou := (H.1 1852)) (fun i hi => up_ne _ _ (by omega)), up_eq, if_neg hs5]
      omega
    · rw [e4, e5, e6, e8, e9, k3, k4, k5]
      by_cases e : i = n
      · subst e
        rw [up_eq, up_eq, up_eq]
        refine ⟨Or.inr k1, ⟨by omega, ?_⟩, fun h5 => absurd h5 hs5⟩
        unfold ar5
        rw [if_neg hs5]
        omega
      · rw [up_ne _ _ e, up_ne _ _ e, up_ne _ _ e]
        exact d1 i (by omega)
    · rw [e8, e9, k3, k4, pend_push]
      unfold ar5 at x1 ⊢
      rw [if_neg hs5]
      omega
/-- a ( -/
theorem TT_open {H K : hp} {t : Int} (h : TT H 1) (e : eqp H K) (ht : -1 ≤ t ∧ t < (H.1 1826 1)) (ho : (H.1 1826 41) ≠ 10) (e1 : (K.1 1826 40) = (H.1 1826 40) ∧ (K.1 1826 43) = (H.1 1826 43) ∧ (K.1 1826 41) = (H.1 1826 41) + 1) (e3 : (K.1 1851) = (H.1 1851)) (ev : (K.1 1826 39) = (H.1 1826 39) ∧ (K.1 1850) = (H.1 1850)) (k2 : (K.1 1826 47) = (H.1 1826 47) + 1) (k3 : (K.1 1852) = up (H.1 1852) ((H.1 1826 47)).toNat 5000) (k4 : (K.1 1853) = up (H.1 1853) ((H.1 1826 47)).toNat 0) (k5 : (K.1 1854) = up (H.1 1854) ((H.1 1826 47)).toNat t) : TT K 0 := by
  obtain ⟨n, m, k, ⟨a1, a2, a3, a4⟩, ⟨b1, b2, b3⟩, ⟨c1, c2, c3⟩, d1, ⟨x1, x2⟩, y1⟩ := h
  obtain ⟨⟨e4, e5, e6, e7⟩, e8, e9⟩ := e
  rw [show ((H.1 1826 47)).toNat = n by omega] at k3 k4 k5
  refine ⟨n + 1, m, k, ⟨by omega, by omega, ?_, by omega⟩, ⟨by omega, by omega, by omega⟩, by rw [e7]; omega, fun i hi => ?_, ⟨?_, by rw [e8, e9, e5, e6, e3, ev.1]; exact x2⟩, by rw [e7, e4, ev.1, ev.2]; exact y1⟩
  · rw [k3]
    show _ = cb (up (H.1 1852) n 5000) n + (if up (H.1 1852) n 5000 n = 5000 then 1 else 0)
    rw [cb_eq (ou := (H.1 1852)) (fun i hi => up_ne _ _ (by omega)), up_eq, if_pos rfl]
    omega
  · rw [e4, e5, e6, e8, e9, k3, k4, k5]
    by_cases e : i = n
    · subst e
      rw [up_eq, up_eq, up_eq]
      refine ⟨Or.inl rfl, ⟨by omega, ?_⟩, fun _ => ht⟩
      unfold ar5
      rw [if_pos rfl]
      omega
    · rw [up_ne _ _ e, up_ne _ _ e, up_ne _ _ e]
      exact d1 i (by omega)
  · rw [e8, e9, k3, k4, pend_push]
    rw [show ar5 (ma (H.1 1833) (H.1 1830)) 5000 = 1 from if_pos rfl]
    omega
/-- what stands open outermost has all: it stands no longer -/
theorem TT_pop {H K : hp} {n : Nat} (h : TT H 0) (e : eqp H K) (hn : (H.1 1826 47) = n + 1) (hf : ar5 (ma (H.1 1833) (H.1 1830)) ((H.1 1852) n) ≤ (H.1 1853) n) (e1 : (K.1 1826 40) = (H.1 1826 40) ∧ (K.1 1826 43) = (H.1 1826 43)) (e3 : (K.1 1851) = (H.1 1851)) (ev : (K.1 1826 39) = (H.1 1826 39) ∧ (K.1 1850) = (H.1 1850)) (k2 : (K.1 1826 47) = n) (k6 : (K.1 1826 41) = (H.1 1826 41) - (if (H.1 1852) n = 5000 then 1 else 0)) (k3 : (K.1 1852) = (H.1 1852)) (k4 : (K.1 1853) = (H.1 1853)) (k5 : (K.1 1854) = (H.1 1854)) : TT K 0 := by
  obtain ⟨n', m, k, ⟨a1, a2, a3, a4⟩, ⟨b1, b2, b3⟩, ⟨c1, c2, c3⟩, d1, ⟨x1, x2⟩, y1⟩ := h
  obtain ⟨⟨e4, e5, e6, e7⟩, e8, e9⟩ := e
  obtain rfl : n' = n + 1 := by omega
  have hc : cb (H.1 1852) (n + 1) = cb (H.1 1852) n + (if (H.1 1852) n = 5000 then 1 else 0) := rfl
  have hp : pend (ar5 (ma (H.1 1833) (H.1 1830))) (H.1 1852) (H.1 1853) (n + 1) = pend (ar5 (ma (H.1 1833) (H.1 1830))) (H.1 1852) (H.1 1853) n + (ar5 (ma (H.1 1833) (H.1 1830)) ((H.1 1852) n) - (H.1 1853) n) := rfl
  have hd := (d1 n (by omega)).2.1.2
  have hi9 : (if (H.1 1852) n = 5000 then (1 : Int) else 0) ≤ 1 := by split <;> omega
  refine ⟨n, m, k, ⟨by omega, by omega, by rw [k3]; omega, by omega⟩, ⟨by omega, by omega, by omega⟩, by rw [e7]; omega, fun i hi => ?_, ⟨?_, by rw [e8, e9, e5, e6, e3, ev.1]; exact x2⟩, by rw [e7, e4, ev.1, ev.2]; exact y1⟩
  · rw [e4, e5, e6, e8, e9, k3, k4, k5]
    exact d1 i (by omega)
  · rw [e8, e9, k3, k4]
    omega
/-- what stands open outermost asks for one more -/
theorem TT_ask {H K : hp} {n : Nat} (h : TT H 0) (e : eqp H K) (hn : (H.1 1826 47) = n + 1) (hf : (H.1 1853) n < ar5 (ma (H.1 1833) (H.1 1830)) ((H.1 1852) n)) (e1 : (K.1 1826 40) = (H.1 1826 40) ∧ (K.1 1826 43) = (H.1 1826 43) ∧ (K.1 1826 41) = (H.1 1826 41)) (e3 : (K.1 1851) = (H.1 1851)) (ev : (K.1 1826 39) = (H.1 1826 39) ∧ (K.1 1850) = (H.1 1850)) (k2 : (K.1 1826 47) = (H.1 1826 47)) (k3 : (K.1 1852) = (H.1 1852)) (k4 : (K.1 1853) = up (H.1 1853) n ((H.1 1853) n + 1)) (k5 : (K.1 1854) = (H.1 1854)) : TT K 1 := by
  obtain ⟨n', m, k, ⟨a1, a2, a3, a4⟩, ⟨b1, b2, b3⟩, ⟨c1, c2, c3⟩, d1, ⟨x1, x2⟩, y1⟩ := h
  obtain ⟨⟨e4, e5, e6, e7⟩, e8, e9⟩ := e
  obtain rfl : n' = n + 1 := by omega
  have hp : pend (ar5 (ma (H.1 1833) (H.1 1830))) (H.1 1852) (H.1 1853) (n + 1) = pend (ar5 (ma (H.1 1833) (H.1 1830))) (H.1 1852) (H.1 1853) n + (ar5 (ma (H.1 1833) (H.1 1830)) ((H.1 1852) n) - (H.1 1853) n) := rfl
  refine ⟨n + 1, m, k, ⟨by omega, by omega, by rw [k3]; omega, by omega⟩, ⟨by omega, by omega, by omega⟩, by rw [e7]; omega, fun i hi => ?_, ⟨?_, by rw [e8, e9, e5, e6, e3, ev.1]; exact x2⟩, by rw [e7, e4, ev.1, ev.2]; exact y1⟩
  · rw [e4, e5, e6, e8, e9, k3, k4, k5]
    obtain ⟨g1, g2, g3⟩ := d1 i hi
    by_cases e : i = n
    · subst e
      rw [up_eq]
      exact ⟨g1, by omega, g3⟩
    · rw [up_ne _ _ e]
      exact ⟨g1, g2, g3⟩
  · rw [e8, e9, k3, k4]
    show _ = pend (ar5 (ma (H.1 1833) (H.1 1830))) (H.1 1852) (up (H.1 1853) n ((H.1 1853) n + 1)) n + (ar5 (ma (H.1 1833) (H.1 1830)) ((H.1 1852) n) - up (H.1 1853) n ((H.1 1853) n + 1) n) + 1
    rw [pend_eq (ou := (H.1 1852)) (no := (H.1 1853)) (fun i hi => ⟨rfl, up_ne _ _ (by omega)⟩), up_eq]
    omega
/-- the end: a term was read -/
theorem TT_end {H : hp} (h : TT H 0) (hn : (H.1 1826 47) = 0) : ∃ k : Nat, (H.1 1826 43) = k ∧ k ≤ 40 ∧ tm (ma (H.1 1833) (H.1 1830)) (m_sg (H.1 1826 3) (H.1 1826 8) (H.1 1826 39)) (H.1 1851) k 0 1 := by
  obtain ⟨n, m, k, ⟨a1, a2, a3, a4⟩, ⟨b1, b2, b3⟩, ⟨c1, c2, c3⟩, d1, ⟨x1, x2⟩, y1⟩ := h
  obtain rfl : n = 0 := by omega
  have hm : m = 0 := by
    have : pend (ar5 (ma (H.1 1833) (H.1 1830))) (H.1 1852) (H.1 1853) 0 = 0 := rfl
    omega
  subst hm
  exact ⟨k, b2, b3, tp_tm x2⟩
theorem TT_start {H : hp} (h1 : (H.1 1826 47) = 0 ∧ (H.1 1826 41) = 0) (h2 : (H.1 1826 40) = 0 ∧ (H.1 1826 43) = 0) (h3 : 0 ≤ (H.1 1826 39) ∧ (H.1 1826 39) ≤ 39 ∧ ((H.1 1826 44) = 2 → (H.1 1826 39) ≤ 6)) (h4 : (H.1 1826 44) = 2 → ∀ v : Nat, (v : Int) < (H.1 1826 39) → 0 ≤ (H.1 1850) v ∧ (H.1 1850) v < (H.1 1826 1)) : TT H 1 :=
  ⟨0, 1, 0, ⟨by omega, by omega, (by show _ = (0 : Int); omega), by omega⟩, ⟨by omega, by omega, by omega⟩, h3, fun i hi => absurd hi (Nat.not_lt_zero _), ⟨by show _ = (0 : Int) + 1; omega, rfl⟩, h4⟩

/-! great -/
set_option maxRecDepth 100000 in
theorem m_great {zC : Nat → Option zsh} {d : Nat} (hd : 5 ≤ d) {H : hp} {t h : Int} (h0 : 0 ≤ (H.1 1826 30) ∧ (H.1 1826 30) ≤ (H.1 1826 29) ∧ (H.1 1826 29) ≤ 1000) (hw : 0 ≤ (H.1 1826 35) ∧ (H.1 1826 35) ≤ 5) (hst : 0 ≤ (H.1 1826 32) ∧ (H.1 1826 32) ≤ 1000) (hw0 : (H.1 1826 35) = 0) (hP : PWc H) (hTT : TT H 1) (hso : 1 ≤ (H.1 1826 44) ∧ (H.1 1826 44) ≤ 3) (ht : -1 ≤ t ∧ t < (H.1 1826 1)) (hh : 0 ≤ h ∧ h ≤ 1) : hG (zs zC) d mt_183 0 (zargs 0 [.inr (.inr 1826), .inl t, .inl h]) [] H (fun r H2 => (∃ r0 : Int, r = some (.inl r0) ∧ -1 ≤ r0 ∧ r0 < (H.1 1826 1)) ∧ fr [30, 31, 32, 33, 35, 36, 39, 40, 41, 43, 47] [1849, 1850, 1851, 1852, 1853, 1854] H H2 ∧ ((H.1 1826 30) ≤ (H2.1 1826 30) ∧ (H2.1 1826 30) ≤ (H.1 1826 29)) ∧ (0 ≤ (H2.1 1826 35) ∧ (H2.1 1826 35) ≤ 5) ∧ (0 ≤ (H2.1 1826 32) ∧ (H2.1 1826 32) ≤ 1000) ∧ ((H2.1 1826 35) = 0 → (H2.1 1826 31) = 0 ∨ (H.1 1826 30) < (H2.1 1826 30)) ∧ (((H.1 1826 44) ≠ 2 → (H2.1 1826 39) = (H.1 1826 39)) ∧ (H.1 1826 39) ≤ (H2.1 1826 39)) ∧ hid ((H2.1 1826 35) = 0 → TT H2 0)) := by
  refine h_rng (fun hrg0 => ?_)
  refine h_run 0 (pc' := 0) (l' := [(0, .inr (.inr 1826)), (1, .inl t), (2, .inl h)]) (st' := []) rfl ?_
  obtain ⟨⟨pb1, pb2, pb3, pb4, pb5⟩, pw1, pw2, pw3, pw4⟩ := (id hP : PW H (H.1 1826 1) (H.1 1826 3) (H.1 1826 8) (H.1 1826 13) (H.1 1826 19))
  obtain ⟨n, m, k, ⟨ta1, ta2, ta3, ta4⟩, ⟨tb1, tb2, tb3⟩, ⟨tc1, tc2, tc3⟩, -, -, -⟩ := id hTT
  have tcb := cb_nn (ou := (H.1 1852)) (n := n)
  refine h_run 4 (pc' := 8) (l' := [(0, .inr (.inr 1826)), (1, .inl t), (2, .inl h)]) (st' := [.inl (H.1 1826 3), .inr (.inr 1828)]) rfl ?_
  have g1 : -2147483648 ≤ (H.1 1826 3) ∧ (H.1 1826 3) ≤ 2147483647 := hrg0.1 1826 13 3 _ .int rfl rfl
  refine h_run 2 (pc' := 12) (l' := [(0, .inr (.inr 1826)), (1, .inl t), (2, .inl h)]) (st' := [.inr (.inl (H.1 1826 33)), .inl (H.1 1826 3), .inr (.inr 1828)]) rfl ?_
  have g2 : -9223372036854775808 ≤ (H.1 1826 33) ∧ (H.1 1826 33) ≤ 9223372036854775807 := hrg0.1 1826 13 33 _ .long rfl rfl
  refine h_cs (i := 309) (j := 167) (M' := mt_167) (xs := [.inr (.inl (H.1 1826 33)), .inl (H.1 1826 3), .inr (.inr 1828)]) (rest := []) rfl rfl rfl rfl rfl (Nat.le_of_ble_eq_true rfl) (Nat.le_of_ble_eq_true rfl) (by omega) (m_find (by omega) (m := 16) rfl (by omega : 0 ≤ (H.1 1826 3) ∧ (H.1 1826 3) ≤ ((16 : Nat) : Int) ∧ 16 ≤ 100) (by omega)) ?_
  rintro _ _ ⟨⟨k3, rfl, f4, f4x⟩ | ⟨rfl, f4⟩, rfl⟩
  · refine h_run 0 (pc' := 15) (l' := [(0, .inr (.inr 1826)), (1, .inl t), (2, .inl h)]) (st' := [.inl (k3 : Int)]) rfl ?_
    refine h_run 3 (pc' := 18) (l' := [(0, .inr (.inr 1826)), (1, .inl t), (2, .inl h), (3, .inl (k3 : Int))]) (st' := [.inl (-1), .inl (k3 : Int)]) rfl ?_
    refine h_ine (off := 10) (t := 28) rfl rfl (by omega) (by decide) (fun c5 => ?_) (fun c5 => ?_)
    · refine h_run 1 (pc' := 29) (l' := [(0, .inr (.inr 1826)), (1, .inl t), (2, .inl h), (3, .inl (k3 : Int))]) (st' := [.inl h]) rfl ?_
      refine h_zne (off := 17) (t := 46) rfl rfl (by omega) (fun c6 => ?_) (fun c6 => ?_)
      · refine h_run 1 (pc' := 47) (l' := [(0, .inr (.inr 1826)), (1, .inl t), (2, .inl h), (3, .inl (k3 : Int))]) (st' := [.inr (.inr 1826)]) rfl ?_
        have g7 : -2147483648 ≤ (H.1 1826 35) ∧ (H.1 1826 35) ≤ 2147483647 := hrg0.1 1826 13 35 _ .int rfl rfl
        refine h_cv (i := 293) (j := 158) (b := 1826) (M' := mt_158) (xs := []) (rest := []) rfl rfl rfl rfl rfl rfl (Nat.le_of_ble_eq_true rfl) (Nat.le_of_ble_eq_true rfl) (by omega) (m_good1 (by omega) (by omega : (H.1 1826 35) = 0)) ?_
        rintro _ _ ⟨rfl, rfl⟩
        refine h_run 0 (pc' := 50) (l' := [(0, .inr (.inr 1826)), (1, .inl t), (2, .inl h), (3, .inl (k3 : Int))]) (st' := [.inl 1]) rfl ?_
        refine h_zeq (off := 23) (t := 73) rfl rfl (by decide) (fun c => absurd c (by decide)) (fun _ => ?_)
        refine h_run 2 (pc' := 55) (l' := [(0, .inr (.inr 1826)), (1, .inl t), (2, .inl h), (3, .inl (k3 : Int))]) (st' := [.inl (-1), .inl t]) rfl ?_
        refine h_ieq (off := 18) (t := 73) rfl rfl (by omega) (by decide) (fun c8 => ?_) (fun c8 => ?_)
        · refine h_run 1 (pc' := 74) (l' := [(0, .inr (.inr 1826)), (1, .inl t), (2, .inl h), (3, .inl (k3 : Int))]) (st' := [.inr (.inr 1826)]) rfl ?_
          have g9 : -2147483648 ≤ (H.1 1826 40) ∧ (H.1 1826 40) ≤ 2147483647 := hrg0.1 1826 13 40 _ .int rfl rfl
          by_cases b10 : (H.1 1826 40) = 40
          · refine h_cv (i := 344) (j := 168) (b := 1826) (M' := mt_168) (xs := []) (rest := []) rfl rfl rfl rfl rfl rfl (Nat.le_of_ble_eq_true rfl) (Nat.le_of_ble_eq_true rfl) (by omega) (m_countB (by omega) (by omega : (H.1 1826 35) = 0) (by omega : (H.1 1826 40) = 40)) ?_
            rintro _ _ ⟨rfl, rfl⟩
            refine h_run 0 (pc' := 77) (l' := [(0, .inr (.inr 1826)), (1, .inl t), (2, .inl h), (3, .inl (k3 : Int))]) (st' := []) rfl ?_
            refine h_run 4 (pc' := 81) (l' := [(0, .inr (.inr 1826)), (1, .inl t), (2, .inl h), (3, .inl (k3 : Int))]) (st' := [.inl (1 + (k3 : Int)), .inr (.inr 1826)]) rfl ?_
            refine h_cv (i := 350) (j := 169) (b := 1826) (M' := mt_169) (xs := [.inl (1 + (k3 : Int))]) (rest := []) rfl rfl rfl rfl rfl rfl (Nat.le_of_ble_eq_true rfl) (Nat.le_of_ble_eq_true rfl) (by omega) (m_put0 (by omega) (by omega : (5 : Int) ≠ 0)) ?_
            rintro _ _ ⟨rfl, rfl⟩
            refine h_run 0 (pc' := 84) (l' := [(0, .inr (.inr 1826)), (1, .inl t), (2, .inl h), (3, .inl (k3 : Int))]) (st' := []) rfl ?_
            refine h_run 1 (pc' := 85) (l' := [(0, .inr (.inr 1826)), (1, .inl t), (2, .inl h), (3, .inl (k3 : Int))]) (st' := [.inr (.inr 1826)]) rfl ?_
            refine h_cv (i := 293) (j := 158) (b := 1826) (M' := mt_158) (xs := []) (rest := []) rfl rfl rfl rfl rfl rfl (Nat.le_of_ble_eq_true rfl) (Nat.le_of_ble_eq_true rfl) (by omega) (m_good0 (by omega) (by omega : (5 : Int) ≠ 0)) ?_
            rintro _ _ ⟨rfl, rfl⟩
            refine h_run 0 (pc' := 88) (l' := [(0, .inr (.inr 1826)), (1, .inl t), (2, .inl h), (3, .inl (k3 : Int))]) (st' := [.inl 0]) rfl ?_
            refine h_zeq (off := 15) (t := 103) rfl rfl (by decide) (fun _ => ?_) (fun c => absurd c (by decide))
            refine h_run 3 (pc' := 108) (l' := [(0, .inr (.inr 1826)), (1, .inl t), (2, .inl h), (3, .inl (k3 : Int))]) (st' := [.inl (k3 : Int), .inr (.inr 1829)]) rfl ?_
            refine h_ild (c := 1829) (j := k3) (i := (k3 : Int)) rfl rfl (by decide) rfl (by omega) ?_
            have g11 : -2147483648 ≤ (H.1 1829 k3) ∧ (H.1 1829 k3) ≤ 2147483647 := hrg0.2 1829 k3 16 .int rfl (by omega)
            refine h_run 0 (pc' := 109) (l' := [(0, .inr (.inr 1826)), (1, .inl t), (2, .inl h), (3, .inl (k3 : Int))]) (st' := [.inl (H.1 1829 k3)]) rfl ?_
            have hct := (pw1 k3 (by omega)).2.1
            refine h_reti (x := (H.1 1829 k3)) rfl rfl ?_
            have g12 : -2147483648 ≤ (H.1 1826 30) ∧ (H.1 1826 30) ≤ 2147483647 := hrg0.1 1826 13 30 _ .int rfl rfl
            have g13 : -2147483648 ≤ (H.1 1826 32) ∧ (H.1 1826 32) ≤ 2147483647 := hrg0.1 1826 13 32 _ .int rfl rfl
            have g14 : -2147483648 ≤ (H.1 1826 29) ∧ (H.1 1826 29) ≤ 2147483647 := hrg0.1 1826 13 29 _ .int rfl rfl
            have g15 : -2147483648 ≤ (H.1 1826 31) ∧ (H.1 1826 31) ≤ 2147483647 := hrg0.1 1826 13 31 _ .int rfl rfl
            have g16 : -2147483648 ≤ (H.1 1826 1) ∧ (H.1 1826 1) ≤ 2147483647 := hrg0.1 1826 13 1 _ .int rfl rfl
            have g17 : -2147483648 ≤ (H.1 1826 39) ∧ (H.1 1826 39) ≤ 2147483647 := hrg0.1 1826 13 39 _ .int rfl rfl
            have g18 : -2147483648 ≤ (H.1 1826 44) ∧ (H.1 1826 44) ≤ 2147483647 := hrg0.1 1826 13 44 _ .int rfl rfl
            exact ⟨⟨(H.1 1829 k3), rfl, by omega, by omega⟩, (fr_o (fr_o (fr_o (fr_rf _ _ _) (by decide)) (by decide)) (by decide)), (by omega : (H.1 1826 30) ≤ (H.1 1826 30) ∧ (H.1 1826 30) ≤ (H.1 1826 29)), (by omega : 0 ≤ (5 : Int) ∧ (5 : Int) ≤ 5), (by omega : 0 ≤ (H.1 1826 32) ∧ (H.1 1826 32) ≤ 1000), (by omega : (5 : Int) = 0 → (H.1 1826 31) = 0 ∨ (H.1 1826 30) < (H.1 1826 30)), (by omega : ((H.1 1826 44) ≠ 2 → (H.1 1826 39) = (H.1 1826 39)) ∧ (H.1 1826 39) ≤ (H.1 1826 39)), (fun (q : (5 : Int) = 0) => absurd q (by omega))⟩
          · refine h_cv (i := 344) (j := 168) (b := 1826) (M' := mt_168) (xs := []) (rest := []) rfl rfl rfl rfl rfl rfl (Nat.le_of_ble_eq_true rfl) (Nat.le_of_ble_eq_true rfl) (by omega) (m_countA (by omega) (by omega : (H.1 1826 35) = 0) (by omega : 0 ≤ (H.1 1826 40) ∧ (H.1 1826 40) ≤ 1000) (by omega : (H.1 1826 40) ≠ 40)) ?_
            rintro _ _ ⟨rfl, rfl⟩
            refine h_run 0 (pc' := 77) (l' := [(0, .inr (.inr 1826)), (1, .inl t), (2, .inl h), (3, .inl (k3 : Int))]) (st' := []) rfl ?_
            refine h_run 4 (pc' := 81) (l' := [(0, .inr (.inr 1826)), (1, .inl t), (2, .inl h), (3, .inl (k3 : Int))]) (st' := [.inl (1 + (k3 : Int)), .inr (.inr 1826)]) rfl ?_
            have g19 : -2147483648 ≤ (H.1 1826 43) ∧ (H.1 1826 43) ≤ 2147483647 := hrg0.1 1826 13 43 _ .int rfl rfl
            refine h_cv (i := 350) (j := 169) (b := 1826) (M' := mt_169) (xs := [.inl (1 + (k3 : Int))]) (rest := []) rfl rfl rfl rfl rfl rfl (Nat.le_of_ble_eq_true rfl) (Nat.le_of_ble_eq_true rfl) (by omega) (m_put1 (by omega) (by omega : (H.1 1826 35) = 0) (by omega : 0 ≤ (H.1 1826 43) ∧ (H.1 1826 43) ≤ 47) (by omega)) ?_
            rintro _ _ ⟨rfl, rfl⟩
            refine h_run 0 (pc' := 84) (l' := [(0, .inr (.inr 1826)), (1, .inl t), (2, .inl h), (3, .inl (k3 : Int))]) (st' := []) rfl ?_
            refine h_run 1 (pc' := 85) (l' := [(0, .inr (.inr 1826)), (1, .inl t), (2, .inl h), (3, .inl (k3 : Int))]) (st' := [.inr (.inr 1826)]) rfl ?_
            refine h_cv (i := 293) (j := 158) (b := 1826) (M' := mt_158) (xs := []) (rest := []) rfl rfl rfl rfl rfl rfl (Nat.le_of_ble_eq_true rfl) (Nat.le_of_ble_eq_true rfl) (by omega) (m_good1 (by omega) (by omega : (H.1 1826 35) = 0)) ?_
            rintro _ _ ⟨rfl, rfl⟩
            refine h_run 0 (pc' := 88) (l' := [(0, .inr (.inr 1826)), (1, .inl t), (2, .inl h), (3, .inl (k3 : Int))]) (st' := [.inl 1]) rfl ?_
            refine h_zeq (off := 15) (t := 103) rfl rfl (by decide) (fun c => absurd c (by decide)) (fun _ => ?_)
            refine h_run 5 (pc' := 96) (l' := [(0, .inr (.inr 1826)), (1, .inl t), (2, .inl h), (3, .inl (k3 : Int))]) (st' := [.inl (-1), .inl (1 + (k3 : Int)), .inr (.inr 1826)]) rfl ?_
            have g20 : -2147483648 ≤ (H.1 1826 47) ∧ (H.1 1826 47) ≤ 2147483647 := hrg0.1 1826 13 47 _ .int rfl rfl
            refine h_cv (i := 364) (j := 181) (b := 1826) (M' := mt_181) (xs := [.inl (-1), .inl (1 + (k3 : Int))]) (rest := []) rfl rfl rfl rfl rfl rfl (Nat.le_of_ble_eq_true rfl) (Nat.le_of_ble_eq_true rfl) (by omega) (m_enter (by omega) (by omega : 0 ≤ (H.1 1826 47) ∧ (H.1 1826 47) ≤ 63) (by omega) (by omega)) ?_
            rintro _ _ ⟨rfl, rfl⟩
            refine h_run 0 (pc' := 99) (l' := [(0, .inr (.inr 1826)), (1, .inl t), (2, .inl h), (3, .inl (k3 : Int))]) (st' := []) rfl ?_
            refine h_run 1 (pc' := 100) (l' := [(0, .inr (.inr 1826)), (1, .inl t), (2, .inl h), (3, .inl (k3 : Int))]) (st' := [.inr (.inr 1826)]) rfl ?_
            have g21 : -2147483648 ≤ (H.1 1826 30) ∧ (H.1 1826 30) ≤ 2147483647 := hrg0.1 1826 13 30 _ .int rfl rfl
            have g22 : -2147483648 ≤ (H.1 1826 29) ∧ (H.1 1826 29) ≤ 2147483647 := hrg0.1 1826 13 29 _ .int rfl rfl
            have g23 : -2147483648 ≤ (H.1 1826 32) ∧ (H.1 1826 32) ≤ 2147483647 := hrg0.1 1826 13 32 _ .int rfl rfl
            refine h_cv (i := 297) (j := 165) (b := 1826) (M' := mt_165) (xs := []) (rest := []) rfl rfl rfl rfl rfl rfl (Nat.le_of_ble_eq_true rfl) (Nat.le_of_ble_eq_true rfl) (by omega) (m_next (by omega) (by omega : 0 ≤ (H.1 1826 30) ∧ (H.1 1826 30) ≤ (H.1 1826 29) ∧ (H.1 1826 29) ≤ 1000) (by omega : 0 ≤ (H.1 1826 35) ∧ (H.1 1826 35) ≤ 5) (by omega : 0 ≤ (H.1 1826 32) ∧ (H.1 1826 32) ≤ 1000)) ?_
            rintro _ H24 ⟨rfl, hx24f, hx24a, hx24b, hx24c, -, hx24e, hx24g⟩
            refine h_rng (fun hrg25 => ?_)
            have hf26 : fr [30, 31, 32, 33, 35, 36, 39, 40, 41, 43, 47] [1849, 1850, 1851, 1852, 1853, 1854] H H24 := fr_t (fr_o (fr_a (fr_a (fr_a (fr_o (fr_a (fr_o (fr_rf _ _ _) (by decide)) (by decide)) (by decide)) (by decide)) (by decide)) (by decide)) (by decide)) hx24f (by decide) (by decide)
            replace hx24a : (H.1 1826 30) ≤ (H24.1 1826 30) := hx24a
            replace hx24b : (H24.1 1826 30) ≤ (H.1 1826 29) := hx24b
            replace hx24g : (H24.1 1826 35) = 0 → ((H24.1 1826 31) = 0 ∨ (H.1 1826 30) < (H24.1 1826 30)) := hx24g
            refine h_run 0 (pc' := 103) (l' := [(0, .inr (.inr 1826)), (1, .inl t), (2, .inl h), (3, .inl (k3 : Int))]) (st' := []) rfl ?_
            refine h_run 3 (pc' := 108) (l' := [(0, .inr (.inr 1826)), (1, .inl t), (2, .inl h), (3, .inl (k3 : Int))]) (st' := [.inl (k3 : Int), .inr (.inr 1829)]) rfl ?_
            refine h_ild (c := 1829) (j := k3) (i := (k3 : Int)) rfl rfl (by decide) rfl (by omega) ?_
            have g27 : -2147483648 ≤ (H24.1 1829 k3) ∧ (H24.1 1829 k3) ≤ 2147483647 := hrg25.2 1829 k3 16 .int rfl (by omega)
            have e28 : (H24.1 1829 k3) = (H.1 1829 k3) := congrFun (hx24f.2.1 1829 (by decide) (by decide)) k3
            refine h_run 0 (pc' := 109) (l' := [(0, .inr (.inr 1826)), (1, .inl t), (2, .inl h), (3, .inl (k3 : Int))]) (st' := [.inl (H24.1 1829 k3)]) rfl ?_
            have hct := (pw1 k3 (by omega)).2.1
            refine h_reti (x := (H24.1 1829 k3)) rfl rfl ?_
            have g29 : -2147483648 ≤ (H24.1 1826 30) ∧ (H24.1 1826 30) ≤ 2147483647 := hrg25.1 1826 13 30 _ .int rfl rfl
            have g30 : -2147483648 ≤ (H24.1 1826 35) ∧ (H24.1 1826 35) ≤ 2147483647 := hrg25.1 1826 13 35 _ .int rfl rfl
            have g31 : -2147483648 ≤ (H24.1 1826 32) ∧ (H24.1 1826 32) ≤ 2147483647 := hrg25.1 1826 13 32 _ .int rfl rfl
            have g32 : -2147483648 ≤ (H24.1 1826 29) ∧ (H24.1 1826 29) ≤ 2147483647 := hrg25.1 1826 13 29 _ .int rfl rfl
            have e33 : (H24.1 1826 29) = (H.1 1826 29) := hx24f.2.2 29 (by decide)
            have g34 : -2147483648 ≤ (H24.1 1826 31) ∧ (H24.1 1826 31) ≤ 2147483647 := hrg25.1 1826 13 31 _ .int rfl rfl
            have g35 : -2147483648 ≤ (H24.1 1826 1) ∧ (H24.1 1826 1) ≤ 2147483647 := hrg25.1 1826 13 1 _ .int rfl rfl
            have e36 : (H24.1 1826 1) = (H.1 1826 1) := hx24f.2.2 1 (by decide)
            have g37 : -2147483648 ≤ (H24.1 1826 39) ∧ (H24.1 1826 39) ≤ 2147483647 := hrg25.1 1826 13 39 _ .int rfl rfl
            have e38 : (H24.1 1826 39) = (H.1 1826 39) := hx24f.2.2 39 (by decide)
            have g39 : -2147483648 ≤ (H24.1 1826 44) ∧ (H24.1 1826 44) ≤ 2147483647 := hrg25.1 1826 13 44 _ .int rfl rfl
            have e40 : (H24.1 1826 44) = (H.1 1826 44) := hx24f.2.2 44 (by decide)
            exact ⟨⟨(H24.1 1829 k3), rfl, by omega, by omega⟩, hf26, (by omega : (H.1 1826 30) ≤ (H24.1 1826 30) ∧ (H24.1 1826 30) ≤ (H.1 1826 29)), (by omega : 0 ≤ (H24.1 1826 35) ∧ (H24.1 1826 35) ≤ 5), (by omega : 0 ≤ (H24.1 1826 32) ∧ (H24.1 1826 32) ≤ 1000), (by omega : (H24.1 1826 35) = 0 → (H24.1 1826 31) = 0 ∨ (H.1 1826 30) < (H24.1 1826 30)), (by omega : ((H.1 1826 44) ≠ 2 → (H24.1 1826 39) = (H.1 1826 39)) ∧ (H.1 1826 39) ≤ (H24.1 1826 39)), fun _ => TT_sign (s := (1 + (k3 : Int))) (q := ((H.1 1830) k3).toNat) hP hTT ⟨⟨(hx24f.2.2 1 (by decide)), (hx24f.2.2 3 (by decide)), (hx24f.2.2 8 (by decide)), (hx24f.2.2 44 (by decide))⟩, (hx24f.2.1 1833 (by decide) (by decide)), (hx24f.2.1 1830 (by decide) (by decide))⟩ (Or.inr (Or.inl ⟨by omega, by omega⟩)) (by rw [ma_c (by omega), show ((1 + (k3 : Int)) - 1).toNat = k3 by omega]; have := (pw1 k3 (by omega)).1; omega) (by have := (pw1 k3 (by omega)).1; omega) (by omega) ⟨(hx24f.2.2 40 (by decide)), (hx24f.2.2 43 (by decide)), (hx24f.2.2 41 (by decide))⟩ (hx24f.2.1 1851 (by decide) (by decide)) (Or.inl ⟨(hx24f.2.2 39 (by decide)), (hx24f.2.1 1850 (by decide) (by decide))⟩) (Or.inr ⟨(Or.inl ⟨by omega, by omega⟩), (hx24f.2.2 47 (by decide)), (hx24f.2.1 1852 (by decide) (by decide)), (hx24f.2.1 1853 (by decide) (by decide)), -1, (hx24f.2.1 1854 (by decide) (by decide))⟩)⟩
        · refine h_run 3 (pc' := 63) (l' := [(0, .inr (.inr 1826)), (1, .inl t), (2, .inl h), (3, .inl (k3 : Int))]) (st' := [.inl (k3 : Int), .inr (.inr 1829)]) rfl ?_
          refine h_ild (c := 1829) (j := k3) (i := (k3 : Int)) rfl rfl (by decide) rfl (by omega) ?_
          have g41 : -2147483648 ≤ (H.1 1829 k3) ∧ (H.1 1829 k3) ≤ 2147483647 := hrg0.2 1829 k3 16 .int rfl (by omega)
          refine h_run 0 (pc' := 64) (l' := [(0, .inr (.inr 1826)), (1, .inl t), (2, .inl h), (3, .inl (k3 : Int))]) (st' := [.inl (H.1 1829 k3)]) rfl ?_
          refine h_run 1 (pc' := 65) (l' := [(0, .inr (.inr 1826)), (1, .inl t), (2, .inl h), (3, .inl (k3 : Int))]) (st' := [.inl t, .inl (H.1 1829 k3)]) rfl ?_
          refine h_ieq (off := 8) (t := 73) rfl rfl (by omega) (by omega) (fun c42 => ?_) (fun c42 => ?_)
          · refine h_run 1 (pc' := 74) (l' := [(0, .inr (.inr 1826)), (1, .inl t), (2, .inl h), (3, .inl (k3 : Int))]) (st' := [.inr (.inr 1826)]) rfl ?_
            have g43 : -2147483648 ≤ (H.1 1826 40) ∧ (H.1 1826 40) ≤ 2147483647 := hrg0.1 1826 13 40 _ .int rfl rfl
            by_cases b44 : (H.1 1826 40) = 40
            · refine h_cv (i := 344) (j := 168) (b := 1826) (M' := mt_168) (xs := []) (rest := []) rfl rfl rfl rfl rfl rfl (Nat.le_of_ble_eq_true rfl) (Nat.le_of_ble_eq_true rfl) (by omega) (m_countB (by omega) (by omega : (H.1 1826 35) = 0) (by omega : (H.1 1826 40) = 40)) ?_
              rintro _ _ ⟨rfl, rfl⟩
              refine h_run 0 (pc' := 77) (l' := [(0, .inr (.inr 1826)), (1, .inl t), (2, .inl h), (3, .inl (k3 : Int))]) (st' := []) rfl ?_
              refine h_run 4 (pc' := 81) (l' := [(0, .inr (.inr 1826)), (1, .inl t), (2, .inl h), (3, .inl (k3 : Int))]) (st' := [.inl (1 + (k3 : Int)), .inr (.inr 1826)]) rfl ?_
              refine h_cv (i := 350) (j := 169) (b := 1826) (M' := mt_169) (xs := [.inl (1 + (k3 : Int))]) (rest := []) rfl rfl rfl rfl rfl rfl (Nat.le_of_ble_eq_true rfl) (Nat.le_of_ble_eq_true rfl) (by omega) (m_put0 (by omega) (by omega : (5 : Int) ≠ 0)) ?_
              rintro _ _ ⟨rfl, rfl⟩
              refine h_run 0 (pc' := 84) (l' := [(0, .inr (.inr 1826)), (1, .inl t), (2, .inl h), (3, .inl (k3 : Int))]) (st' := []) rfl ?_
              refine h_run 1 (pc' := 85) (l' := [(0, .inr (.inr 1826)), (1, .inl t), (2, .inl h), (3, .inl (k3 : Int))]) (st' := [.inr (.inr 1826)]) rfl ?_
              refine h_cv (i := 293) (j := 158) (b := 1826) (M' := mt_158) (xs := []) (rest := []) rfl rfl rfl rfl rfl rfl (Nat.le_of_ble_eq_true rfl) (Nat.le_of_ble_eq_true rfl) (by omega) (m_good0 (by omega) (by omega : (5 : Int) ≠ 0)) ?_
              rintro _ _ ⟨rfl, rfl⟩
              refine h_run 0 (pc' := 88) (l' := [(0, .inr (.inr 1826)), (1, .inl t), (2, .inl h), (3, .inl (k3 : Int))]) (st' := [.inl 0]) rfl ?_
              refine h_zeq (off := 15) (t := 103) rfl rfl (by decide) (fun _ => ?_) (fun c => absurd c (by decide))
              refine h_run 3 (pc' := 108) (l' := [(0, .inr (.inr 1826)), (1, .inl t), (2, .inl h), (3, .inl (k3 : Int))]) (st' := [.inl (k3 : Int), .inr (.inr 1829)]) rfl ?_
              refine h_ild (c := 1829) (j := k3) (i := (k3 : Int)) rfl rfl (by decide) rfl (by omega) ?_
              refine h_run 0 (pc' := 109) (l' := [(0, .inr (.inr 1826)), (1, .inl t), (2, .inl h), (3, .inl (k3 : Int))]) (st' := [.inl (H.1 1829 k3)]) rfl ?_
              have hct := (pw1 k3 (by omega)).2.1
              refine h_reti (x := (H.1 1829 k3)) rfl rfl ?_
              have g45 : -2147483648 ≤ (H.1 1826 30) ∧ (H.1 1826 30) ≤ 2147483647 := hrg0.1 1826 13 30 _ .int rfl rfl
              have g46 : -2147483648 ≤ (H.1 1826 32) ∧ (H.1 1826 32) ≤ 2147483647 := hrg0.1 1826 13 32 _ .int rfl rfl
              have g47 : -2147483648 ≤ (H.1 1826 29) ∧ (H.1 1826 29) ≤ 2147483647 := hrg0.1 1826 13 29 _ .int rfl rfl
              have g48 : -2147483648 ≤ (H.1 1826 31) ∧ (H.1 1826 31) ≤ 2147483647 := hrg0.1 1826 13 31 _ .int rfl rfl
              have g49 : -2147483648 ≤ (H.1 1826 1) ∧ (H.1 1826 1) ≤ 2147483647 := hrg0.1 1826 13 1 _ .int rfl rfl
              have g50 : -2147483648 ≤ (H.1 1826 39) ∧ (H.1 1826 39) ≤ 2147483647 := hrg0.1 1826 13 39 _ .int rfl rfl
              have g51 : -2147483648 ≤ (H.1 1826 44) ∧ (H.1 1826 44) ≤ 2147483647 := hrg0.1 1826 13 44 _ .int rfl rfl
              exact ⟨⟨(H.1 1829 k3), rfl, by omega, by omega⟩, (fr_o (fr_o (fr_o (fr_rf _ _ _) (by decide)) (by decide)) (by decide)), (by omega : (H.1 1826 30) ≤ (H.1 1826 30) ∧ (H.1 1826 30) ≤ (H.1 1826 29)), (by omega : 0 ≤ (5 : Int) ∧ (5 : Int) ≤ 5), (by omega : 0 ≤ (H.1 1826 32) ∧ (H.1 1826 32) ≤ 1000), (by omega : (5 : Int) = 0 → (H.1 1826 31) = 0 ∨ (H.1 1826 30) < (H.1 1826 30)), (by omega : ((H.1 1826 44) ≠ 2 → (H.1 1826 39) = (H.1 1826 39)) ∧ (H.1 1826 39) ≤ (H.1 1826 39)), (fun (q : (5 : Int) = 0) => absurd q (by omega))⟩
            · refine h_cv (i := 344) (j := 168) (b := 1826) (M' := mt_168) (xs := []) (rest := []) rfl rfl rfl rfl rfl rfl (Nat.le_of_ble_eq_true rfl) (Nat.le_of_ble_eq_true rfl) (by omega) (m_countA (by omega) (by omega : (H.1 1826 35) = 0) (by omega : 0 ≤ (H.1 1826 40) ∧ (H.1 1826 40) ≤ 1000) (by omega : (H.1 1826 40) ≠ 40)) ?_
              rintro _ _ ⟨rfl, rfl⟩
              refine h_run 0 (pc' := 77) (l' := [(0, .inr (.inr 1826)), (1, .inl t), (2, .inl h), (3, .inl (k3 : Int))]) (st' := []) rfl ?_
              refine h_run 4 (pc' := 81) (l' := [(0, .inr (.inr 1826)), (1, .inl t), (2, .inl h), (3, .inl (k3 : Int))]) (st' := [.inl (1 + (k3 : Int)), .inr (.inr 1826)]) rfl ?_
              have g52 : -2147483648 ≤ (H.1 1826 43) ∧ (H.1 1826 43) ≤ 2147483647 := hrg0.1 1826 13 43 _ .int rfl rfl
              refine h_cv (i := 350) (j := 169) (b := 1826) (M' := mt_169) (xs := [.inl (1 + (k3 : Int))]) (rest := []) rfl rfl rfl rfl rfl rfl (Nat.le_of_ble_eq_true rfl) (Nat.le_of_ble_eq_true rfl) (by omega) (m_put1 (by omega) (by omega : (H.1 1826 35) = 0) (by omega : 0 ≤ (H.1 1826 43) ∧ (H.1 1826 43) ≤ 47) (by omega)) ?_
              rintro _ _ ⟨rfl, rfl⟩
              refine h_run 0 (pc' := 84) (l' := [(0, .inr (.inr 1826)), (1, .inl t), (2, .inl h), (3, .inl (k3 : Int))]) (st' := []) rfl ?_
              refine h_run 1 (pc' := 85) (l' := [(0, .inr (.inr 1826)), (1, .inl t), (2, .inl h), (3, .inl (k3 : Int))]) (st' := [.inr (.inr 1826)]) rfl ?_
              refine h_cv (i := 293) (j := 158) (b := 1826) (M' := mt_158) (xs := []) (rest := []) rfl rfl rfl rfl rfl rfl (Nat.le_of_ble_eq_true rfl) (Nat.le_of_ble_eq_true rfl) (by omega) (m_good1 (by omega) (by omega : (H.1 1826 35) = 0)) ?_
              rintro _ _ ⟨rfl, rfl⟩
              refine h_run 0 (pc' := 88) (l' := [(0, .inr (.inr 1826)), (1, .inl t), (2, .inl h), (3, .inl (k3 : Int))]) (st' := [.inl 1]) rfl ?_
              refine h_zeq (off := 15) (t := 103) rfl rfl (by decide) (fun c => absurd c (by decide)) (fun _ => ?_)
              refine h_run 5 (pc' := 96) (l' := [(0, .inr (.inr 1826)), (1, .inl t), (2, .inl h), (3, .inl (k3 : Int))]) (st' := [.inl (-1), .inl (1 + (k3 : Int)), .inr (.inr 1826)]) rfl ?_
              have g53 : -2147483648 ≤ (H.1 1826 47) ∧ (H.1 1826 47) ≤ 2147483647 := hrg0.1 1826 13 47 _ .int rfl rfl
              refine h_cv (i := 364) (j := 181) (b := 1826) (M' := mt_181) (xs := [.inl (-1), .inl (1 + (k3 : Int))]) (rest := []) rfl rfl rfl rfl rfl rfl (Nat.le_of_ble_eq_true rfl) (Nat.le_of_ble_eq_true rfl) (by omega) (m_enter (by omega) (by omega : 0 ≤ (H.1 1826 47) ∧ (H.1 1826 47) ≤ 63) (by omega) (by omega)) ?_
              rintro _ _ ⟨rfl, rfl⟩
              refine h_run 0 (pc' := 99) (l' := [(0, .inr (.inr 1826)), (1, .inl t), (2, .inl h), (3, .inl (k3 : Int))]) (st' := []) rfl ?_
              refine h_run 1 (pc' := 100) (l' := [(0, .inr (.inr 1826)), (1, .inl t), (2, .inl h), (3, .inl (k3 : Int))]) (st' := [.inr (.inr 1826)]) rfl ?_
              have g54 : -2147483648 ≤ (H.1 1826 30) ∧ (H.1 1826 30) ≤ 2147483647 := hrg0.1 1826 13 30 _ .int rfl rfl
              have g55 : -2147483648 ≤ (H.1 1826 29) ∧ (H.1 1826 29) ≤ 2147483647 := hrg0.1 1826 13 29 _ .int rfl rfl
              have g56 : -2147483648 ≤ (H.1 1826 32) ∧ (H.1 1826 32) ≤ 2147483647 := hrg0.1 1826 13 32 _ .int rfl rfl
              refine h_cv (i := 297) (j := 165) (b := 1826) (M' := mt_165) (xs := []) (rest := []) rfl rfl rfl rfl rfl rfl (Nat.le_of_ble_eq_true rfl) (Nat.le_of_ble_eq_true rfl) (by omega) (m_next (by omega) (by omega : 0 ≤ (H.1 1826 30) ∧ (H.1 1826 30) ≤ (H.1 1826 29) ∧ (H.1 1826 29) ≤ 1000) (by omega : 0 ≤ (H.1 1826 35) ∧ (H.1 1826 35) ≤ 5) (by omega : 0 ≤ (H.1 1826 32) ∧ (H.1 1826 32) ≤ 1000)) ?_
              rintro _ H57 ⟨rfl, hx57f, hx57a, hx57b, hx57c, -, hx57e, hx57g⟩
              refine h_rng (fun hrg58 => ?_)
              have hf59 : fr [30, 31, 32, 33, 35, 36, 39, 40, 41, 43, 47] [1849, 1850, 1851, 1852, 1853, 1854] H H57 := fr_t (fr_o (fr_a (fr_a (fr_a (fr_o (fr_a (fr_o (fr_rf _ _ _) (by decide)) (by decide)) (by decide)) (by decide)) (by decide)) (by decide)) (by decide)) hx57f (by decide) (by decide)
              replace hx57a : (H.1 1826 30) ≤ (H57.1 1826 30) := hx57a
              replace hx57b : (H57.1 1826 30) ≤ (H.1 1826 29) := hx57b
              replace hx57g : (H57.1 1826 35) = 0 → ((H57.1 1826 31) = 0 ∨ (H.1 1826 30) < (H57.1 1826 30)) := hx57g
              refine h_run 0 (pc' := 103) (l' := [(0, .inr (.inr 1826)), (1, .inl t), (2, .inl h), (3, .inl (k3 : Int))]) (st' := []) rfl ?_
              refine h_run 3 (pc' := 108) (l' := [(0, .inr (.inr 1826)), (1, .inl t), (2, .inl h), (3, .inl (k3 : Int))]) (st' := [.inl (k3 : Int), .inr (.inr 1829)]) rfl ?_
              refine h_ild (c := 1829) (j := k3) (i := (k3 : Int)) rfl rfl (by decide) rfl (by omega) ?_
              have g60 : -2147483648 ≤ (H57.1 1829 k3) ∧ (H57.1 1829 k3) ≤ 2147483647 := hrg58.2 1829 k3 16 .int rfl (by omega)
              have e61 : (H57.1 1829 k3) = (H.1 1829 k3) := congrFun (hx57f.2.1 1829 (by decide) (by decide)) k3
              refine h_run 0 (pc' := 109) (l' := [(0, .inr (.inr 1826)), (1, .inl t), (2, .inl h), (3, .inl (k3 : Int))]) (st' := [.inl (H57.1 1829 k3)]) rfl ?_
              have hct := (pw1 k3 (by omega)).2.1
              refine h_reti (x := (H57.1 1829 k3)) rfl rfl ?_
              have g62 : -2147483648 ≤ (H57.1 1826 30) ∧ (H57.1 1826 30) ≤ 2147483647 := hrg58.1 1826 13 30 _ .int rfl rfl
              have g63 : -2147483648 ≤ (H57.1 1826 35) ∧ (H57.1 1826 35) ≤ 2147483647 := hrg58.1 1826 13 35 _ .int rfl rfl
              have g64 : -2147483648 ≤ (H57.1 1826 32) ∧ (H57.1 1826 32) ≤ 2147483647 := hrg58.1 1826 13 32 _ .int rfl rfl
              have g65 : -2147483648 ≤ (H57.1 1826 29) ∧ (H57.1 1826 29) ≤ 2147483647 := hrg58.1 1826 13 29 _ .int rfl rfl
              have e66 : (H57.1 1826 29) = (H.1 1826 29) := hx57f.2.2 29 (by decide)
              have g67 : -2147483648 ≤ (H57.1 1826 31) ∧ (H57.1 1826 31) ≤ 2147483647 := hrg58.1 1826 13 31 _ .int rfl rfl
              have g68 : -2147483648 ≤ (H57.1 1826 1) ∧ (H57.1 1826 1) ≤ 2147483647 := hrg58.1 1826 13 1 _ .int rfl rfl
              have e69 : (H57.1 1826 1) = (H.1 1826 1) := hx57f.2.2 1 (by decide)
              have g70 : -2147483648 ≤ (H57.1 1826 39) ∧ (H57.1 1826 39) ≤ 2147483647 := hrg58.1 1826 13 39 _ .int rfl rfl
              have e71 : (H57.1 1826 39) = (H.1 1826 39) := hx57f.2.2 39 (by decide)
              have g72 : -2147483648 ≤ (H57.1 1826 44) ∧ (H57.1 1826 44) ≤ 2147483647 := hrg58.1 1826 13 44 _ .int rfl rfl
              have e73 : (H57.1 1826 44) = (H.1 1826 44) := hx57f.2.2 44 (by decide)
              exact ⟨⟨(H57.1 1829 k3), rfl, by omega, by omega⟩, hf59, (by omega : (H.1 1826 30) ≤ (H57.1 1826 30) ∧ (H57.1 1826 30) ≤ (H.1 1826 29)), (by omega : 0 ≤ (H57.1 1826 35) ∧ (H57.1 1826 35) ≤ 5), (by omega : 0 ≤ (H57.1 1826 32) ∧ (H57.1 1826 32) ≤ 1000), (by omega : (H57.1 1826 35) = 0 → (H57.1 1826 31) = 0 ∨ (H.1 1826 30) < (H57.1 1826 30)), (by omega : ((H.1 1826 44) ≠ 2 → (H57.1 1826 39) = (H.1 1826 39)) ∧ (H.1 1826 39) ≤ (H57.1 1826 39)), fun _ => TT_sign (s := (1 + (k3 : Int))) (q := ((H.1 1830) k3).toNat) hP hTT ⟨⟨(hx57f.2.2 1 (by decide)), (hx57f.2.2 3 (by decide)), (hx57f.2.2 8 (by decide)), (hx57f.2.2 44 (by decide))⟩, (hx57f.2.1 1833 (by decide) (by decide)), (hx57f.2.1 1830 (by decide) (by decide))⟩ (Or.inr (Or.inl ⟨by omega, by omega⟩)) (by rw [ma_c (by omega), show ((1 + (k3 : Int)) - 1).toNat = k3 by omega]; have := (pw1 k3 (by omega)).1; omega) (by have := (pw1 k3 (by omega)).1; omega) (by omega) ⟨(hx57f.2.2 40 (by decide)), (hx57f.2.2 43 (by decide)), (hx57f.2.2 41 (by decide))⟩ (hx57f.2.1 1851 (by decide) (by decide)) (Or.inl ⟨(hx57f.2.2 39 (by decide)), (hx57f.2.1 1850 (by decide) (by decide))⟩) (Or.inr ⟨(Or.inl ⟨by omega, by omega⟩), (hx57f.2.2 47 (by decide)), (hx57f.2.1 1852 (by decide) (by decide)), (hx57f.2.1 1853 (by decide) (by decide)), -1, (hx57f.2.1 1854 (by decide) (by decide))⟩)⟩
          · refine h_run 2 (pc' := 70) (l' := [(0, .inr (.inr 1826)), (1, .inl t), (2, .inl h), (3, .inl (k3 : Int))]) (st' := [.inl 4, .inr (.inr 1826)]) rfl ?_
            refine h_cv (i := 278) (j := 159) (b := 1826) (M' := mt_159) (xs := [.inl 4]) (rest := []) rfl rfl rfl rfl rfl rfl (Nat.le_of_ble_eq_true rfl) (Nat.le_of_ble_eq_true rfl) (by omega) (m_bad0 (by omega) (by omega) (by omega : (H.1 1826 35) = 0)) ?_
            rintro _ _ ⟨rfl, rfl⟩
            refine h_run 0 (pc' := 73) (l' := [(0, .inr (.inr 1826)), (1, .inl t), (2, .inl h), (3, .inl (k3 : Int))]) (st' := []) rfl ?_
            refine h_run 1 (pc' := 74) (l' := [(0, .inr (.inr 1826)), (1, .inl t), (2, .inl h), (3, .inl (k3 : Int))]) (st' := [.inr (.inr 1826)]) rfl ?_
            have g74 : -2147483648 ≤ (H.1 1826 40) ∧ (H.1 1826 40) ≤ 2147483647 := hrg0.1 1826 13 40 _ .int rfl rfl
            refine h_cv (i := 344) (j := 168) (b := 1826) (M' := mt_168) (xs := []) (rest := []) rfl rfl rfl rfl rfl rfl (Nat.le_of_ble_eq_true rfl) (Nat.le_of_ble_eq_true rfl) (by omega) (m_countC (by omega) (by omega : (4 : Int) ≠ 0) (by omega : 0 ≤ (H.1 1826 40) ∧ (H.1 1826 40) ≤ 1000)) ?_
            rintro _ _ ⟨rfl, rfl⟩
            refine h_run 0 (pc' := 77) (l' := [(0, .inr (.inr 1826)), (1, .inl t), (2, .inl h), (3, .inl (k3 : Int))]) (st' := []) rfl ?_
            refine h_run 4 (pc' := 81) (l' := [(0, .inr (.inr 1826)), (1, .inl t), (2, .inl h), (3, .inl (k3 : Int))]) (st' := [.inl (1 + (k3 : Int)), .inr (.inr 1826)]) rfl ?_
            refine h_cv (i := 350) (j := 169) (b := 1826) (M' := mt_169) (xs := [.inl (1 + (k3 : Int))]) (rest := []) rfl rfl rfl rfl rfl rfl (Nat.le_of_ble_eq_true rfl) (Nat.le_of_ble_eq_true rfl) (by omega) (m_put0 (by omega) (by omega : (4 : Int) ≠ 0)) ?_
            rintro _ _ ⟨rfl, rfl⟩
            refine h_run 0 (pc' := 84) (l' := [(0, .inr (.inr 1826)), (1, .inl t), (2, .inl h), (3, .inl (k3 : Int))]) (st' := []) rfl ?_
            refine h_run 1 (pc' := 85) (l' := [(0, .inr (.inr 1826)), (1, .inl t), (2, .inl h), (3, .inl (k3 : Int))]) (st' := [.inr (.inr 1826)]) rfl ?_
            refine h_cv (i := 293) (j := 158) (b := 1826) (M' := mt_158) (xs := []) (rest := []) rfl rfl rfl rfl rfl rfl (Nat.le_of_ble_eq_true rfl) (Nat.le_of_ble_eq_true rfl) (by omega) (m_good0 (by omega) (by omega : (4 : Int) ≠ 0)) ?_
            rintro _ _ ⟨rfl, rfl⟩
            refine h_run 0 (pc' := 88) (l' := [(0, .inr (.inr 1826)), (1, .inl t), (2, .inl h), (3, .inl (k3 : Int))]) (st' := [.inl 0]) rfl ?_
            refine h_zeq (off := 15) (t := 103) rfl rfl (by decide) (fun _ => ?_) (fun c => absurd c (by decide))
            refine h_run 3 (pc' := 108) (l' := [(0, .inr (.inr 1826)), (1, .inl t), (2, .inl h), (3, .inl (k3 : Int))]) (st' := [.inl (k3 : Int), .inr (.inr 1829)]) rfl ?_
            refine h_ild (c := 1829) (j := k3) (i := (k3 : Int)) rfl rfl (by decide) rfl (by omega) ?_
            refine h_run 0 (pc' := 109) (l' := [(0, .inr (.inr 1826)), (1, .inl t), (2, .inl h), (3, .inl (k3 : Int))]) (st' := [.inl (H.1 1829 k3)]) rfl ?_
            have hct := (pw1 k3 (by omega)).2.1
            refine h_reti (x := (H.1 1829 k3)) rfl rfl ?_
            have g75 : -2147483648 ≤ (H.1 1826 30) ∧ (H.1 1826 30) ≤ 2147483647 := hrg0.1 1826 13 30 _ .int rfl rfl
            have g76 : -2147483648 ≤ (H.1 1826 32) ∧ (H.1 1826 32) ≤ 2147483647 := hrg0.1 1826 13 32 _ .int rfl rfl
            have g77 : -2147483648 ≤ (H.1 1826 29) ∧ (H.1 1826 29) ≤ 2147483647 := hrg0.1 1826 13 29 _ .int rfl rfl
            have g78 : -2147483648 ≤ (H.1 1826 31) ∧ (H.1 1826 31) ≤ 2147483647 := hrg0.1 1826 13 31 _ .int rfl rfl
            have g79 : -2147483648 ≤ (H.1 1826 1) ∧ (H.1 1826 1) ≤ 2147483647 := hrg0.1 1826 13 1 _ .int rfl rfl
            have g80 : -2147483648 ≤ (H.1 1826 39) ∧ (H.1 1826 39) ≤ 2147483647 := hrg0.1 1826 13 39 _ .int rfl rfl
            have g81 : -2147483648 ≤ (H.1 1826 44) ∧ (H.1 1826 44) ≤ 2147483647 := hrg0.1 1826 13 44 _ .int rfl rfl
            exact ⟨⟨(H.1 1829 k3), rfl, by omega, by omega⟩, (fr_o (fr_o (fr_o (fr_rf _ _ _) (by decide)) (by decide)) (by decide)), (by omega : (H.1 1826 30) ≤ (H.1 1826 30) ∧ (H.1 1826 30) ≤ (H.1 1826 29)), (by omega : 0 ≤ (4 : Int) ∧ (4 : Int) ≤ 5), (by omega : 0 ≤ (H.1 1826 32) ∧ (H.1 1826 32) ≤ 1000), (by omega : (4 : Int) = 0 → (H.1 1826 31) = 0 ∨ (H.1 1826 30) < (H.1 1826 30)), (by omega : ((H.1 1826 44) ≠ 2 → (H.1 1826 39) = (H.1 1826 39)) ∧ (H.1 1826 39) ≤ (H.1 1826 39)), (fun (q : (4 : Int) = 0) => absurd q (by omega))⟩
      · refine h_run 3 (pc' := 37) (l' := [(0, .inr (.inr 1826)), (1, .inl t), (2, .inl h), (3, .inl (k3 : Int))]) (st' := [.inl (k3 : Int), .inr (.inr 1830)]) rfl ?_
        refine h_ild (c := 1830) (j := k3) (i := (k3 : Int)) rfl rfl (by decide) rfl (by omega) ?_
        have g82 : -2147483648 ≤ (H.1 1830 k3) ∧ (H.1 1830 k3) ≤ 2147483647 := hrg0.2 1830 k3 16 .int rfl (by omega)
        refine h_run 0 (pc' := 38) (l' := [(0, .inr (.inr 1826)), (1, .inl t), (2, .inl h), (3, .inl (k3 : Int))]) (st' := [.inl (H.1 1830 k3)]) rfl ?_
        refine h_zle (off := 8) (t := 46) rfl rfl (by omega) (fun c83 => ?_) (fun c83 => ?_)
        · refine h_run 1 (pc' := 47) (l' := [(0, .inr (.inr 1826)), (1, .inl t), (2, .inl h), (3, .inl (k3 : Int))]) (st' := [.inr (.inr 1826)]) rfl ?_
          have g84 : -2147483648 ≤ (H.1 1826 35) ∧ (H.1 1826 35) ≤ 2147483647 := hrg0.1 1826 13 35 _ .int rfl rfl
          refine h_cv (i := 293) (j := 158) (b := 1826) (M' := mt_158) (xs := []) (rest := []) rfl rfl rfl rfl rfl rfl (Nat.le_of_ble_eq_true rfl) (Nat.le_of_ble_eq_true rfl) (by omega) (m_good1 (by omega) (by omega : (H.1 1826 35) = 0)) ?_
          rintro _ _ ⟨rfl, rfl⟩
          refine h_run 0 (pc' := 50) (l' := [(0, .inr (.inr 1826)), (1, .inl t), (2, .inl h), (3, .inl (k3 : Int))]) (st' := [.inl 1]) rfl ?_
          refine h_zeq (off := 23) (t := 73) rfl rfl (by decide) (fun c => absurd c (by decide)) (fun _ => ?_)
          refine h_run 2 (pc' := 55) (l' := [(0, .inr (.inr 1826)), (1, .inl t), (2, .inl h), (3, .inl (k3 : Int))]) (st' := [.inl (-1), .inl t]) rfl ?_
          refine h_ieq (off := 18) (t := 73) rfl rfl (by omega) (by decide) (fun c85 => ?_) (fun c85 => ?_)
          · refine h_run 1 (pc' := 74) (l' := [(0, .inr (.inr 1826)), (1, .inl t), (2, .inl h), (3, .inl (k3 : Int))]) (st' := [.inr (.inr 1826)]) rfl ?_
            have g86 : -2147483648 ≤ (H.1 1826 40) ∧ (H.1 1826 40) ≤ 2147483647 := hrg0.1 1826 13 40 _ .int rfl rfl
            by_cases b87 : (H.1 1826 40) = 40
            · refine h_cv (i := 344) (j := 168) (b := 1826) (M' := mt_168) (xs := []) (rest := []) rfl rfl rfl rfl rfl rfl (Nat.le_of_ble_eq_true rfl) (Nat.le_of_ble_eq_true rfl) (by omega) (m_countB (by omega) (by omega : (H.1 1826 35) = 0) (by omega : (H.1 1826 40) = 40)) ?_
              rintro _ _ ⟨rfl, rfl⟩
              refine h_run 0 (pc' := 77) (l' := [(0, .inr (.inr 1826)), (1, .inl t), (2, .inl h), (3, .inl (k3 : Int))]) (st' := []) rfl ?_
              refine h_run 4 (pc' := 81) (l' := [(0, .inr (.inr 1826)), (1, .inl t), (2, .inl h), (3, .inl (k3 : Int))]) (st' := [.inl (1 + (k3 : Int)), .inr (.inr 1826)]) rfl ?_
              refine h_cv (i := 350) (j := 169) (b := 1826) (M' := mt_169) (xs := [.inl (1 + (k3 : Int))]) (rest := []) rfl rfl rfl rfl rfl rfl (Nat.le_of_ble_eq_true rfl) (Nat.le_of_ble_eq_true rfl) (by omega) (m_put0 (by omega) (by omega : (5 : Int) ≠ 0)) ?_
              rintro _ _ ⟨rfl, rfl⟩
              refine h_run 0 (pc' := 84) (l' := [(0, .inr (.inr 1826)), (1, .inl t), (2, .inl h), (3, .inl (k3 : Int))]) (st' := []) rfl ?_
              refine h_run 1 (pc' := 85) (l' := [(0, .inr (.inr 1826)), (1, .inl t), (2, .inl h), (3, .inl (k3 : Int))]) (st' := [.inr (.inr 1826)]) rfl ?_
              refine h_cv (i := 293) (j := 158) (b := 1826) (M' := mt_158) (xs := []) (rest := []) rfl rfl rfl rfl rfl rfl (Nat.le_of_ble_eq_true rfl) (Nat.le_of_ble_eq_true rfl) (by omega) (m_good0 (by omega) (by omega : (5 : Int) ≠ 0)) ?_
              rintro _ _ ⟨rfl, rfl⟩
              refine h_run 0 (pc' := 88) (l' := [(0, .inr (.inr 1826)), (1, .inl t), (2, .inl h), (3, .inl (k3 : Int))]) (st' := [.inl 0]) rfl ?_
              refine h_zeq (off := 15) (t := 103) rfl rfl (by decide) (fun _ => ?_) (fun c => absurd c (by decide))
              refine h_run 3 (pc' := 108) (l' := [(0, .inr (.inr 1826)), (1, .inl t), (2, .inl h), (3, .inl (k3 : Int))]) (st' := [.inl (k3 : Int), .inr (.inr 1829)]) rfl ?_
              refine h_ild (c := 1829) (j := k3) (i := (k3 : Int)) rfl rfl (by decide) rfl (by omega) ?_
              have g88 : -2147483648 ≤ (H.1 1829 k3) ∧ (H.1 1829 k3) ≤ 2147483647 := hrg0.2 1829 k3 16 .int rfl (by omega)
              refine h_run 0 (pc' := 109) (l' := [(0, .inr (.inr 1826)), (1, .inl t), (2, .inl h), (3, .inl (k3 : Int))]) (st' := [.inl (H.1 1829 k3)]) rfl ?_
              have hct := (pw1 k3 (by omega)).2.1
              refine h_reti (x := (H.1 1829 k3)) rfl rfl ?_
              have g89 : -2147483648 ≤ (H.1 1826 30) ∧ (H.1 1826 30) ≤ 2147483647 := hrg0.1 1826 13 30 _ .int rfl rfl
              have g90 : -2147483648 ≤ (H.1 1826 32) ∧ (H.1 1826 32) ≤ 2147483647 := hrg0.1 1826 13 32 _ .int rfl rfl
              have g91 : -2147483648 ≤ (H.1 1826 29) ∧ (H.1 1826 29) ≤ 2147483647 := hrg0.1 1826 13 29 _ .int rfl rfl
              have g92 : -2147483648 ≤ (H.1 1826 31) ∧ (H.1 1826 31) ≤ 2147483647 := hrg0.1 1826 13 31 _ .int rfl rfl
              have g93 : -2147483648 ≤ (H.1 1826 1) ∧ (H.1 1826 1) ≤ 2147483647 := hrg0.1 1826 13 1 _ .int rfl rfl
              have g94 : -2147483648 ≤ (H.1 1826 39) ∧ (H.1 1826 39) ≤ 2147483647 := hrg0.1 1826 13 39 _ .int rfl rfl
              have g95 : -2147483648 ≤ (H.1 1826 44) ∧ (H.1 1826 44) ≤ 2147483647 := hrg0.1 1826 13 44 _ .int rfl rfl
              exact ⟨⟨(H.1 1829 k3), rfl, by omega, by omega⟩, (fr_o (fr_o (fr_o (fr_rf _ _ _) (by decide)) (by decide)) (by decide)), (by omega : (H.1 1826 30) ≤ (H.1 1826 30) ∧ (H.1 1826 30) ≤ (H.1 1826 29)), (by omega : 0 ≤ (5 : Int) ∧ (5 : Int) ≤ 5), (by omega : 0 ≤ (H.1 1826 32) ∧ (H.1 1826 32) ≤ 1000), (by omega : (5 : Int) = 0 → (H.1 1826 31) = 0 ∨ (H.1 1826 30) < (H.1 1826 30)), (by omega : ((H.1 1826 44) ≠ 2 → (H.1 1826 39) = (H.1 1826 39)) ∧ (H.1 1826 39) ≤ (H.1 1826 39)), (fun (q : (5 : Int) = 0) => absurd q (by omega))⟩
            · refine h_cv (i := 344) (j := 168) (b := 1826) (M' := mt_168) (xs := []) (rest := []) rfl rfl rfl rfl rfl rfl (Nat.le_of_ble_eq_true rfl) (Nat.le_of_ble_eq_true rfl) (by omega) (m_countA (by omega) (by omega : (H.1 1826 35) = 0) (by omega : 0 ≤ (H.1 1826 40) ∧ (H.1 1826 40) ≤ 1000) (by omega : (H.1 1826 40) ≠ 40)) ?_
              rintro _ _ ⟨rfl, rfl⟩
              refine h_run 0 (pc' := 77) (l' := [(0, .inr (.inr 1826)), (1, .inl t), (2, .inl h), (3, .inl (k3 : Int))]) (st' := []) rfl ?_
              refine h_run 4 (pc' := 81) (l' := [(0, .inr (.inr 1826)), (1, .inl t), (2, .inl h), (3, .inl (k3 : Int))]) (st' := [.inl (1 + (k3 : Int)), .inr (.inr 1826)]) rfl ?_
              have g96 : -2147483648 ≤ (H.1 1826 43) ∧ (H.1 1826 43) ≤ 2147483647 := hrg0.1 1826 13 43 _ .int rfl rfl
              refine h_cv (i := 350) (j := 169) (b := 1826) (M' := mt_169) (xs := [.inl (1 + (k3 : Int))]) (rest := []) rfl rfl rfl rfl rfl rfl (Nat.le_of_ble_eq_true rfl) (Nat.le_of_ble_eq_true rfl) (by omega) (m_put1 (by omega) (by omega : (H.1 1826 35) = 0) (by omega : 0 ≤ (H.1 1826 43) ∧ (H.1 1826 43) ≤ 47) (by omega)) ?_
              rintro _ _ ⟨rfl, rfl⟩
              refine h_run 0 (pc' := 84) (l' := [(0, .inr (.inr 1826)), (1, .inl t), (2, .inl h), (3, .inl (k3 : Int))]) (st' := []) rfl ?_
              refine h_run 1 (pc' := 85) (l' := [(0, .inr (.inr 1826)), (1, .inl t), (2, .inl h), (3, .inl (k3 : Int))]) (st' := [.inr (.inr 1826)]) rfl ?_
              refine h_cv (i := 293) (j := 158) (b := 1826) (M' := mt_158) (xs := []) (rest := []) rfl rfl rfl rfl rfl rfl (Nat.le_of_ble_eq_true rfl) (Nat.le_of_ble_eq_true rfl) (by omega) (m_good1 (by omega) (by omega : (H.1 1826 35) = 0)) ?_
              rintro _ _ ⟨rfl, rfl⟩
              refine h_run 0 (pc' := 88) (l' := [(0, .inr (.inr 1826)), (1, .inl t), (2, .inl h), (3, .inl (k3 : Int))]) (st' := [.inl 1]) rfl ?_
              refine h_zeq (off := 15) (t := 103) rfl rfl (by decide) (fun c => absurd c (by decide)) (fun _ => ?_)
              refine h_run 5 (pc' := 96) (l' := [(0, .inr (.inr 1826)), (1, .inl t), (2, .inl h), (3, .inl (k3 : Int))]) (st' := [.inl (-1), .inl (1 + (k3 : Int)), .inr (.inr 1826)]) rfl ?_
              have g97 : -2147483648 ≤ (H.1 1826 47) ∧ (H.1 1826 47) ≤ 2147483647 := hrg0.1 1826 13 47 _ .int rfl rfl
              refine h_cv (i := 364) (j := 181) (b := 1826) (M' := mt_181) (xs := [.inl (-1), .inl (1 + (k3 : Int))]) (rest := []) rfl rfl rfl rfl rfl rfl (Nat.le_of_ble_eq_true rfl) (Nat.le_of_ble_eq_true rfl) (by omega) (m_enter (by omega) (by omega : 0 ≤ (H.1 1826 47) ∧ (H.1 1826 47) ≤ 63) (by omega) (by omega)) ?_
              rintro _ _ ⟨rfl, rfl⟩
              refine h_run 0 (pc' := 99) (l' := [(0, .inr (.inr 1826)), (1, .inl t), (2, .inl h), (3, .inl (k3 : Int))]) (st' := []) rfl ?_
              refine h_run 1 (pc' := 100) (l' := [(0, .inr (.inr 1826)), (1, .inl t), (2, .inl h), (3, .inl (k3 : Int))]) (st' := [.inr (.inr 1826)]) rfl ?_
              have g98 : -2147483648 ≤ (H.1 1826 30) ∧ (H.1 1826 30) ≤ 2147483647 := hrg0.1 1826 13 30 _ .int rfl rfl
              have g99 : -2147483648 ≤ (H.1 1826 29) ∧ (H.1 1826 29) ≤ 2147483647 := hrg0.1 1826 13 29 _ .int rfl rfl
              have g100 : -2147483648 ≤ (H.1 1826 32) ∧ (H.1 1826 32) ≤ 2147483647 := hrg0.1 1826 13 32 _ .int rfl rfl
              refine h_cv (i := 297) (j := 165) (b := 1826) (M' := mt_165) (xs := []) (rest := []) rfl rfl rfl rfl rfl rfl (Nat.le_of_ble_eq_true rfl) (Nat.le_of_ble_eq_true rfl) (by omega) (m_next (by omega) (by omega : 0 ≤ (H.1 1826 30) ∧ (H.1 1826 30) ≤ (H.1 1826 29) ∧ (H.1 1826 29) ≤ 1000) (by omega : 0 ≤ (H.1 1826 35) ∧ (H.1 1826 35) ≤ 5) (by omega : 0 ≤ (H.1 1826 32) ∧ (H.1 1826 32) ≤ 1000)) ?_
              rintro _ H101 ⟨rfl, hx101f, hx101a, hx101b, hx101c, -, hx101e, hx101g⟩
              refine h_rng (fun hrg102 => ?_)
              have hf103 : fr [30, 31, 32, 33, 35, 36, 39, 40, 41, 43, 47] [1849, 1850, 1851, 1852, 1853, 1854] H H101 := fr_t (fr_o (fr_a (fr_a (fr_a (fr_o (fr_a (fr_o (fr_rf _ _ _) (by decide)) (by decide)) (by decide)) (by decide)) (by decide)) (by decide)) (by decide)) hx101f (by decide) (by decide)
              replace hx101a : (H.1 1826 30) ≤ (H101.1 1826 30) := hx101a
              replace hx101b : (H101.1 1826 30) ≤ (H.1 1826 29) := hx101b
              replace hx101g : (H101.1 1826 35) = 0 → ((H101.1 1826 31) = 0 ∨ (H.1 1826 30) < (H101.1 1826 30)) := hx101g
              refine h_run 0 (pc' := 103) (l' := [(0, .inr (.inr 1826)), (1, .inl t), (2, .inl h), (3, .inl (k3 : Int))]) (st' := []) rfl ?_
              refine h_run 3 (pc' := 108) (l' := [(0, .inr (.inr 1826)), (1, .inl t), (2, .inl h), (3, .inl (k3 : Int))]) (st' := [.inl (k3 : Int), .inr (.inr 1829)]) rfl ?_
              refine h_ild (c := 1829) (j := k3) (i := (k3 : Int)) rfl rfl (by decide) rfl (by omega) ?_
              have g104 : -2147483648 ≤ (H101.1 1829 k3) ∧ (H101.1 1829 k3) ≤ 2147483647 := hrg102.2 1829 k3 16 .int rfl (by omega)
              have e105 : (H101.1 1829 k3) = (H.1 1829 k3) := congrFun (hx101f.2.1 1829 (by decide) (by decide)) k3
              refine h_run 0 (pc' := 109) (l' := [(0, .inr (.inr 1826)), (1, .inl t), (2, .inl h), (3, .inl (k3 : Int))]) (st' := [.inl (H101.1 1829 k3)]) rfl ?_
              have hct := (pw1 k3 (by omega)).2.1
              refine h_reti (x := (H101.1 1829 k3)) rfl rfl ?_
              have g106 : -2147483648 ≤ (H101.1 1826 30) ∧ (H101.1 1826 30) ≤ 2147483647 := hrg102.1 1826 13 30 _ .int rfl rfl
              have g107 : -2147483648 ≤ (H101.1 1826 35) ∧ (H101.1 1826 35) ≤ 2147483647 := hrg102.1 1826 13 35 _ .int rfl rfl
              have g108 : -2147483648 ≤ (H101.1 1826 32) ∧ (H101.1 1826 32) ≤ 2147483647 := hrg102.1 1826 13 32 _ .int rfl rfl
              have g109 : -2147483648 ≤ (H101.1 1826 29) ∧ (H101.1 1826 29) ≤ 2147483647 := hrg102.1 1826 13 29 _ .int rfl rfl
              have e110 : (H101.1 1826 29) = (H.1 1826 29) := hx101f.2.2 29 (by decide)
              have g111 : -2147483648 ≤ (H101.1 1826 31) ∧ (H101.1 1826 31) ≤ 2147483647 := hrg102.1 1826 13 31 _ .int rfl rfl
              have g112 : -2147483648 ≤ (H101.1 1826 1) ∧ (H101.1 1826 1) ≤ 2147483647 := hrg102.1 1826 13 1 _ .int rfl rfl
              have e113 : (H101.1 1826 1) = (H.1 1826 1) := hx101f.2.2 1 (by decide)
              have g114 : -2147483648 ≤ (H101.1 1826 39) ∧ (H101.1 1826 39) ≤ 2147483647 := hrg102.1 1826 13 39 _ .int rfl rfl
              have e115 : (H101.1 1826 39) = (H.1 1826 39) := hx101f.2.2 39 (by decide)
              have g116 : -2147483648 ≤ (H101.1 1826 44) ∧ (H101.1 1826 44) ≤ 2147483647 := hrg102.1 1826 13 44 _ .int rfl rfl
              have e117 : (H101.1 1826 44) = (H.1 1826 44) := hx101f.2.2 44 (by decide)
              exact ⟨⟨(H101.1 1829 k3), rfl, by omega, by omega⟩, hf103, (by omega : (H.1 1826 30) ≤ (H101.1 1826 30) ∧ (H101.1 1826 30) ≤ (H.1 1826 29)), (by omega : 0 ≤ (H101.1 1826 35) ∧ (H101.1 1826 35) ≤ 5), (by omega : 0 ≤ (H101.1 1826 32) ∧ (H101.1 1826 32) ≤ 1000), (by omega : (H101.1 1826 35) = 0 → (H101.1 1826 31) = 0 ∨ (H.1 1826 30) < (H101.1 1826 30)), (by omega : ((H.1 1826 44) ≠ 2 → (H101.1 1826 39) = (H.1 1826 39)) ∧ (H.1 1826 39) ≤ (H101.1 1826 39)), fun _ => TT_sign (s := (1 + (k3 : Int))) (q := ((H.1 1830) k3).toNat) hP hTT ⟨⟨(hx101f.2.2 1 (by decide)), (hx101f.2.2 3 (by decide)), (hx101f.2.2 8 (by decide)), (hx101f.2.2 44 (by decide))⟩, (hx101f.2.1 1833 (by decide) (by decide)), (hx101f.2.1 1830 (by decide) (by decide))⟩ (Or.inr (Or.inl ⟨by omega, by omega⟩)) (by rw [ma_c (by omega), show ((1 + (k3 : Int)) - 1).toNat = k3 by omega]; have := (pw1 k3 (by omega)).1; omega) (by have := (pw1 k3 (by omega)).1; omega) (by omega) ⟨(hx101f.2.2 40 (by decide)), (hx101f.2.2 43 (by decide)), (hx101f.2.2 41 (by decide))⟩ (hx101f.2.1 1851 (by decide) (by decide)) (Or.inl ⟨(hx101f.2.2 39 (by decide)), (hx101f.2.1 1850 (by decide) (by decide))⟩) (Or.inr ⟨(Or.inl ⟨by omega, by omega⟩), (hx101f.2.2 47 (by decide)), (hx101f.2.1 1852 (by decide) (by decide)), (hx101f.2.1 1853 (by decide) (by decide)), -1, (hx101f.2.1 1854 (by decide) (by decide))⟩)⟩
          · refine h_run 3 (pc' := 63) (l' := [(0, .inr (.inr 1826)), (1, .inl t), (2, .inl h), (3, .inl (k3 : Int))]) (st' := [.inl (k3 : Int), .inr (.inr 1829)]) rfl ?_
            refine h_ild (c := 1829) (j := k3) (i := (k3 : Int)) rfl rfl (by decide) rfl (by omega) ?_
            have g118 : -2147483648 ≤ (H.1 1829 k3) ∧ (H.1 1829 k3) ≤ 2147483647 := hrg0.2 1829 k3 16 .int rfl (by omega)
            refine h_run 0 (pc' := 64) (l' := [(0, .inr (.inr 1826)), (1, .inl t), (2, .inl h), (3, .inl (k3 : Int))]) (st' := [.inl (H.1 1829 k3)]) rfl ?_
            refine h_run 1 (pc' := 65) (l' := [(0, .inr (.inr 1826)), (1, .inl t), (2, .inl h), (3, .inl (k3 : Int))]) (st' := [.inl t, .inl (H.1 1829 k3)]) rfl ?_
            refine h_ieq (off := 8) (t := 73) rfl rfl (by omega) (by omega) (fun c119 => ?_) (fun c119 => ?_)
            · refine h_run 1 (pc' := 74) (l' := [(0, .inr (.inr 1826)), (1, .inl t), (2, .inl h), (3, .inl (k3 : Int))]) (st' := [.inr (.inr 1826)]) rfl ?_
              have g120 : -2147483648 ≤ (H.1 1826 40) ∧ (H.1 1826 40) ≤ 2147483647 := hrg0.1 1826 13 40 _ .int rfl rfl
              by_cases b121 : (H.1 1826 40) = 40
              · refine h_cv (i := 344) (j := 168) (b := 1826) (M' := mt_168) (xs := []) (rest := []) rfl rfl rfl rfl rfl rfl (Nat.le_of_ble_eq_true rfl) (Nat.le_of_ble_eq_true rfl) (by omega) (m_countB (by omega) (by omega : (H.1 1826 35) = 0) (by omega : (H.1 1826 40) = 40)) ?_
                rintro _ _ ⟨rfl, rfl⟩
                refine h_run 0 (pc' := 77) (l' := [(0, .inr (.inr 1826)), (1, .inl t), (2, .inl h), (3, .inl (k3 : Int))]) (st' := []) rfl ?_
                refine h_run 4 (pc' := 81) (l' := [(0, .inr (.inr 1826)), (1, .inl t), (2, .inl h), (3, .inl (k3 : Int))]) (st' := [.inl (1 + (k3 : Int)), .inr (.inr 1826)]) rfl ?_
                refine h_cv (i := 350) (j := 169) (b := 1826) (M' := mt_169) (xs := [.inl (1 + (k3 : Int))]) (rest := []) rfl rfl rfl rfl rfl rfl (Nat.le_of_ble_eq_true rfl) (Nat.le_of_ble_eq_true rfl) (by omega) (m_put0 (by omega) (by omega : (5 : Int) ≠ 0)) ?_
                rintro _ _ ⟨rfl, rfl⟩
                refine h_run 0 (pc' := 84) (l' := [(0, .inr (.inr 1826)), (1, .inl t), (2, .inl h), (3, .inl (k3 : Int))]) (st' := []) rfl ?_
                refine h_run 1 (pc' := 85) (l' := [(0, .inr (.inr 1826)), (1, .inl t), (2, .inl h), (3, .inl (k3 : Int))]) (st' := [.inr (.inr 1826)]) rfl ?_
                refine h_cv (i := 293) (j := 158) (b := 1826) (M' := mt_158) (xs := []) (rest := []) rfl rfl rfl rfl rfl rfl (Nat.le_of_ble_eq_true rfl) (Nat.le_of_ble_eq_true rfl) (by omega) (m_good0 (by omega) (by omega : (5 : Int) ≠ 0)) ?_
                rintro _ _ ⟨rfl, rfl⟩
                refine h_run 0 (pc' := 88) (l' := [(0, .inr (.inr 1826)), (1, .inl t), (2, .inl h), (3, .inl (k3 : Int))]) (st' := [.inl 0]) rfl ?_
                refine h_zeq (off := 15) (t := 103) rfl rfl (by decide) (fun _ => ?_) (fun c => absurd c (by decide))
                refine h_run 3 (pc' := 108) (l' := [(0, .inr (.inr 1826)), (1, .inl t), (2, .inl h), (3, .inl (k3 : Int))]) (st' := [.inl (k3 : Int), .inr (.inr 1829)]) rfl ?_
                refine h_ild (c := 1829) (j := k3) (i := (k3 : Int)) rfl rfl (by decide) rfl (by omega) ?_
                refine h_run 0 (pc' := 109) (l' := [(0, .inr (.inr 1826)), (1, .inl t), (2, .inl h), (3, .inl (k3 : Int))]) (st' := [.inl (H.1 1829 k3)]) rfl ?_
                have hct := (pw1 k3 (by omega)).2.1
                refine h_reti (x := (H.1 1829 k3)) rfl rfl ?_
                have g122 : -2147483648 ≤ (H.1 1826 30) ∧ (H.1 1826 30) ≤ 2147483647 := hrg0.1 1826 13 30 _ .int rfl rfl
                have g123 : -2147483648 ≤ (H.1 1826 32) ∧ (H.1 1826 32) ≤ 2147483647 := hrg0.1 1826 13 32 _ .int rfl rfl
                have g124 : -2147483648 ≤ (H.1 1826 29) ∧ (H.1 1826 29) ≤ 2147483647 := hrg0.1 1826 13 29 _ .int rfl rfl
                have g125 : -2147483648 ≤ (H.1 1826 31) ∧ (H.1 1826 31) ≤ 2147483647 := hrg0.1 1826 13 31 _ .int rfl rfl
                have g126 : -2147483648 ≤ (H.1 1826 1) ∧ (H.1 1826 1) ≤ 2147483647 := hrg0.1 1826 13 1 _ .int rfl rfl
                have g127 : -2147483648 ≤ (H.1 1826 39) ∧ (H.1 1826 39) ≤ 2147483647 := hrg0.1 1826 13 39 _ .int rfl rfl
                have g128 : -2147483648 ≤ (H.1 1826 44) ∧ (H.1 1826 44) ≤ 2147483647 := hrg0.1 1826 13 44 _ .int rfl rfl
                exact ⟨⟨(H.1 1829 k3), rfl, by omega, by omega⟩, (fr_o (fr_o (fr_o (fr_rf _ _ _) (by decide)) (by decide)) (by decide)), (by omega : (H.1 1826 30) ≤ (H.1 1826 30) ∧ (H.1 1826 30) ≤ (H.1 1826 29)), (by omega : 0 ≤ (5 : Int) ∧ (5 : Int) ≤ 5), (by omega : 0 ≤ (H.1 1826 32) ∧ (H.1 1826 32) ≤ 1000), (by omega : (5 : Int) = 0 → (H.1 1826 31) = 0 ∨ (H.1 1826 30) < (H.1 1826 30)), (by omega : ((H.1 1826 44) ≠ 2 → (H.1 1826 39) = (H.1 1826 39)) ∧ (H.1 1826 39) ≤ (H.1 1826 39)), (fun (q : (5 : Int) = 0) => absurd q (by omega))⟩
              · refine h_cv (i := 344) (j := 168) (b := 1826) (M' := mt_168) (xs := []) (rest := []) rfl rfl rfl rfl rfl rfl (Nat.le_of_ble_eq_true rfl) (Nat.le_of_ble_eq_true rfl) (by omega) (m_countA (by omega) (by omega : (H.1 1826 35) = 0) (by omega : 0 ≤ (H.1 1826 40) ∧ (H.1 1826 40) ≤ 1000) (by omega : (H.1 1826 40) ≠ 40)) ?_
                rintro _ _ ⟨rfl, rfl⟩
                refine h_run 0 (pc' := 77) (l' := [(0, .inr (.inr 1826)), (1, .inl t), (2, .inl h), (3, .inl (k3 : Int))]) (st' := []) rfl ?_
                refine h_run 4 (pc' := 81) (l' := [(0, .inr (.inr 1826)), (1, .inl t), (2, .inl h), (3, .inl (k3 : Int))]) (st' := [.inl (1 + (k3 : Int)), .inr (.inr 1826)]) rfl ?_
                have g129 : -2147483648 ≤ (H.1 1826 43) ∧ (H.1 1826 43) ≤ 2147483647 := hrg0.1 1826 13 43 _ .int rfl rfl
                refine h_cv (i := 350) (j := 169) (b := 1826) (M' := mt_169) (xs := [.inl (1 + (k3 : Int))]) (rest := []) rfl rfl rfl rfl rfl rfl (Nat.le_of_ble_eq_true rfl) (Nat.le_of_ble_eq_true rfl) (by omega) (m_put1 (by omega) (by omega : (H.1 1826 35) = 0) (by omega : 0 ≤ (H.1 1826 43) ∧ (H.1 1826 43) ≤ 47) (by omega)) ?_
                rintro _ _ ⟨rfl, rfl⟩
                refine h_run 0 (pc' := 84) (l' := [(0, .inr (.inr 1826)), (1, .inl t), (2, .inl h), (3, .inl (k3 : Int))]) (st' := []) rfl ?_
                refine h_run 1 (pc' := 85) (l' := [(0, .inr (.inr 1826)), (1, .inl t), (2, .inl h), (3, .inl (k3 : Int))]) (st' := [.inr (.inr 1826)]) rfl ?_
                refine h_cv (i := 293) (j := 158) (b := 1826) (M' := mt_158) (xs := []) (rest := []) rfl rfl rfl rfl rfl rfl (Nat.le_of_ble_eq_true rfl) (Nat.le_of_ble_eq_true rfl) (by omega) (m_good1 (by omega) (by omega : (H.1 1826 35) = 0)) ?_
                rintro _ _ ⟨rfl, rfl⟩
                refine h_run 0 (pc' := 88) (l' := [(0, .inr (.inr 1826)), (1, .inl t), (2, .inl h), (3, .inl (k3 : Int))]) (st' := [.inl 1]) rfl ?_
                refine h_zeq (off := 15) (t := 103) rfl rfl (by decide) (fun c => absurd c (by decide)) (fun _ => ?_)
                refine h_run 5 (pc' := 96) (l' := [(0, .inr (.inr 1826)), (1, .inl t), (2, .inl h), (3, .inl (k3 : Int))]) (st' := [.inl (-1), .inl (1 + (k3 : Int)), .inr (.inr 1826)]) rfl ?_
                have g130 : -2147483648 ≤ (H.1 1826 47) ∧ (H.1 1826 47) ≤ 2147483647 := hrg0.1 1826 13 47 _ .int rfl rfl
                refine h_cv (i := 364) (j := 181) (b := 1826) (M' := mt_181) (xs := [.inl (-1), .inl (1 + (k3 : Int))]) (rest := []) rfl rfl rfl rfl rfl rfl (Nat.le_of_ble_eq_true rfl) (Nat.le_of_ble_eq_true rfl) (by omega) (m_enter (by omega) (by omega : 0 ≤ (H.1 1826 47) ∧ (H.1 1826 47) ≤ 63) (by omega) (by omega)) ?_
                rintro _ _ ⟨rfl, rfl⟩
                refine h_run 0 (pc' := 99) (l' := [(0, .inr (.inr 1826)), (1, .inl t), (2, .inl h), (3, .inl (k3 : Int))]) (st' := []) rfl ?_
                refine h_run 1 (pc' := 100) (l' := [(0, .inr (.inr 1826)), (1, .inl t), (2, .inl h), (3, .inl (k3 : Int))]) (st' := [.inr (.inr 1826)]) rfl ?_
                have g131 : -2147483648 ≤ (H.1 1826 30) ∧ (H.1 1826 30) ≤ 2147483647 := hrg0.1 1826 13 30 _ .int rfl rfl
                have g132 : -2147483648 ≤ (H.1 1826 29) ∧ (H.1 1826 29) ≤ 2147483647 := hrg0.1 1826 13 29 _ .int rfl rfl
                have g133 : -2147483648 ≤ (H.1 1826 32) ∧ (H.1 1826 32) ≤ 2147483647 := hrg0.1 1826 13 32 _ .int rfl rfl
                refine h_cv (i := 297) (j := 165) (b := 1826) (M' := mt_165) (xs := []) (rest := []) rfl rfl rfl rfl rfl rfl (Nat.le_of_ble_eq_true rfl) (Nat.le_of_ble_eq_true rfl) (by omega) (m_next (by omega) (by omega : 0 ≤ (H.1 1826 30) ∧ (H.1 1826 30) ≤ (H.1 1826 29) ∧ (H.1 1826 29) ≤ 1000) (by omega : 0 ≤ (H.1 1826 35) ∧ (H.1 1826 35) ≤ 5) (by omega : 0 ≤ (H.1 1826 32) ∧ (H.1 1826 32) ≤ 1000)) ?_
                rintro _ H134 ⟨rfl, hx134f, hx134a, hx134b, hx134c, -, hx134e, hx134g⟩
                refine h_rng (fun hrg135 => ?_)
                have hf136 : fr [30, 31, 32, 33, 35, 36, 39, 40, 41, 43, 47] [1849, 1850, 1851, 1852, 1853, 1854] H H134 := fr_t (fr_o (fr_a (fr_a (fr_a (fr_o (fr_a (fr_o (fr_rf _ _ _) (by decide)) (by decide)) (by decide)) (by decide)) (by decide)) (by decide)) (by decide)) hx134f (by decide) (by decide)
                replace hx134a : (H.1 1826 30) ≤ (H134.1 1826 30) := hx134a
                replace hx134b : (H134.1 1826 30) ≤ (H.1 1826 29) := hx134b
                replace hx134g : (H134.1 1826 35) = 0 → ((H134.1 1826 31) = 0 ∨ (H.1 1826 30) < (H134.1 1826 30)) := hx134g
                refine h_run 0 (pc' := 103) (l' := [(0, .inr (.inr 1826)), (1, .inl t), (2, .inl h), (3, .inl (k3 : Int))]) (st' := []) rfl ?_
                refine h_run 3 (pc' := 108) (l' := [(0, .inr (.inr 1826)), (1, .inl t), (2, .inl h), (3, .inl (k3 : Int))]) (st' := [.inl (k3 : Int), .inr (.inr 1829)]) rfl ?_
                refine h_ild (c := 1829) (j := k3) (i := (k3 : Int)) rfl rfl (by decide) rfl (by omega) ?_
                have g137 : -2147483648 ≤ (H134.1 1829 k3) ∧ (H134.1 1829 k3) ≤ 2147483647 := hrg135.2 1829 k3 16 .int rfl (by omega)
                have e138 : (H134.1 1829 k3) = (H.1 1829 k3) := congrFun (hx134f.2.1 1829 (by decide) (by decide)) k3
                refine h_run 0 (pc' := 109) (l' := [(0, .inr (.inr 1826)), (1, .inl t), (2, .inl h), (3, .inl (k3 : Int))]) (st' := [.inl (H134.1 1829 k3)]) rfl ?_
                have hct := (pw1 k3 (by omega)).2.1
                refine h_reti (x := (H134.1 1829 k3)) rfl rfl ?_
                have g139 : -2147483648 ≤ (H134.1 1826 30) ∧ (H134.1 1826 30) ≤ 2147483647 := hrg135.1 1826 13 30 _ .int rfl rfl
                have g140 : -2147483648 ≤ (H134.1 1826 35) ∧ (H134.1 1826 35) ≤ 2147483647 := hrg135.1 1826 13 35 _ .int rfl rfl
                have g141 : -2147483648 ≤ (H134.1 1826 32) ∧ (H134.1 1826 32) ≤ 2147483647 := hrg135.1 1826 13 32 _ .int rfl rfl
                have g142 : -2147483648 ≤ (H134.1 1826 29) ∧ (H134.1 1826 29) ≤ 2147483647 := hrg135.1 1826 13 29 _ .int rfl rfl
                have e143 : (H134.1 1826 29) = (H.1 1826 29) := hx134f.2.2 29 (by decide)
                have g144 : -2147483648 ≤ (H134.1 1826 31) ∧ (H134.1 1826 31) ≤ 2147483647 := hrg135.1 1826 13 31 _ .int rfl rfl
                have g145 : -2147483648 ≤ (H134.1 1826 1) ∧ (H134.1 1826 1) ≤ 2147483647 := hrg135.1 1826 13 1 _ .int rfl rfl
                have e146 : (H134.1 1826 1) = (H.1 1826 1) := hx134f.2.2 1 (by decide)
                have g147 : -2147483648 ≤ (H134.1 1826 39) ∧ (H134.1 1826 39) ≤ 2147483647 := hrg135.1 1826 13 39 _ .int rfl rfl
                have e148 : (H134.1 1826 39) = (H.1 1826 39) := hx134f.2.2 39 (by decide)
                have g149 : -2147483648 ≤ (H134.1 1826 44) ∧ (H134.1 1826 44) ≤ 2147483647 := hrg135.1 1826 13 44 _ .int rfl rfl
                have e150 : (H134.1 1826 44) = (H.1 1826 44) := hx134f.2.2 44 (by decide)
                exact ⟨⟨(H134.1 1829 k3), rfl, by omega, by omega⟩, hf136, (by omega : (H.1 1826 30) ≤ (H134.1 1826 30) ∧ (H134.1 1826 30) ≤ (H.1 1826 29)), (by omega : 0 ≤ (H134.1 1826 35) ∧ (H134.1 1826 35) ≤ 5), (by omega : 0 ≤ (H134.1 1826 32) ∧ (H134.1 1826 32) ≤ 1000), (by omega : (H134.1 1826 35) = 0 → (H134.1 1826 31) = 0 ∨ (H.1 1826 30) < (H134.1 1826 30)), (by omega : ((H.1 1826 44) ≠ 2 → (H134.1 1826 39) = (H.1 1826 39)) ∧ (H.1 1826 39) ≤ (H134.1 1826 39)), fun _ => TT_sign (s := (1 + (k3 : Int))) (q := ((H.1 1830) k3).toNat) hP hTT ⟨⟨(hx134f.2.2 1 (by decide)), (hx134f.2.2 3 (by decide)), (hx134f.2.2 8 (by decide)), (hx134f.2.2 44 (by decide))⟩, (hx134f.2.1 1833 (by decide) (by decide)), (hx134f.2.1 1830 (by decide) (by decide))⟩ (Or.inr (Or.inl ⟨by omega, by omega⟩)) (by rw [ma_c (by omega), show ((1 + (k3 : Int)) - 1).toNat = k3 by omega]; have := (pw1 k3 (by omega)).1; omega) (by have := (pw1 k3 (by omega)).1; omega) (by omega) ⟨(hx134f.2.2 40 (by decide)), (hx134f.2.2 43 (by decide)), (hx134f.2.2 41 (by decide))⟩ (hx134f.2.1 1851 (by decide) (by decide)) (Or.inl ⟨(hx134f.2.2 39 (by decide)), (hx134f.2.1 1850 (by decide) (by decide))⟩) (Or.inr ⟨(Or.inl ⟨by omega, by omega⟩), (hx134f.2.2 47 (by decide)), (hx134f.2.1 1852 (by decide) (by decide)), (hx134f.2.1 1853 (by decide) (by decide)), -1, (hx134f.2.1 1854 (by decide) (by decide))⟩)⟩
            · refine h_run 2 (pc' := 70) (l' := [(0, .inr (.inr 1826)), (1, .inl t), (2, .inl h), (3, .inl (k3 : Int))]) (st' := [.inl 4, .inr (.inr 1826)]) rfl ?_
              refine h_cv (i := 278) (j := 159) (b := 1826) (M' := mt_159) (xs := [.inl 4]) (rest := []) rfl rfl rfl rfl rfl rfl (Nat.le_of_ble_eq_true rfl) (Nat.le_of_ble_eq_true rfl) (by omega) (m_bad0 (by omega) (by omega) (by omega : (H.1 1826 35) = 0)) ?_
              rintro _ _ ⟨rfl, rfl⟩
              refine h_run 0 (pc' := 73) (l' := [(0, .inr (.inr 1826)), (1, .inl t), (2, .inl h), (3, .inl (k3 : Int))]) (st' := []) rfl ?_
              refine h_run 1 (pc' := 74) (l' := [(0, .inr (.inr 1826)), (1, .inl t), (2, .inl h), (3, .inl (k3 : Int))]) (st' := [.inr (.inr 1826)]) rfl ?_
              have g151 : -2147483648 ≤ (H.1 1826 40) ∧ (H.1 1826 40) ≤ 2147483647 := hrg0.1 1826 13 40 _ .int rfl rfl
              refine h_cv (i := 344) (j := 168) (b := 1826) (M' := mt_168) (xs := []) (rest := []) rfl rfl rfl rfl rfl rfl (Nat.le_of_ble_eq_true rfl) (Nat.le_of_ble_eq_true rfl) (by omega) (m_countC (by omega) (by omega : (4 : Int) ≠ 0) (by omega : 0 ≤ (H.1 1826 40) ∧ (H.1 1826 40) ≤ 1000)) ?_
              rintro _ _ ⟨rfl, rfl⟩
              refine h_run 0 (pc' := 77) (l' := [(0, .inr (.inr 1826)), (1, .inl t), (2, .inl h), (3, .inl (k3 : Int))]) (st' := []) rfl ?_
              refine h_run 4 (pc' := 81) (l' := [(0, .inr (.inr 1826)), (1, .inl t), (2, .inl h), (3, .inl (k3 : Int))]) (st' := [.inl (1 + (k3 : Int)), .inr (.inr 1826)]) rfl ?_
              refine h_cv (i := 350) (j := 169) (b := 1826) (M' := mt_169) (xs := [.inl (1 + (k3 : Int))]) (rest := []) rfl rfl rfl rfl rfl rfl (Nat.le_of_ble_eq_true rfl) (Nat.le_of_ble_eq_true rfl) (by omega) (m_put0 (by omega) (by omega : (4 : Int) ≠ 0)) ?_
              rintro _ _ ⟨rfl, rfl⟩
              refine h_run 0 (pc' := 84) (l' := [(0, .inr (.inr 1826)), (1, .inl t), (2, .inl h), (3, .inl (k3 : Int))]) (st' := []) rfl ?_
              refine h_run 1 (pc' := 85) (l' := [(0, .inr (.inr 1826)), (1, .inl t), (2, .inl h), (3, .inl (k3 : Int))]) (st' := [.inr (.inr 1826)]) rfl ?_
              refine h_cv (i := 293) (j := 158) (b := 1826) (M' := mt_158) (xs := []) (rest := []) rfl rfl rfl rfl rfl rfl (Nat.le_of_ble_eq_true rfl) (Nat.le_of_ble_eq_true rfl) (by omega) (m_good0 (by omega) (by omega : (4 : Int) ≠ 0)) ?_
              rintro _ _ ⟨rfl, rfl⟩
              refine h_run 0 (pc' := 88) (l' := [(0, .inr (.inr 1826)), (1, .inl t), (2, .inl h), (3, .inl (k3 : Int))]) (st' := [.inl 0]) rfl ?_
              refine h_zeq (off := 15) (t := 103) rfl rfl (by decide) (fun _ => ?_) (fun c => absurd c (by decide))
              refine h_run 3 (pc' := 108) (l' := [(0, .inr (.inr 1826)), (1, .inl t), (2, .inl h), (3, .inl (k3 : Int))]) (st' := [.inl (k3 : Int), .inr (.inr 1829)]) rfl ?_
              refine h_ild (c := 1829) (j := k3) (i := (k3 : Int)) rfl rfl (by decide) rfl (by omega) ?_
              refine h_run 0 (pc' := 109) (l' := [(0, .inr (.inr 1826)), (1, .inl t), (2, .inl h), (3, .inl (k3 : Int))]) (st' := [.inl (H.1 1829 k3)]) rfl ?_
              have hct := (pw1 k3 (by omega)).2.1
              refine h_reti (x := (H.1 1829 k3)) rfl rfl ?_
              have g152 : -2147483648 ≤ (H.1 1826 30) ∧ (H.1 1826 30) ≤ 2147483647 := hrg0.1 1826 13 30 _ .int rfl rfl
              have g153 : -2147483648 ≤ (H.1 1826 32) ∧ (H.1 1826 32) ≤ 2147483647 := hrg0.1 1826 13 32 _ .int rfl rfl
              have g154 : -2147483648 ≤ (H.1 1826 29) ∧ (H.1 1826 29) ≤ 2147483647 := hrg0.1 1826 13 29 _ .int rfl rfl
              have g155 : -2147483648 ≤ (H.1 1826 31) ∧ (H.1 1826 31) ≤ 2147483647 := hrg0.1 1826 13 31 _ .int rfl rfl
              have g156 : -2147483648 ≤ (H.1 1826 1) ∧ (H.1 1826 1) ≤ 2147483647 := hrg0.1 1826 13 1 _ .int rfl rfl
              have g157 : -2147483648 ≤ (H.1 1826 39) ∧ (H.1 1826 39) ≤ 2147483647 := hrg0.1 1826 13 39 _ .int rfl rfl
              have g158 : -2147483648 ≤ (H.1 1826 44) ∧ (H.1 1826 44) ≤ 2147483647 := hrg0.1 1826 13 44 _ .int rfl rfl
              exact ⟨⟨(H.1 1829 k3), rfl, by omega, by omega⟩, (fr_o (fr_o (fr_o (fr_rf _ _ _) (by decide)) (by decide)) (by decide)), (by omega : (H.1 1826 30) ≤ (H.1 1826 30) ∧ (H.1 1826 30) ≤ (H.1 1826 29)), (by omega : 0 ≤ (4 : Int) ∧ (4 : Int) ≤ 5), (by omega : 0 ≤ (H.1 1826 32) ∧ (H.1 1826 32) ≤ 1000), (by omega : (4 : Int) = 0 → (H.1 1826 31) = 0 ∨ (H.1 1826 30) < (H.1 1826 30)), (by omega : ((H.1 1826 44) ≠ 2 → (H.1 1826 39) = (H.1 1826 39)) ∧ (H.1 1826 39) ≤ (H.1 1826 39)), (fun (q : (4 : Int) = 0) => absurd q (by omega))⟩
        · refine h_run 2 (pc' := 43) (l' := [(0, .inr (.inr 1826)), (1, .inl t), (2, .inl h), (3, .inl (k3 : Int))]) (st' := [.inl 2, .inr (.inr 1826)]) rfl ?_
          have g159 : -2147483648 ≤ (H.1 1826 35) ∧ (H.1 1826 35) ≤ 2147483647 := hrg0.1 1826 13 35 _ .int rfl rfl
          refine h_cv (i := 278) (j := 159) (b := 1826) (M' := mt_159) (xs := [.inl 2]) (rest := []) rfl rfl rfl rfl rfl rfl (Nat.le_of_ble_eq_true rfl) (Nat.le_of_ble_eq_true rfl) (by omega) (m_bad0 (by omega) (by omega) (by omega : (H.1 1826 35) = 0)) ?_
          rintro _ _ ⟨rfl, rfl⟩
          refine h_run 0 (pc' := 46) (l' := [(0, .inr (.inr 1826)), (1, .inl t), (2, .inl h), (3, .inl (k3 : Int))]) (st' := []) rfl ?_
          refine h_run 1 (pc' := 47) (l' := [(0, .inr (.inr 1826)), (1, .inl t), (2, .inl h), (3, .inl (k3 : Int))]) (st' := [.inr (.inr 1826)]) rfl ?_
          refine h_cv (i := 293) (j := 158) (b := 1826) (M' := mt_158) (xs := []) (rest := []) rfl rfl rfl rfl rfl rfl (Nat.le_of_ble_eq_true rfl) (Nat.le_of_ble_eq_true rfl) (by omega) (m_good0 (by omega) (by omega : (2 : Int) ≠ 0)) ?_
          rintro _ _ ⟨rfl, rfl⟩
          refine h_run 0 (pc' := 50) (l' := [(0, .inr (.inr 1826)), (1, .inl t), (2, .inl h), (3, .inl (k3 : Int))]) (st' := [.inl 0]) rfl ?_
          refine h_zeq (off := 23) (t := 73) rfl rfl (by decide) (fun _ => ?_) (fun c => absurd c (by decide))
          refine h_run 1 (pc' := 74) (l' := [(0, .inr (.inr 1826)), (1, .inl t), (2, .inl h), (3, .inl (k3 : Int))]) (st' := [.inr (.inr 1826)]) rfl ?_
          have g160 : -2147483648 ≤ (H.1 1826 40) ∧ (H.1 1826 40) ≤ 2147483647 := hrg0.1 1826 13 40 _ .int rfl rfl
          refine h_cv (i := 344) (j := 168) (b := 1826) (M' := mt_168) (xs := []) (rest := []) rfl rfl rfl rfl rfl rfl (Nat.le_of_ble_eq_true rfl) (Nat.le_of_ble_eq_true rfl) (by omega) (m_countC (by omega) (by omega : (2 : Int) ≠ 0) (by omega : 0 ≤ (H.1 1826 40) ∧ (H.1 1826 40) ≤ 1000)) ?_
          rintro _ _ ⟨rfl, rfl⟩
          refine h_run 0 (pc' := 77) (l' := [(0, .inr (.inr 1826)), (1, .inl t), (2, .inl h), (3, .inl (k3 : Int))]) (st' := []) rfl ?_
          refine h_run 4 (pc' := 81) (l' := [(0, .inr (.inr 1826)), (1, .inl t), (2, .inl h), (3, .inl (k3 : Int))]) (st' := [.inl (1 + (k3 : Int)), .inr (.inr 1826)]) rfl ?_
          refine h_cv (i := 350) (j := 169) (b := 1826) (M' := mt_169) (xs := [.inl (1 + (k3 : Int))]) (rest := []) rfl rfl rfl rfl rfl rfl (Nat.le_of_ble_eq_true rfl) (Nat.le_of_ble_eq_true rfl) (by omega) (m_put0 (by omega) (by omega : (2 : Int) ≠ 0)) ?_
          rintro _ _ ⟨rfl, rfl⟩
          refine h_run 0 (pc' := 84) (l' := [(0, .inr (.inr 1826)), (1, .inl t), (2, .inl h), (3, .inl (k3 : Int))]) (st' := []) rfl ?_
          refine h_run 1 (pc' := 85) (l' := [(0, .inr (.inr 1826)), (1, .inl t), (2, .inl h), (3, .inl (k3 : Int))]) (st' := [.inr (.inr 1826)]) rfl ?_
          refine h_cv (i := 293) (j := 158) (b := 1826) (M' := mt_158) (xs := []) (rest := []) rfl rfl rfl rfl rfl rfl (Nat.le_of_ble_eq_true rfl) (Nat.le_of_ble_eq_true rfl) (by omega) (m_good0 (by omega) (by omega : (2 : Int) ≠ 0)) ?_
          rintro _ _ ⟨rfl, rfl⟩
          refine h_run 0 (pc' := 88) (l' := [(0, .inr (.inr 1826)), (1, .inl t), (2, .inl h), (3, .inl (k3 : Int))]) (st' := [.inl 0]) rfl ?_
          refine h_zeq (off := 15) (t := 103) rfl rfl (by decide) (fun _ => ?_) (fun c => absurd c (by decide))
          refine h_run 3 (pc' := 108) (l' := [(0, .inr (.inr 1826)), (1, .inl t), (2, .inl h), (3, .inl (k3 : Int))]) (st' := [.inl (k3 : Int), .inr (.inr 1829)]) rfl ?_
          refine h_ild (c := 1829) (j := k3) (i := (k3 : Int)) rfl rfl (by decide) rfl (by omega) ?_
          have g161 : -2147483648 ≤ (H.1 1829 k3) ∧ (H.1 1829 k3) ≤ 2147483647 := hrg0.2 1829 k3 16 .int rfl (by omega)
          refine h_run 0 (pc' := 109) (l' := [(0, .inr (.inr 1826)), (1, .inl t), (2, .inl h), (3, .inl (k3 : Int))]) (st' := [.inl (H.1 1829 k3)]) rfl ?_
          have hct := (pw1 k3 (by omega)).2.1
          refine h_reti (x := (H.1 1829 k3)) rfl rfl ?_
          have g162 : -2147483648 ≤ (H.1 1826 30) ∧ (H.1 1826 30) ≤ 2147483647 := hrg0.1 1826 13 30 _ .int rfl rfl
          have g163 : -2147483648 ≤ (H.1 1826 32) ∧ (H.1 1826 32) ≤ 2147483647 := hrg0.1 1826 13 32 _ .int rfl rfl
          have g164 : -2147483648 ≤ (H.1 1826 29) ∧ (H.1 1826 29) ≤ 2147483647 := hrg0.1 1826 13 29 _ .int rfl rfl
          have g165 : -2147483648 ≤ (H.1 1826 31) ∧ (H.1 1826 31) ≤ 2147483647 := hrg0.1 1826 13 31 _ .int rfl rfl
          have g166 : -2147483648 ≤ (H.1 1826 1) ∧ (H.1 1826 1) ≤ 2147483647 := hrg0.1 1826 13 1 _ .int rfl rfl
          have g167 : -2147483648 ≤ (H.1 1826 39) ∧ (H.1 1826 39) ≤ 2147483647 := hrg0.1 1826 13 39 _ .int rfl rfl
          have g168 : -2147483648 ≤ (H.1 1826 44) ∧ (H.1 1826 44) ≤ 2147483647 := hrg0.1 1826 13 44 _ .int rfl rfl
          exact ⟨⟨(H.1 1829 k3), rfl, by omega, by omega⟩, (fr_o (fr_o (fr_o (fr_rf _ _ _) (by decide)) (by decide)) (by decide)), (by omega : (H.1 1826 30) ≤ (H.1 1826 30) ∧ (H.1 1826 30) ≤ (H.1 1826 29)), (by omega : 0 ≤ (2 : Int) ∧ (2 : Int) ≤ 5), (by omega : 0 ≤ (H.1 1826 32) ∧ (H.1 1826 32) ≤ 1000), (by omega : (2 : Int) = 0 → (H.1 1826 31) = 0 ∨ (H.1 1826 30) < (H.1 1826 30)), (by omega : ((H.1 1826 44) ≠ 2 → (H.1 1826 39) = (H.1 1826 39)) ∧ (H.1 1826 39) ≤ (H.1 1826 39)), (fun (q : (2 : Int) = 0) => absurd q (by omega))⟩
    · refine h_run 2 (pc' := 23) (l' := [(0, .inr (.inr 1826)), (1, .inl t), (2, .inl h), (3, .inl (k3 : Int))]) (st' := [.inl 3, .inr (.inr 1826)]) rfl ?_
      have g169 : -2147483648 ≤ (H.1 1826 35) ∧ (H.1 1826 35) ≤ 2147483647 := hrg0.1 1826 13 35 _ .int rfl rfl
      refine h_cv (i := 278) (j := 159) (b := 1826) (M' := mt_159) (xs := [.inl 3]) (rest := []) rfl rfl rfl rfl rfl rfl (Nat.le_of_ble_eq_true rfl) (Nat.le_of_ble_eq_true rfl) (by omega) (m_bad0 (by omega) (by omega) (by omega : (H.1 1826 35) = 0)) ?_
      rintro _ _ ⟨rfl, rfl⟩
      refine h_run 0 (pc' := 26) (l' := [(0, .inr (.inr 1826)), (1, .inl t), (2, .inl h), (3, .inl (k3 : Int))]) (st' := []) rfl ?_
      refine h_run 1 (pc' := 27) (l' := [(0, .inr (.inr 1826)), (1, .inl t), (2, .inl h), (3, .inl (k3 : Int))]) (st' := [.inl (-1)]) rfl ?_
      refine h_reti (x := (-1)) rfl rfl ?_
      have g170 : -2147483648 ≤ (H.1 1826 30) ∧ (H.1 1826 30) ≤ 2147483647 := hrg0.1 1826 13 30 _ .int rfl rfl
      have g171 : -2147483648 ≤ (H.1 1826 32) ∧ (H.1 1826 32) ≤ 2147483647 := hrg0.1 1826 13 32 _ .int rfl rfl
      have g172 : -2147483648 ≤ (H.1 1826 29) ∧ (H.1 1826 29) ≤ 2147483647 := hrg0.1 1826 13 29 _ .int rfl rfl
      have g173 : -2147483648 ≤ (H.1 1826 31) ∧ (H.1 1826 31) ≤ 2147483647 := hrg0.1 1826 13 31 _ .int rfl rfl
      have g174 : -2147483648 ≤ (H.1 1826 1) ∧ (H.1 1826 1) ≤ 2147483647 := hrg0.1 1826 13 1 _ .int rfl rfl
      have g175 : -2147483648 ≤ (H.1 1826 39) ∧ (H.1 1826 39) ≤ 2147483647 := hrg0.1 1826 13 39 _ .int rfl rfl
      have g176 : -2147483648 ≤ (H.1 1826 44) ∧ (H.1 1826 44) ≤ 2147483647 := hrg0.1 1826 13 44 _ .int rfl rfl
      exact ⟨⟨(-1), rfl, by omega, by omega⟩, (fr_o (fr_o (fr_rf _ _ _) (by decide)) (by decide)), (by omega : (H.1 1826 30) ≤ (H.1 1826 30) ∧ (H.1 1826 30) ≤ (H.1 1826 29)), (by omega : 0 ≤ (3 : Int) ∧ (3 : Int) ≤ 5), (by omega : 0 ≤ (H.1 1826 32) ∧ (H.1 1826 32) ≤ 1000), (by omega : (3 : Int) = 0 → (H.1 1826 31) = 0 ∨ (H.1 1826 30) < (H.1 1826 30)), (by omega : ((H.1 1826 44) ≠ 2 → (H.1 1826 39) = (H.1 1826 39)) ∧ (H.1 1826 39) ≤ (H.1 1826 39)), (fun (q : (3 : Int) = 0) => absurd q (by omega))⟩
  · refine h_run 0 (pc' := 15) (l' := [(0, .inr (.inr 1826)), (1, .inl t), (2, .inl h)]) (st' := [.inl (-1)]) rfl ?_
    refine h_run 3 (pc' := 18) (l' := [(0, .inr (.inr 1826)), (1, .inl t), (2, .inl h), (3, .inl (-1))]) (st' := [.inl (-1), .inl (-1)]) rfl ?_
    refine h_ine (off := 10) (t := 28) rfl rfl (by decide) (by decide) (fun c => absurd c (by decide)) (fun _ => ?_)
    refine h_run 2 (pc' := 23) (l' := [(0, .inr (.inr 1826)), (1, .inl t), (2, .inl h), (3, .inl (-1))]) (st' := [.inl 3, .inr (.inr 1826)]) rfl ?_
    have g177 : -2147483648 ≤ (H.1 1826 35) ∧ (H.1 1826 35) ≤ 2147483647 := hrg0.1 1826 13 35 _ .int rfl rfl
    refine h_cv (i := 278) (j := 159) (b := 1826) (M' := mt_159) (xs := [.inl 3]) (rest := []) rfl rfl rfl rfl rfl rfl (Nat.le_of_ble_eq_true rfl) (Nat.le_of_ble_eq_true rfl) (by omega) (m_bad0 (by omega) (by omega) (by omega : (H.1 1826 35) = 0)) ?_
    rintro _ _ ⟨rfl, rfl⟩
    refine h_run 0 (pc' := 26) (l' := [(0, .inr (.inr 1826)), (1, .inl t), (2, .inl h), (3, .inl (-1))]) (st' := []) rfl ?_
    refine h_run 1 (pc' := 27) (l' := [(0, .inr (.inr 1826)), (1, .inl t), (2, .inl h), (3, .inl (-1))]) (st' := [.inl (-1)]) rfl ?_
    refine h_reti (x := (-1)) rfl rfl ?_
    have g178 : -2147483648 ≤ (H.1 1826 30) ∧ (H.1 1826 30) ≤ 2147483647 := hrg0.1 1826 13 30 _ .int rfl rfl
    have g179 : -2147483648 ≤ (H.1 1826 32) ∧ (H.1 1826 32) ≤ 2147483647 := hrg0.1 1826 13 32 _ .int rfl rfl
    have g180 : -2147483648 ≤ (H.1 1826 29) ∧ (H.1 1826 29) ≤ 2147483647 := hrg0.1 1826 13 29 _ .int rfl rfl
    have g181 : -2147483648 ≤ (H.1 1826 31) ∧ (H.1 1826 31) ≤ 2147483647 := hrg0.1 1826 13 31 _ .int rfl rfl
    have g182 : -2147483648 ≤ (H.1 1826 1) ∧ (H.1 1826 1) ≤ 2147483647 := hrg0.1 1826 13 1 _ .int rfl rfl
    have g183 : -2147483648 ≤ (H.1 1826 39) ∧ (H.1 1826 39) ≤ 2147483647 := hrg0.1 1826 13 39 _ .int rfl rfl
    have g184 : -2147483648 ≤ (H.1 1826 44) ∧ (H.1 1826 44) ≤ 2147483647 := hrg0.1 1826 13 44 _ .int rfl rfl
    exact ⟨⟨(-1), rfl, by omega, by omega⟩, (fr_o (fr_o (fr_rf _ _ _) (by decide)) (by decide)), (by omega : (H.1 1826 30) ≤ (H.1 1826 30) ∧ (H.1 1826 30) ≤ (H.1 1826 29)), (by omega : 0 ≤ (3 : Int) ∧ (3 : Int) ≤ 5), (by omega : 0 ≤ (H.1 1826 32) ∧ (H.1 1826 32) ≤ 1000), (by omega : (3 : Int) = 0 → (H.1 1826 31) = 0 ∨ (H.1 1826 30) < (H.1 1826 30)), (by omega : ((H.1 1826 44) ≠ 2 → (H.1 1826 39) = (H.1 1826 39)) ∧ (H.1 1826 39) ≤ (H.1 1826 39)), (fun (q : (3 : Int) = 0) => absurd q (by omega))⟩

/-! small -/
set_option maxRecDepth 100000 in
theorem m_small {zC : Nat → Option zsh} {d : Nat} (hd : 5 ≤ d) {H : hp} {t h : Int} (h0 : 0 ≤ (H.1 1826 30) ∧ (H.1 1826 30) ≤ (H.1 1826 29) ∧ (H.1 1826 29) ≤ 1000) (hw : 0 ≤ (H.1 1826 35) ∧ (H.1 1826 35) ≤ 5) (hst : 0 ≤ (H.1 1826 32) ∧ (H.1 1826 32) ≤ 1000) (hw0 : (H.1 1826 35) = 0) (hP : PWc H) (hTT : TT H 1) (hso : 1 ≤ (H.1 1826 44) ∧ (H.1 1826 44) ≤ 3) (ht : -1 ≤ t ∧ t < (H.1 1826 1)) (hh : 0 ≤ h ∧ h ≤ 1) : hG (zs zC) d mt_184 0 (zargs 0 [.inr (.inr 1826), .inl t, .inl h]) [] H (fun r H2 => (∃ r0 : Int, r = some (.inl r0) ∧ -1 ≤ r0 ∧ r0 < (H.1 1826 1)) ∧ fr [30, 31, 32, 33, 35, 36, 39, 40, 41, 43, 47] [1849, 1850, 1851, 1852, 1853, 1854] H H2 ∧ ((H.1 1826 30) ≤ (H2.1 1826 30) ∧ (H2.1 1826 30) ≤ (H.1 1826 29)) ∧ (0 ≤ (H2.1 1826 35) ∧ (H2.1 1826 35) ≤ 5) ∧ (0 ≤ (H2.1 1826 32) ∧ (H2.1 1826 32) ≤ 1000) ∧ ((H2.1 1826 35) = 0 → (H2.1 1826 31) = 0 ∨ (H.1 1826 30) < (H2.1 1826 30)) ∧ (((H.1 1826 44) ≠ 2 → (H2.1 1826 39) = (H.1 1826 39)) ∧ (H.1 1826 39) ≤ (H2.1 1826 39)) ∧ hid ((H2.1 1826 35) = 0 → TT H2 0)) := by
  refine h_rng (fun hrg0 => ?_)
  refine h_run 0 (pc' := 0) (l' := [(0, .inr (.inr 1826)), (1, .inl t), (2, .inl h)]) (st' := []) rfl ?_
  obtain ⟨⟨pb1, pb2, pb3, pb4, pb5⟩, pw1, pw2, pw3, pw4⟩ := (id hP : PW H (H.1 1826 1) (H.1 1826 3) (H.1 1826 8) (H.1 1826 13) (H.1 1826 19))
  obtain ⟨n, m, k, ⟨ta1, ta2, ta3, ta4⟩, ⟨tb1, tb2, tb3⟩, ⟨tc1, tc2, tc3⟩, -, -, -⟩ := id hTT
  have tcb := cb_nn (ou := (H.1 1852)) (n := n)
  refine h_run 4 (pc' := 8) (l' := [(0, .inr (.inr 1826)), (1, .inl t), (2, .inl h)]) (st' := [.inl (H.1 1826 8), .inr (.inr 1832)]) rfl ?_
  have g1 : -2147483648 ≤ (H.1 1826 8) ∧ (H.1 1826 8) ≤ 2147483647 := hrg0.1 1826 13 8 _ .int rfl rfl
  refine h_run 2 (pc' := 12) (l' := [(0, .inr (.inr 1826)), (1, .inl t), (2, .inl h)]) (st' := [.inr (.inl (H.1 1826 33)), .inl (H.1 1826 8), .inr (.inr 1832)]) rfl ?_
  have g2 : -9223372036854775808 ≤ (H.1 1826 33) ∧ (H.1 1826 33) ≤ 9223372036854775807 := hrg0.1 1826 13 33 _ .long rfl rfl
  refine h_cs (i := 309) (j := 167) (M' := mt_167) (xs := [.inr (.inl (H.1 1826 33)), .inl (H.1 1826 8), .inr (.inr 1832)]) (rest := []) rfl rfl rfl rfl rfl (Nat.le_of_ble_eq_true rfl) (Nat.le_of_ble_eq_true rfl) (by omega) (m_find (by omega) (m := 16) rfl (by omega : 0 ≤ (H.1 1826 8) ∧ (H.1 1826 8) ≤ ((16 : Nat) : Int) ∧ 16 ≤ 100) (by omega)) ?_
  rintro _ _ ⟨⟨k3, rfl, f4, f4x⟩ | ⟨rfl, f4⟩, rfl⟩
  · refine h_run 0 (pc' := 15) (l' := [(0, .inr (.inr 1826)), (1, .inl t), (2, .inl h)]) (st' := [.inl (k3 : Int)]) rfl ?_
    refine h_run 3 (pc' := 18) (l' := [(0, .inr (.inr 1826)), (1, .inl t), (2, .inl h), (3, .inl (k3 : Int))]) (st' := [.inl (-1), .inl (k3 : Int)]) rfl ?_
    refine h_ieq (off := 87) (t := 105) rfl rfl (by omega) (by decide) (fun c5 => ?_) (fun c5 => ?_)
    · refine h_run 4 (pc' := 113) (l' := [(0, .inr (.inr 1826)), (1, .inl t), (2, .inl h), (3, .inl (k3 : Int))]) (st' := [.inl (H.1 1826 39), .inr (.inr 1849)]) rfl ?_
      have g6 : -2147483648 ≤ (H.1 1826 39) ∧ (H.1 1826 39) ≤ 2147483647 := hrg0.1 1826 13 39 _ .int rfl rfl
      refine h_run 2 (pc' := 117) (l' := [(0, .inr (.inr 1826)), (1, .inl t), (2, .inl h), (3, .inl (k3 : Int))]) (st' := [.inr (.inl (H.1 1826 33)), .inl (H.1 1826 39), .inr (.inr 1849)]) rfl ?_
      refine h_cs (i := 309) (j := 167) (M' := mt_167) (xs := [.inr (.inl (H.1 1826 33)), .inl (H.1 1826 39), .inr (.inr 1849)]) (rest := []) rfl rfl rfl rfl rfl (Nat.le_of_ble_eq_true rfl) (Nat.le_of_ble_eq_true rfl) (by omega) (m_find (by omega) (m := 48) rfl (by omega : 0 ≤ (H.1 1826 39) ∧ (H.1 1826 39) ≤ ((48 : Nat) : Int) ∧ 48 ≤ 100) (by omega)) ?_
      rintro _ _ ⟨⟨k7, rfl, f8, f8x⟩ | ⟨rfl, f8⟩, rfl⟩
      · refine h_run 0 (pc' := 120) (l' := [(0, .inr (.inr 1826)), (1, .inl t), (2, .inl h), (3, .inl (k3 : Int))]) (st' := [.inl (k7 : Int)]) rfl ?_
        refine h_run 3 (pc' := 126) (l' := [(0, .inr (.inr 1826)), (1, .inl t), (2, .inl h), (3, .inl (k3 : Int)), (4, .inl (k7 : Int))]) (st' := [.inl (H.1 1826 44)]) rfl ?_
        have g9 : -2147483648 ≤ (H.1 1826 44) ∧ (H.1 1826 44) ≤ 2147483647 := hrg0.1 1826 13 44 _ .int rfl rfl
        refine h_run 1 (pc' := 127) (l' := [(0, .inr (.inr 1826)), (1, .inl t), (2, .inl h), (3, .inl (k3 : Int)), (4, .inl (k7 : Int))]) (st' := [.inl 3, .inl (H.1 1826 44)]) rfl ?_
        refine h_ieq (off := 17) (t := 144) rfl rfl (by omega) (by decide) (fun c10 => ?_) (fun c10 => ?_)
        · refine h_run 2 (pc' := 146) (l' := [(0, .inr (.inr 1826)), (1, .inl t), (2, .inl h), (3, .inl (k3 : Int)), (4, .inl (k7 : Int))]) (st' := [.inl 3, .inr (.inr 1826)]) rfl ?_
          have g11 : -2147483648 ≤ (H.1 1826 35) ∧ (H.1 1826 35) ≤ 2147483647 := hrg0.1 1826 13 35 _ .int rfl rfl
          refine h_cv (i := 278) (j := 159) (b := 1826) (M' := mt_159) (xs := [.inl 3]) (rest := []) rfl rfl rfl rfl rfl rfl (Nat.le_of_ble_eq_true rfl) (Nat.le_of_ble_eq_true rfl) (by omega) (m_bad0 (by omega) (by omega) (by omega : (H.1 1826 35) = 0)) ?_
          rintro _ _ ⟨rfl, rfl⟩
          refine h_run 0 (pc' := 149) (l' := [(0, .inr (.inr 1826)), (1, .inl t), (2, .inl h), (3, .inl (k3 : Int)), (4, .inl (k7 : Int))]) (st' := []) rfl ?_
          refine h_run 1 (pc' := 150) (l' := [(0, .inr (.inr 1826)), (1, .inl t), (2, .inl h), (3, .inl (k3 : Int)), (4, .inl (k7 : Int))]) (st' := [.inl (-1)]) rfl ?_
          refine h_reti (x := (-1)) rfl rfl ?_
          have g12 : -2147483648 ≤ (H.1 1826 30) ∧ (H.1 1826 30) ≤ 2147483647 := hrg0.1 1826 13 30 _ .int rfl rfl
          have g13 : -2147483648 ≤ (H.1 1826 32) ∧ (H.1 1826 32) ≤ 2147483647 := hrg0.1 1826 13 32 _ .int rfl rfl
          have g14 : -2147483648 ≤ (H.1 1826 29) ∧ (H.1 1826 29) ≤ 2147483647 := hrg0.1 1826 13 29 _ .int rfl rfl
          have g15 : -2147483648 ≤ (H.1 1826 31) ∧ (H.1 1826 31) ≤ 2147483647 := hrg0.1 1826 13 31 _ .int rfl rfl
          have g16 : -2147483648 ≤ (H.1 1826 1) ∧ (H.1 1826 1) ≤ 2147483647 := hrg0.1 1826 13 1 _ .int rfl rfl
          exact ⟨⟨(-1), rfl, by omega, by omega⟩, (fr_o (fr_o (fr_rf _ _ _) (by decide)) (by decide)), (by omega : (H.1 1826 30) ≤ (H.1 1826 30) ∧ (H.1 1826 30) ≤ (H.1 1826 29)), (by omega : 0 ≤ (3 : Int) ∧ (3 : Int) ≤ 5), (by omega : 0 ≤ (H.1 1826 32) ∧ (H.1 1826 32) ≤ 1000), (by omega : (3 : Int) = 0 → (H.1 1826 31) = 0 ∨ (H.1 1826 30) < (H.1 1826 30)), (by omega : ((H.1 1826 44) ≠ 2 → (H.1 1826 39) = (H.1 1826 39)) ∧ (H.1 1826 39) ≤ (H.1 1826 39)), (fun (q : (3 : Int) = 0) => absurd q (by omega))⟩
        · refine h_run 2 (pc' := 134) (l' := [(0, .inr (.inr 1826)), (1, .inl t), (2, .inl h), (3, .inl (k3 : Int)), (4, .inl (k7 : Int))]) (st' := [.inl (H.1 1826 44)]) rfl ?_
          refine h_run 1 (pc' := 135) (l' := [(0, .inr (.inr 1826)), (1, .inl t), (2, .inl h), (3, .inl (k3 : Int)), (4, .inl (k7 : Int))]) (st' := [.inl 1, .inl (H.1 1826 44)]) rfl ?_
          refine h_ine (off := 16) (t := 151) rfl rfl (by omega) (by decide) (fun c17 => ?_) (fun c17 => ?_)
          · refine h_run 1 (pc' := 152) (l' := [(0, .inr (.inr 1826)), (1, .inl t), (2, .inl h), (3, .inl (k3 : Int)), (4, .inl (k7 : Int))]) (st' := [.inr (.inr 1826)]) rfl ?_
            have g18 : -2147483648 ≤ (H.1 1826 35) ∧ (H.1 1826 35) ≤ 2147483647 := hrg0.1 1826 13 35 _ .int rfl rfl
            refine h_cv (i := 293) (j := 158) (b := 1826) (M' := mt_158) (xs := []) (rest := []) rfl rfl rfl rfl rfl rfl (Nat.le_of_ble_eq_true rfl) (Nat.le_of_ble_eq_true rfl) (by omega) (m_good1 (by omega) (by omega : (H.1 1826 35) = 0)) ?_
            rintro _ _ ⟨rfl, rfl⟩
            refine h_run 0 (pc' := 155) (l' := [(0, .inr (.inr 1826)), (1, .inl t), (2, .inl h), (3, .inl (k3 : Int)), (4, .inl (k7 : Int))]) (st' := [.inl 1]) rfl ?_
            refine h_zeq (off := 13) (t := 168) rfl rfl (by decide) (fun c => absurd c (by decide)) (fun _ => ?_)
            refine h_run 2 (pc' := 160) (l' := [(0, .inr (.inr 1826)), (1, .inl t), (2, .inl h), (3, .inl (k3 : Int)), (4, .inl (k7 : Int))]) (st' := [.inl (-1), .inl t]) rfl ?_
            refine h_ine (off := 8) (t := 168) rfl rfl (by omega) (by decide) (fun c19 => ?_) (fun c19 => ?_)
            · refine h_run 1 (pc' := 169) (l' := [(0, .inr (.inr 1826)), (1, .inl t), (2, .inl h), (3, .inl (k3 : Int)), (4, .inl (k7 : Int))]) (st' := [.inr (.inr 1826)]) rfl ?_
              refine h_cv (i := 293) (j := 158) (b := 1826) (M' := mt_158) (xs := []) (rest := []) rfl rfl rfl rfl rfl rfl (Nat.le_of_ble_eq_true rfl) (Nat.le_of_ble_eq_true rfl) (by omega) (m_good1 (by omega) (by omega : (H.1 1826 35) = 0)) ?_
              rintro _ _ ⟨rfl, rfl⟩
              refine h_run 0 (pc' := 172) (l' := [(0, .inr (.inr 1826)), (1, .inl t), (2, .inl h), (3, .inl (k3 : Int)), (4, .inl (k7 : Int))]) (st' := [.inl 1]) rfl ?_
              refine h_zeq (off := 25) (t := 197) rfl rfl (by decide) (fun c => absurd c (by decide)) (fun _ => ?_)
              refine h_run 2 (pc' := 178) (l' := [(0, .inr (.inr 1826)), (1, .inl t), (2, .inl h), (3, .inl (k3 : Int)), (4, .inl (k7 : Int))]) (st' := [.inl (-1), .inl (k7 : Int)]) rfl ?_
              refine h_ieq (off := 19) (t := 197) rfl rfl (by omega) (by decide) (fun c20 => ?_) (fun c20 => ?_)
              · refine h_run 1 (pc' := 198) (l' := [(0, .inr (.inr 1826)), (1, .inl t), (2, .inl h), (3, .inl (k3 : Int)), (4, .inl (k7 : Int))]) (st' := [.inr (.inr 1826)]) rfl ?_
                refine h_cv (i := 293) (j := 158) (b := 1826) (M' := mt_158) (xs := []) (rest := []) rfl rfl rfl rfl rfl rfl (Nat.le_of_ble_eq_true rfl) (Nat.le_of_ble_eq_true rfl) (by omega) (m_good1 (by omega) (by omega : (H.1 1826 35) = 0)) ?_
                rintro _ _ ⟨rfl, rfl⟩
                refine h_run 0 (pc' := 201) (l' := [(0, .inr (.inr 1826)), (1, .inl t), (2, .inl h), (3, .inl (k3 : Int)), (4, .inl (k7 : Int))]) (st' := [.inl 1]) rfl ?_
                refine h_zeq (off := 23) (t := 224) rfl rfl (by decide) (fun c => absurd c (by decide)) (fun _ => ?_)
                refine h_run 2 (pc' := 207) (l' := [(0, .inr (.inr 1826)), (1, .inl t), (2, .inl h), (3, .inl (k3 : Int)), (4, .inl (k7 : Int))]) (st' := [.inl (-1), .inl (k7 : Int)]) rfl ?_
                refine h_ine (off := 17) (t := 224) rfl rfl (by omega) (by decide) (fun c21 => ?_) (fun c21 => ?_)
                · exfalso
                  omega
                · refine h_run 2 (pc' := 214) (l' := [(0, .inr (.inr 1826)), (1, .inl t), (2, .inl h), (3, .inl (k3 : Int)), (4, .inl (k7 : Int))]) (st' := [.inl (H.1 1826 39)]) rfl ?_
                  refine h_run 1 (pc' := 216) (l' := [(0, .inr (.inr 1826)), (1, .inl t), (2, .inl h), (3, .inl (k3 : Int)), (4, .inl (k7 : Int))]) (st' := [.inl 6, .inl (H.1 1826 39)]) rfl ?_
                  refine h_ine (off := 8) (t := 224) rfl rfl (by omega) (by decide) (fun c22 => ?_) (fun c22 => ?_)
                  · refine h_run 1 (pc' := 225) (l' := [(0, .inr (.inr 1826)), (1, .inl t), (2, .inl h), (3, .inl (k3 : Int)), (4, .inl (k7 : Int))]) (st' := [.inr (.inr 1826)]) rfl ?_
                    have g23 : -2147483648 ≤ (H.1 1826 40) ∧ (H.1 1826 40) ≤ 2147483647 := hrg0.1 1826 13 40 _ .int rfl rfl
                    by_cases b24 : (H.1 1826 40) = 40
                    · refine h_cv (i := 344) (j := 168) (b := 1826) (M' := mt_168) (xs := []) (rest := []) rfl rfl rfl rfl rfl rfl (Nat.le_of_ble_eq_true rfl) (Nat.le_of_ble_eq_true rfl) (by omega) (m_countB (by omega) (by omega : (H.1 1826 35) = 0) (by omega : (H.1 1826 40) = 40)) ?_
                      rintro _ _ ⟨rfl, rfl⟩
                      refine h_run 0 (pc' := 228) (l' := [(0, .inr (.inr 1826)), (1, .inl t), (2, .inl h), (3, .inl (k3 : Int)), (4, .inl (k7 : Int))]) (st' := []) rfl ?_
                      refine h_run 1 (pc' := 229) (l' := [(0, .inr (.inr 1826)), (1, .inl t), (2, .inl h), (3, .inl (k3 : Int)), (4, .inl (k7 : Int))]) (st' := [.inr (.inr 1826)]) rfl ?_
                      refine h_cv (i := 293) (j := 158) (b := 1826) (M' := mt_158) (xs := []) (rest := []) rfl rfl rfl rfl rfl rfl (Nat.le_of_ble_eq_true rfl) (Nat.le_of_ble_eq_true rfl) (by omega) (m_good0 (by omega) (by omega : (5 : Int) ≠ 0)) ?_
                      rintro _ _ ⟨rfl, rfl⟩
                      refine h_run 0 (pc' := 232) (l' := [(0, .inr (.inr 1826)), (1, .inl t), (2, .inl h), (3, .inl (k3 : Int)), (4, .inl (k7 : Int))]) (st' := [.inl 0]) rfl ?_
                      refine h_zne (off := 5) (t := 237) rfl rfl (by decide) (fun c => absurd c (by decide)) (fun _ => ?_)
                      refine h_run 1 (pc' := 236) (l' := [(0, .inr (.inr 1826)), (1, .inl t), (2, .inl h), (3, .inl (k3 : Int)), (4, .inl (k7 : Int))]) (st' := [.inl (-1)]) rfl ?_
                      refine h_reti (x := (-1)) rfl rfl ?_
                      have g25 : -2147483648 ≤ (H.1 1826 30) ∧ (H.1 1826 30) ≤ 2147483647 := hrg0.1 1826 13 30 _ .int rfl rfl
                      have g26 : -2147483648 ≤ (H.1 1826 32) ∧ (H.1 1826 32) ≤ 2147483647 := hrg0.1 1826 13 32 _ .int rfl rfl
                      have g27 : -2147483648 ≤ (H.1 1826 29) ∧ (H.1 1826 29) ≤ 2147483647 := hrg0.1 1826 13 29 _ .int rfl rfl
                      have g28 : -2147483648 ≤ (H.1 1826 31) ∧ (H.1 1826 31) ≤ 2147483647 := hrg0.1 1826 13 31 _ .int rfl rfl
                      have g29 : -2147483648 ≤ (H.1 1826 1) ∧ (H.1 1826 1) ≤ 2147483647 := hrg0.1 1826 13 1 _ .int rfl rfl
                      exact ⟨⟨(-1), rfl, by omega, by omega⟩, (fr_o (fr_o (fr_o (fr_rf _ _ _) (by decide)) (by decide)) (by decide)), (by omega : (H.1 1826 30) ≤ (H.1 1826 30) ∧ (H.1 1826 30) ≤ (H.1 1826 29)), (by omega : 0 ≤ (5 : Int) ∧ (5 : Int) ≤ 5), (by omega : 0 ≤ (H.1 1826 32) ∧ (H.1 1826 32) ≤ 1000), (by omega : (5 : Int) = 0 → (H.1 1826 31) = 0 ∨ (H.1 1826 30) < (H.1 1826 30)), (by omega : ((H.1 1826 44) ≠ 2 → (H.1 1826 39) = (H.1 1826 39)) ∧ (H.1 1826 39) ≤ (H.1 1826 39)), (fun (q : (5 : Int) = 0) => absurd q (by omega))⟩
                    · refine h_cv (i := 344) (j := 168) (b := 1826) (M' := mt_168) (xs := []) (rest := []) rfl rfl rfl rfl rfl rfl (Nat.le_of_ble_eq_true rfl) (Nat.le_of_ble_eq_true rfl) (by omega) (m_countA (by omega) (by omega : (H.1 1826 35) = 0) (by omega : 0 ≤ (H.1 1826 40) ∧ (H.1 1826 40) ≤ 1000) (by omega : (H.1 1826 40) ≠ 40)) ?_
                      rintro _ _ ⟨rfl, rfl⟩
                      refine h_run 0 (pc' := 228) (l' := [(0, .inr (.inr 1826)), (1, .inl t), (2, .inl h), (3, .inl (k3 : Int)), (4, .inl (k7 : Int))]) (st' := []) rfl ?_
                      refine h_run 1 (pc' := 229) (l' := [(0, .inr (.inr 1826)), (1, .inl t), (2, .inl h), (3, .inl (k3 : Int)), (4, .inl (k7 : Int))]) (st' := [.inr (.inr 1826)]) rfl ?_
                      refine h_cv (i := 293) (j := 158) (b := 1826) (M' := mt_158) (xs := []) (rest := []) rfl rfl rfl rfl rfl rfl (Nat.le_of_ble_eq_true rfl) (Nat.le_of_ble_eq_true rfl) (by omega) (m_good1 (by omega) (by omega : (H.1 1826 35) = 0)) ?_
                      rintro _ _ ⟨rfl, rfl⟩
                      refine h_run 0 (pc' := 232) (l' := [(0, .inr (.inr 1826)), (1, .inl t), (2, .inl h), (3, .inl (k3 : Int)), (4, .inl (k7 : Int))]) (st' := [.inl 1]) rfl ?_
                      refine h_zne (off := 5) (t := 237) rfl rfl (by decide) (fun _ => ?_) (fun c => absurd c (by decide))
                      refine h_run 2 (pc' := 240) (l' := [(0, .inr (.inr 1826)), (1, .inl t), (2, .inl h), (3, .inl (k3 : Int)), (4, .inl (k7 : Int))]) (st' := [.inl (-1), .inl (k7 : Int)]) rfl ?_
                      refine h_ine (off := 11) (t := 251) rfl rfl (by omega) (by decide) (fun c30 => ?_) (fun c30 => ?_)
                      · exfalso
                        omega
                      · refine h_run 2 (pc' := 245) (l' := [(0, .inr (.inr 1826)), (1, .inl t), (2, .inl h), (3, .inl (k3 : Int)), (4, .inl (k7 : Int))]) (st' := [.inl t, .inr (.inr 1826)]) rfl ?_
                        refine h_cv (i := 347) (j := 177) (b := 1826) (M' := mt_177) (xs := [.inl t]) (rest := []) rfl rfl rfl rfl rfl rfl (Nat.le_of_ble_eq_true rfl) (Nat.le_of_ble_eq_true rfl) (by omega) (m_addVariable (by omega) (by omega : 0 ≤ (H.1 1826 39) ∧ (H.1 1826 39) ≤ 47) (by omega)) ?_
                        rintro _ _ ⟨rfl, rfl⟩
                        refine h_run 0 (pc' := 248) (l' := [(0, .inr (.inr 1826)), (1, .inl t), (2, .inl h), (3, .inl (k3 : Int)), (4, .inl (k7 : Int))]) (st' := [.inl (((H.1 1826 39) + 1) - 1)]) rfl ?_
                        refine h_run 6 (pc' := 262) (l' := [(0, .inr (.inr 1826)), (1, .inl t), (2, .inl h), (3, .inl (k3 : Int)), (4, .inl (((H.1 1826 39) + 1) - 1))]) (st' := [.inl (1000 + (((H.1 1826 39) + 1) - 1)), .inr (.inr 1826)]) rfl ?_
                        have g31 : -2147483648 ≤ (H.1 1826 43) ∧ (H.1 1826 43) ≤ 2147483647 := hrg0.1 1826 13 43 _ .int rfl rfl
                        refine h_cv (i := 350) (j := 169) (b := 1826) (M' := mt_169) (xs := [.inl (1000 + (((H.1 1826 39) + 1) - 1))]) (rest := []) rfl rfl rfl rfl rfl rfl (Nat.le_of_ble_eq_true rfl) (Nat.le_of_ble_eq_true rfl) (by omega) (m_put1 (by omega) (by omega : (H.1 1826 35) = 0) (by omega : 0 ≤ (H.1 1826 43) ∧ (H.1 1826 43) ≤ 47) (by omega)) ?_
                        rintro _ _ ⟨rfl, rfl⟩
                        refine h_run 0 (pc' := 265) (l' := [(0, .inr (.inr 1826)), (1, .inl t), (2, .inl h), (3, .inl (k3 : Int)), (4, .inl (((H.1 1826 39) + 1) - 1))]) (st' := []) rfl ?_
                        refine h_run 1 (pc' := 266) (l' := [(0, .inr (.inr 1826)), (1, .inl t), (2, .inl h), (3, .inl (k3 : Int)), (4, .inl (((H.1 1826 39) + 1) - 1))]) (st' := [.inr (.inr 1826)]) rfl ?_
                        have g32 : -2147483648 ≤ (H.1 1826 30) ∧ (H.1 1826 30) ≤ 2147483647 := hrg0.1 1826 13 30 _ .int rfl rfl
                        have g33 : -2147483648 ≤ (H.1 1826 29) ∧ (H.1 1826 29) ≤ 2147483647 := hrg0.1 1826 13 29 _ .int rfl rfl
                        have g34 : -2147483648 ≤ (H.1 1826 32) ∧ (H.1 1826 32) ≤ 2147483647 := hrg0.1 1826 13 32 _ .int rfl rfl
                        refine h_cv (i := 297) (j := 165) (b := 1826) (M' := mt_165) (xs := []) (rest := []) rfl rfl rfl rfl rfl rfl (Nat.le_of_ble_eq_true rfl) (Nat.le_of_ble_eq_true rfl) (by omega) (m_next (by omega) (by omega : 0 ≤ (H.1 1826 30) ∧ (H.1 1826 30) ≤ (H.1 1826 29) ∧ (H.1 1826 29) ≤ 1000) (by omega : 0 ≤ (H.1 1826 35) ∧ (H.1 1826 35) ≤ 5) (by omega : 0 ≤ (H.1 1826 32) ∧ (H.1 1826 32) ≤ 1000)) ?_
                        rintro _ H35 ⟨rfl, hx35f, hx35a, hx35b, hx35c, -, hx35e, hx35g⟩
                        refine h_rng (fun hrg36 => ?_)
                        have hf37 : fr [30, 31, 32, 33, 35, 36, 39, 40, 41, 43, 47] [1849, 1850, 1851, 1852, 1853, 1854] H H35 := fr_t (fr_o (fr_a (fr_o (fr_a (fr_a (fr_o (fr_rf _ _ _) (by decide)) (by decide)) (by decide)) (by decide)) (by decide)) (by decide)) hx35f (by decide) (by decide)
                        replace hx35a : (H.1 1826 30) ≤ (H35.1 1826 30) := hx35a
                        replace hx35b : (H35.1 1826 30) ≤ (H.1 1826 29) := hx35b
                        replace hx35g : (H35.1 1826 35) = 0 → ((H35.1 1826 31) = 0 ∨ (H.1 1826 30) < (H35.1 1826 30)) := hx35g
                        refine h_run 0 (pc' := 269) (l' := [(0, .inr (.inr 1826)), (1, .inl t), (2, .inl h), (3, .inl (k3 : Int)), (4, .inl (((H.1 1826 39) + 1) - 1))]) (st' := []) rfl ?_
                        refine h_run 1 (pc' := 270) (l' := [(0, .inr (.inr 1826)), (1, .inl t), (2, .inl h), (3, .inl (k3 : Int)), (4, .inl (((H.1 1826 39) + 1) - 1))]) (st' := [.inl t]) rfl ?_
                        refine h_reti (x := t) rfl rfl ?_
                        have g38 : -2147483648 ≤ (H35.1 1826 30) ∧ (H35.1 1826 30) ≤ 2147483647 := hrg36.1 1826 13 30 _ .int rfl rfl
                        have g39 : -2147483648 ≤ (H35.1 1826 35) ∧ (H35.1 1826 35) ≤ 2147483647 := hrg36.1 1826 13 35 _ .int rfl rfl
                        have g40 : -2147483648 ≤ (H35.1 1826 32) ∧ (H35.1 1826 32) ≤ 2147483647 := hrg36.1 1826 13 32 _ .int rfl rfl
                        have g41 : -2147483648 ≤ (H35.1 1826 29) ∧ (H35.1 1826 29) ≤ 2147483647 := hrg36.1 1826 13 29 _ .int rfl rfl
                        have e42 : (H35.1 1826 29) = (H.1 1826 29) := hx35f.2.2 29 (by decide)
                        have g43 : -2147483648 ≤ (H35.1 1826 31) ∧ (H35.1 1826 31) ≤ 2147483647 := hrg36.1 1826 13 31 _ .int rfl rfl
                        have g44 : -2147483648 ≤ (H35.1 1826 1) ∧ (H35.1 1826 1) ≤ 2147483647 := hrg36.1 1826 13 1 _ .int rfl rfl
                        have e45 : (H35.1 1826 1) = (H.1 1826 1) := hx35f.2.2 1 (by decide)
                        have g46 : -2147483648 ≤ (H35.1 1826 39) ∧ (H35.1 1826 39) ≤ 2147483647 := hrg36.1 1826 13 39 _ .int rfl rfl
                        have e47 : (H35.1 1826 39) = ((H.1 1826 39) + 1) := hx35f.2.2 39 (by decide)
                        have g48 : -2147483648 ≤ (H35.1 1826 44) ∧ (H35.1 1826 44) ≤ 2147483647 := hrg36.1 1826 13 44 _ .int rfl rfl
                        have e49 : (H35.1 1826 44) = (H.1 1826 44) := hx35f.2.2 44 (by decide)
                        exact ⟨⟨t, rfl, by omega, by omega⟩, hf37, (by omega : (H.1 1826 30) ≤ (H35.1 1826 30) ∧ (H35.1 1826 30) ≤ (H.1 1826 29)), (by omega : 0 ≤ (H35.1 1826 35) ∧ (H35.1 1826 35) ≤ 5), (by omega : 0 ≤ (H35.1 1826 32) ∧ (H35.1 1826 32) ≤ 1000), (by omega : (H35.1 1826 35) = 0 → (H35.1 1826 31) = 0 ∨ (H.1 1826 30) < (H35.1 1826 30)), (by omega : ((H.1 1826 44) ≠ 2 → (H35.1 1826 39) = (H.1 1826 39)) ∧ (H.1 1826 39) ≤ (H35.1 1826 39)), fun _ => TT_sign (s := (1000 + (((H.1 1826 39) + 1) - 1))) (q := 0) hP hTT ⟨⟨(hx35f.2.2 1 (by decide)), (hx35f.2.2 3 (by decide)), (hx35f.2.2 8 (by decide)), (hx35f.2.2 44 (by decide))⟩, (hx35f.2.1 1833 (by decide) (by decide)), (hx35f.2.1 1830 (by decide) (by decide))⟩ (by show m_sg (H.1 1826 3) (H.1 1826 8) (H35.1 1826 39) (1000 + (((H.1 1826 39) + 1) - 1)); rw [show (H35.1 1826 39) = _ from (hx35f.2.2 39 (by decide))]; exact Or.inr (Or.inr (Or.inr (by show 1000 ≤ (1000 + (((H.1 1826 39) + 1) - 1)) ∧ (1000 + (((H.1 1826 39) + 1) - 1)) < 1000 + ((H.1 1826 39) + 1); omega)))) (ma_0 (by omega)) (by omega) (by omega) ⟨(hx35f.2.2 40 (by decide)), (hx35f.2.2 43 (by decide)), (hx35f.2.2 41 (by decide))⟩ (hx35f.2.1 1851 (by decide) (by decide)) (Or.inr ⟨by omega, by omega, (hx35f.2.2 39 (by decide)), t, (hx35f.2.1 1850 (by decide) (by decide)), by omega, by omega⟩) (Or.inl ⟨rfl, (hx35f.2.2 47 (by decide)), (hx35f.2.1 1852 (by decide) (by decide)), (hx35f.2.1 1853 (by decide) (by decide)), (hx35f.2.1 1854 (by decide) (by decide))⟩)⟩
                  · refine h_run 2 (pc' := 221) (l' := [(0, .inr (.inr 1826)), (1, .inl t), (2, .inl h), (3, .inl (k3 : Int)), (4, .inl (k7 : Int))]) (st' := [.inl 5, .inr (.inr 1826)]) rfl ?_
                    refine h_cv (i := 278) (j := 159) (b := 1826) (M' := mt_159) (xs := [.inl 5]) (rest := []) rfl rfl rfl rfl rfl rfl (Nat.le_of_ble_eq_true rfl) (Nat.le_of_ble_eq_true rfl) (by omega) (m_bad0 (by omega) (by omega) (by omega : (H.1 1826 35) = 0)) ?_
                    rintro _ _ ⟨rfl, rfl⟩
                    refine h_run 0 (pc' := 224) (l' := [(0, .inr (.inr 1826)), (1, .inl t), (2, .inl h), (3, .inl (k3 : Int)), (4, .inl (k7 : Int))]) (st' := []) rfl ?_
                    refine h_run 1 (pc' := 225) (l' := [(0, .inr (.inr 1826)), (1, .inl t), (2, .inl h), (3, .inl (k3 : Int)), (4, .inl (k7 : Int))]) (st' := [.inr (.inr 1826)]) rfl ?_
                    have g50 : -2147483648 ≤ (H.1 1826 40) ∧ (H.1 1826 40) ≤ 2147483647 := hrg0.1 1826 13 40 _ .int rfl rfl
                    refine h_cv (i := 344) (j := 168) (b := 1826) (M' := mt_168) (xs := []) (rest := []) rfl rfl rfl rfl rfl rfl (Nat.le_of_ble_eq_true rfl) (Nat.le_of_ble_eq_true rfl) (by omega) (m_countC (by omega) (by omega : (5 : Int) ≠ 0) (by omega : 0 ≤ (H.1 1826 40) ∧ (H.1 1826 40) ≤ 1000)) ?_
                    rintro _ _ ⟨rfl, rfl⟩
                    refine h_run 0 (pc' := 228) (l' := [(0, .inr (.inr 1826)), (1, .inl t), (2, .inl h), (3, .inl (k3 : Int)), (4, .inl (k7 : Int))]) (st' := []) rfl ?_
                    refine h_run 1 (pc' := 229) (l' := [(0, .inr (.inr 1826)), (1, .inl t), (2, .inl h), (3, .inl (k3 : Int)), (4, .inl (k7 : Int))]) (st' := [.inr (.inr 1826)]) rfl ?_
                    refine h_cv (i := 293) (j := 158) (b := 1826) (M' := mt_158) (xs := []) (rest := []) rfl rfl rfl rfl rfl rfl (Nat.le_of_ble_eq_true rfl) (Nat.le_of_ble_eq_true rfl) (by omega) (m_good0 (by omega) (by omega : (5 : Int) ≠ 0)) ?_
                    rintro _ _ ⟨rfl, rfl⟩
                    refine h_run 0 (pc' := 232) (l' := [(0, .inr (.inr 1826)), (1, .inl t), (2, .inl h), (3, .inl (k3 : Int)), (4, .inl (k7 : Int))]) (st' := [.inl 0]) rfl ?_
                    refine h_zne (off := 5) (t := 237) rfl rfl (by decide) (fun c => absurd c (by decide)) (fun _ => ?_)
                    refine h_run 1 (pc' := 236) (l' := [(0, .inr (.inr 1826)), (1, .inl t), (2, .inl h), (3, .inl (k3 : Int)), (4, .inl (k7 : Int))]) (st' := [.inl (-1)]) rfl ?_
                    refine h_reti (x := (-1)) rfl rfl ?_
                    have g51 : -2147483648 ≤ (H.1 1826 30) ∧ (H.1 1826 30) ≤ 2147483647 := hrg0.1 1826 13 30 _ .int rfl rfl
                    have g52 : -2147483648 ≤ (H.1 1826 32) ∧ (H.1 1826 32) ≤ 2147483647 := hrg0.1 1826 13 32 _ .int rfl rfl
                    have g53 : -2147483648 ≤ (H.1 1826 29) ∧ (H.1 1826 29) ≤ 2147483647 := hrg0.1 1826 13 29 _ .int rfl rfl
                    have g54 : -2147483648 ≤ (H.1 1826 31) ∧ (H.1 1826 31) ≤ 2147483647 := hrg0.1 1826 13 31 _ .int rfl rfl
                    have g55 : -2147483648 ≤ (H.1 1826 1) ∧ (H.1 1826 1) ≤ 2147483647 := hrg0.1 1826 13 1 _ .int rfl rfl
                    exact ⟨⟨(-1), rfl, by omega, by omega⟩, (fr_o (fr_o (fr_o (fr_rf _ _ _) (by decide)) (by decide)) (by decide)), (by omega : (H.1 1826 30) ≤ (H.1 1826 30) ∧ (H.1 1826 30) ≤ (H.1 1826 29)), (by omega : 0 ≤ (5 : Int) ∧ (5 : Int) ≤ 5), (by omega : 0 ≤ (H.1 1826 32) ∧ (H.1 1826 32) ≤ 1000), (by omega : (5 : Int) = 0 → (H.1 1826 31) = 0 ∨ (H.1 1826 30) < (H.1 1826 30)), (by omega : ((H.1 1826 44) ≠ 2 → (H.1 1826 39) = (H.1 1826 39)) ∧ (H.1 1826 39) ≤ (H.1 1826 39)), (fun (q : (5 : Int) = 0) => absurd q (by omega))⟩
              · refine h_run 3 (pc' := 187) (l' := [(0, .inr (.inr 1826)), (1, .inl t), (2, .inl h), (3, .inl (k3 : Int)), (4, .inl (k7 : Int))]) (st' := [.inl (k7 : Int), .inr (.inr 1850)]) rfl ?_
                refine h_ild (c := 1850) (j := k7) (i := (k7 : Int)) rfl rfl (by decide) rfl (by omega) ?_
                have g56 : -2147483648 ≤ (H.1 1850 k7) ∧ (H.1 1850 k7) ≤ 2147483647 := hrg0.2 1850 k7 48 .int rfl (by omega)
                refine h_run 0 (pc' := 188) (l' := [(0, .inr (.inr 1826)), (1, .inl t), (2, .inl h), (3, .inl (k3 : Int)), (4, .inl (k7 : Int))]) (st' := [.inl (H.1 1850 k7)]) rfl ?_
                refine h_run 1 (pc' := 189) (l' := [(0, .inr (.inr 1826)), (1, .inl t), (2, .inl h), (3, .inl (k3 : Int)), (4, .inl (k7 : Int))]) (st' := [.inl t, .inl (H.1 1850 k7)]) rfl ?_
                refine h_ieq (off := 8) (t := 197) rfl rfl (by omega) (by omega) (fun c57 => ?_) (fun c57 => ?_)
                · refine h_run 1 (pc' := 198) (l' := [(0, .inr (.inr 1826)), (1, .inl t), (2, .inl h), (3, .inl (k3 : Int)), (4, .inl (k7 : Int))]) (st' := [.inr (.inr 1826)]) rfl ?_
                  refine h_cv (i := 293) (j := 158) (b := 1826) (M' := mt_158) (xs := []) (rest := []) rfl rfl rfl rfl rfl rfl (Nat.le_of_ble_eq_true rfl) (Nat.le_of_ble_eq_true rfl) (by omega) (m_good1 (by omega) (by omega : (H.1 1826 35) = 0)) ?_
                  rintro _ _ ⟨rfl, rfl⟩
                  refine h_run 0 (pc' := 201) (l' := [(0, .inr (.inr 1826)), (1, .inl t), (2, .inl h), (3, .inl (k3 : Int)), (4, .inl (k7 : Int))]) (st' := [.inl 1]) rfl ?_
                  refine h_zeq (off := 23) (t := 224) rfl rfl (by decide) (fun c => absurd c (by decide)) (fun _ => ?_)
                  refine h_run 2 (pc' := 207) (l' := [(0, .inr (.inr 1826)), (1, .inl t), (2, .inl h), (3, .inl (k3 : Int)), (4, .inl (k7 : Int))]) (st' := [.inl (-1), .inl (k7 : Int)]) rfl ?_
                  refine h_ine (off := 17) (t := 224) rfl rfl (by omega) (by decide) (fun c58 => ?_) (fun c58 => ?_)
                  · refine h_run 1 (pc' := 225) (l' := [(0, .inr (.inr 1826)), (1, .inl t), (2, .inl h), (3, .inl (k3 : Int)), (4, .inl (k7 : Int))]) (st' := [.inr (.inr 1826)]) rfl ?_
                    have g59 : -2147483648 ≤ (H.1 1826 40) ∧ (H.1 1826 40) ≤ 2147483647 := hrg0.1 1826 13 40 _ .int rfl rfl
                    by_cases b60 : (H.1 1826 40) = 40
                    · refine h_cv (i := 344) (j := 168) (b := 1826) (M' := mt_168) (xs := []) (rest := []) rfl rfl rfl rfl rfl rfl (Nat.le_of_ble_eq_true rfl) (Nat.le_of_ble_eq_true rfl) (by omega) (m_countB (by omega) (by omega : (H.1 1826 35) = 0) (by omega : (H.1 1826 40) = 40)) ?_
                      rintro _ _ ⟨rfl, rfl⟩
                      refine h_run 0 (pc' := 228) (l' := [(0, .inr (.inr 1826)), (1, .inl t), (2, .inl h), (3, .inl (k3 : Int)), (4, .inl (k7 : Int))]) (st' := []) rfl ?_
                      refine h_run 1 (pc' := 229) (l' := [(0, .inr (.inr 1826)), (1, .inl t), (2, .inl h), (3, .inl (k3 : Int)), (4, .inl (k7 : Int))]) (st' := [.inr (.inr 1826)]) rfl ?_
                      refine h_cv (i := 293) (j := 158) (b := 1826) (M' := mt_158) (xs := []) (rest := []) rfl rfl rfl rfl rfl rfl (Nat.le_of_ble_eq_true rfl) (Nat.le_of_ble_eq_true rfl) (by omega) (m_good0 (by omega) (by omega : (5 : Int) ≠ 0)) ?_
                      rintro _ _ ⟨rfl, rfl⟩
                      refine h_run 0 (pc' := 232) (l' := [(0, .inr (.inr 1826)), (1, .inl t), (2, .inl h), (3, .inl (k3 : Int)), (4, .inl (k7 : Int))]) (st' := [.inl 0]) rfl ?_
                      refine h_zne (off := 5) (t := 237) rfl rfl (by decide) (fun c => absurd c (by decide)) (fun _ => ?_)
                      refine h_run 1 (pc' := 236) (l' := [(0, .inr (.inr 1826)), (1, .inl t), (2, .inl h), (3, .inl (k3 : Int)), (4, .inl (k7 : Int))]) (st' := [.inl (-1)]) rfl ?_
                      refine h_reti (x := (-1)) rfl rfl ?_
                      have g61 : -2147483648 ≤ (H.1 1826 30) ∧ (H.1 1826 30) ≤ 2147483647 := hrg0.1 1826 13 30 _ .int rfl rfl
                      have g62 : -2147483648 ≤ (H.1 1826 32) ∧ (H.1 1826 32) ≤ 2147483647 := hrg0.1 1826 13 32 _ .int rfl rfl
                      have g63 : -2147483648 ≤ (H.1 1826 29) ∧ (H.1 1826 29) ≤ 2147483647 := hrg0.1 1826 13 29 _ .int rfl rfl
                      have g64 : -2147483648 ≤ (H.1 1826 31) ∧ (H.1 1826 31) ≤ 2147483647 := hrg0.1 1826 13 31 _ .int rfl rfl
                      have g65 : -2147483648 ≤ (H.1 1826 1) ∧ (H.1 1826 1) ≤ 2147483647 := hrg0.1 1826 13 1 _ .int rfl rfl
                      exact ⟨⟨(-1), rfl, by omega, by omega⟩, (fr_o (fr_o (fr_o (fr_rf _ _ _) (by decide)) (by decide)) (by decide)), (by omega : (H.1 1826 30) ≤ (H.1 1826 30) ∧ (H.1 1826 30) ≤ (H.1 1826 29)), (by omega : 0 ≤ (5 : Int) ∧ (5 : Int) ≤ 5), (by omega : 0 ≤ (H.1 1826 32) ∧ (H.1 1826 32) ≤ 1000), (by omega : (5 : Int) = 0 → (H.1 1826 31) = 0 ∨ (H.1 1826 30) < (H.1 1826 30)), (by omega : ((H.1 1826 44) ≠ 2 → (H.1 1826 39) = (H.1 1826 39)) ∧ (H.1 1826 39) ≤ (H.1 1826 39)), (fun (q : (5 : Int) = 0) => absurd q (by omega))⟩
                    · refine h_cv (i := 344) (j := 168) (b := 1826) (M' := mt_168) (xs := []) (rest := []) rfl rfl rfl rfl rfl rfl (Nat.le_of_ble_eq_true rfl) (Nat.le_of_ble_eq_true rfl) (by omega) (m_countA (by omega) (by omega : (H.1 1826 35) = 0) (by omega : 0 ≤ (H.1 1826 40) ∧ (H.1 1826 40) ≤ 1000) (by omega : (H.1 1826 40) ≠ 40)) ?_
                      rintro _ _ ⟨rfl, rfl⟩
                      refine h_run 0 (pc' := 228) (l' := [(0, .inr (.inr 1826)), (1, .inl t), (2, .inl h), (3, .inl (k3 : Int)), (4, .inl (k7 : Int))]) (st' := []) rfl ?_
                      refine h_run 1 (pc' := 229) (l' := [(0, .inr (.inr 1826)), (1, .inl t), (2, .inl h), (3, .inl (k3 : Int)), (4, .inl (k7 : Int))]) (st' := [.inr (.inr 1826)]) rfl ?_
                      refine h_cv (i := 293) (j := 158) (b := 1826) (M' := mt_158) (xs := []) (rest := []) rfl rfl rfl rfl rfl rfl (Nat.le_of_ble_eq_true rfl) (Nat.le_of_ble_eq_true rfl) (by omega) (m_good1 (by omega) (by omega : (H.1 1826 35) = 0)) ?_
                      rintro _ _ ⟨rfl, rfl⟩
                      refine h_run 0 (pc' := 232) (l' := [(0, .inr (.inr 1826)), (1, .inl t), (2, .inl h), (3, .inl (k3 : Int)), (4, .inl (k7 : Int))]) (st' := [.inl 1]) rfl ?_
                      refine h_zne (off := 5) (t := 237) rfl rfl (by decide) (fun _ => ?_) (fun c => absurd c (by decide))
                      refine h_run 2 (pc' := 240) (l' := [(0, .inr (.inr 1826)), (1, .inl t), (2, .inl h), (3, .inl (k3 : Int)), (4, .inl (k7 : Int))]) (st' := [.inl (-1), .inl (k7 : Int)]) rfl ?_
                      refine h_ine (off := 11) (t := 251) rfl rfl (by omega) (by decide) (fun c66 => ?_) (fun c66 => ?_)
                      · refine h_run 6 (pc' := 262) (l' := [(0, .inr (.inr 1826)), (1, .inl t), (2, .inl h), (3, .inl (k3 : Int)), (4, .inl (k7 : Int))]) (st' := [.inl (1000 + (k7 : Int)), .inr (.inr 1826)]) rfl ?_
                        have g67 : -2147483648 ≤ (H.1 1826 43) ∧ (H.1 1826 43) ≤ 2147483647 := hrg0.1 1826 13 43 _ .int rfl rfl
                        refine h_cv (i := 350) (j := 169) (b := 1826) (M' := mt_169) (xs := [.inl (1000 + (k7 : Int))]) (rest := []) rfl rfl rfl rfl rfl rfl (Nat.le_of_ble_eq_true rfl) (Nat.le_of_ble_eq_true rfl) (by omega) (m_put1 (by omega) (by omega : (H.1 1826 35) = 0) (by omega : 0 ≤ (H.1 1826 43) ∧ (H.1 1826 43) ≤ 47) (by omega)) ?_
                        rintro _ _ ⟨rfl, rfl⟩
                        refine h_run 0 (pc' := 265) (l' := [(0, .inr (.inr 1826)), (1, .inl t), (2, .inl h), (3, .inl (k3 : Int)), (4, .inl (k7 : Int))]) (st' := []) rfl ?_
                        refine h_run 1 (pc' := 266) (l' := [(0, .inr (.inr 1826)), (1, .inl t), (2, .inl h), (3, .inl (k3 : Int)), (4, .inl (k7 : Int))]) (st' := [.inr (.inr 1826)]) rfl ?_
                        have g68 : -2147483648 ≤ (H.1 1826 30) ∧ (H.1 1826 30) ≤ 2147483647 := hrg0.1 1826 13 30 _ .int rfl rfl
                        have g69 : -2147483648 ≤ (H.1 1826 29) ∧ (H.1 1826 29) ≤ 2147483647 := hrg0.1 1826 13 29 _ .int rfl rfl
                        have g70 : -2147483648 ≤ (H.1 1826 32) ∧ (H.1 1826 32) ≤ 2147483647 := hrg0.1 1826 13 32 _ .int rfl rfl
                        refine h_cv (i := 297) (j := 165) (b := 1826) (M' := mt_165) (xs := []) (rest := []) rfl rfl rfl rfl rfl rfl (Nat.le_of_ble_eq_true rfl) (Nat.le_of_ble_eq_true rfl) (by omega) (m_next (by omega) (by omega : 0 ≤ (H.1 1826 30) ∧ (H.1 1826 30) ≤ (H.1 1826 29) ∧ (H.1 1826 29) ≤ 1000) (by omega : 0 ≤ (H.1 1826 35) ∧ (H.1 1826 35) ≤ 5) (by omega : 0 ≤ (H.1 1826 32) ∧ (H.1 1826 32) ≤ 1000)) ?_
                        rintro _ H71 ⟨rfl, hx71f, hx71a, hx71b, hx71c, -, hx71e, hx71g⟩
                        refine h_rng (fun hrg72 => ?_)
                        have hf73 : fr [30, 31, 32, 33, 35, 36, 39, 40, 41, 43, 47] [1849, 1850, 1851, 1852, 1853, 1854] H H71 := fr_t (fr_o (fr_a (fr_o (fr_rf _ _ _) (by decide)) (by decide)) (by decide)) hx71f (by decide) (by decide)
                        replace hx71a : (H.1 1826 30) ≤ (H71.1 1826 30) := hx71a
                        replace hx71b : (H71.1 1826 30) ≤ (H.1 1826 29) := hx71b
                        replace hx71g : (H71.1 1826 35) = 0 → ((H71.1 1826 31) = 0 ∨ (H.1 1826 30) < (H71.1 1826 30)) := hx71g
                        refine h_run 0 (pc' := 269) (l' := [(0, .inr (.inr 1826)), (1, .inl t), (2, .inl h), (3, .inl (k3 : Int)), (4, .inl (k7 : Int))]) (st' := []) rfl ?_
                        refine h_run 1 (pc' := 270) (l' := [(0, .inr (.inr 1826)), (1, .inl t), (2, .inl h), (3, .inl (k3 : Int)), (4, .inl (k7 : Int))]) (st' := [.inl t]) rfl ?_
                        refine h_reti (x := t) rfl rfl ?_
                        have g74 : -2147483648 ≤ (H71.1 1826 30) ∧ (H71.1 1826 30) ≤ 2147483647 := hrg72.1 1826 13 30 _ .int rfl rfl
                        have g75 : -2147483648 ≤ (H71.1 1826 35) ∧ (H71.1 1826 35) ≤ 2147483647 := hrg72.1 1826 13 35 _ .int rfl rfl
                        have g76 : -2147483648 ≤ (H71.1 1826 32) ∧ (H71.1 1826 32) ≤ 2147483647 := hrg72.1 1826 13 32 _ .int rfl rfl
                        have g77 : -2147483648 ≤ (H71.1 1826 29) ∧ (H71.1 1826 29) ≤ 2147483647 := hrg72.1 1826 13 29 _ .int rfl rfl
                        have e78 : (H71.1 1826 29) = (H.1 1826 29) := hx71f.2.2 29 (by decide)
                        have g79 : -2147483648 ≤ (H71.1 1826 31) ∧ (H71.1 1826 31) ≤ 2147483647 := hrg72.1 1826 13 31 _ .int rfl rfl
                        have g80 : -2147483648 ≤ (H71.1 1826 1) ∧ (H71.1 1826 1) ≤ 2147483647 := hrg72.1 1826 13 1 _ .int rfl rfl
                        have e81 : (H71.1 1826 1) = (H.1 1826 1) := hx71f.2.2 1 (by decide)
                        have g82 : -2147483648 ≤ (H71.1 1826 39) ∧ (H71.1 1826 39) ≤ 2147483647 := hrg72.1 1826 13 39 _ .int rfl rfl
                        have e83 : (H71.1 1826 39) = (H.1 1826 39) := hx71f.2.2 39 (by decide)
                        have g84 : -2147483648 ≤ (H71.1 1826 44) ∧ (H71.1 1826 44) ≤ 2147483647 := hrg72.1 1826 13 44 _ .int rfl rfl
                        have e85 : (H71.1 1826 44) = (H.1 1826 44) := hx71f.2.2 44 (by decide)
                        exact ⟨⟨t, rfl, by omega, by omega⟩, hf73, (by omega : (H.1 1826 30) ≤ (H71.1 1826 30) ∧ (H71.1 1826 30) ≤ (H.1 1826 29)), (by omega : 0 ≤ (H71.1 1826 35) ∧ (H71.1 1826 35) ≤ 5), (by omega : 0 ≤ (H71.1 1826 32) ∧ (H71.1 1826 32) ≤ 1000), (by omega : (H71.1 1826 35) = 0 → (H71.1 1826 31) = 0 ∨ (H.1 1826 30) < (H71.1 1826 30)), (by omega : ((H.1 1826 44) ≠ 2 → (H71.1 1826 39) = (H.1 1826 39)) ∧ (H.1 1826 39) ≤ (H71.1 1826 39)), fun _ => TT_sign (s := (1000 + (k7 : Int))) (q := 0) hP hTT ⟨⟨(hx71f.2.2 1 (by decide)), (hx71f.2.2 3 (by decide)), (hx71f.2.2 8 (by decide)), (hx71f.2.2 44 (by decide))⟩, (hx71f.2.1 1833 (by decide) (by decide)), (hx71f.2.1 1830 (by decide) (by decide))⟩ (by show m_sg (H.1 1826 3) (H.1 1826 8) (H71.1 1826 39) (1000 + (k7 : Int)); rw [show (H71.1 1826 39) = _ from (hx71f.2.2 39 (by decide))]; exact Or.inr (Or.inr (Or.inr (by show 1000 ≤ (1000 + (k7 : Int)) ∧ (1000 + (k7 : Int)) < 1000 + (H.1 1826 39); omega)))) (ma_0 (by omega)) (by omega) (by omega) ⟨(hx71f.2.2 40 (by decide)), (hx71f.2.2 43 (by decide)), (hx71f.2.2 41 (by decide))⟩ (hx71f.2.1 1851 (by decide) (by decide)) (Or.inl ⟨(hx71f.2.2 39 (by decide)), (hx71f.2.1 1850 (by decide) (by decide))⟩) (Or.inl ⟨rfl, (hx71f.2.2 47 (by decide)), (hx71f.2.1 1852 (by decide) (by decide)), (hx71f.2.1 1853 (by decide) (by decide)), (hx71f.2.1 1854 (by decide) (by decide))⟩)⟩
                      · exfalso
                        omega
                  · exfalso
                    omega
                · refine h_run 2 (pc' := 194) (l' := [(0, .inr (.inr 1826)), (1, .inl t), (2, .inl h), (3, .inl (k3 : Int)), (4, .inl (k7 : Int))]) (st' := [.inl 4, .inr (.inr 1826)]) rfl ?_
                  refine h_cv (i := 278) (j := 159) (b := 1826) (M' := mt_159) (xs := [.inl 4]) (rest := []) rfl rfl rfl rfl rfl rfl (Nat.le_of_ble_eq_true rfl) (Nat.le_of_ble_eq_true rfl) (by omega) (m_bad0 (by omega) (by omega) (by omega : (H.1 1826 35) = 0)) ?_
                  rintro _ _ ⟨rfl, rfl⟩
                  refine h_run 0 (pc' := 197) (l' := [(0, .inr (.inr 1826)), (1, .inl t), (2, .inl h), (3, .inl (k3 : Int)), (4, .inl (k7 : Int))]) (st' := []) rfl ?_
                  refine h_run 1 (pc' := 198) (l' := [(0, .inr (.inr 1826)), (1, .inl t), (2, .inl h), (3, .inl (k3 : Int)), (4, .inl (k7 : Int))]) (st' := [.inr (.inr 1826)]) rfl ?_
                  refine h_cv (i := 293) (j := 158) (b := 1826) (M' := mt_158) (xs := []) (rest := []) rfl rfl rfl rfl rfl rfl (Nat.le_of_ble_eq_true rfl) (Nat.le_of_ble_eq_true rfl) (by omega) (m_good0 (by omega) (by omega : (4 : Int) ≠ 0)) ?_
                  rintro _ _ ⟨rfl, rfl⟩
                  refine h_run 0 (pc' := 201) (l' := [(0, .inr (.inr 1826)), (1, .inl t), (2, .inl h), (3, .inl (k3 : Int)), (4, .inl (k7 : Int))]) (st' := [.inl 0]) rfl ?_
                  refine h_zeq (off := 23) (t := 224) rfl rfl (by decide) (fun _ => ?_) (fun c => absurd c (by decide))
                  refine h_run 1 (pc' := 225) (l' := [(0, .inr (.inr 1826)), (1, .inl t), (2, .inl h), (3, .inl (k3 : Int)), (4, .inl (k7 : Int))]) (st' := [.inr (.inr 1826)]) rfl ?_
                  have g86 : -2147483648 ≤ (H.1 1826 40) ∧ (H.1 1826 40) ≤ 2147483647 := hrg0.1 1826 13 40 _ .int rfl rfl
                  refine h_cv (i := 344) (j := 168) (b := 1826) (M' := mt_168) (xs := []) (rest := []) rfl rfl rfl rfl rfl rfl (Nat.le_of_ble_eq_true rfl) (Nat.le_of_ble_eq_true rfl) (by omega) (m_countC (by omega) (by omega : (4 : Int) ≠ 0) (by omega : 0 ≤ (H.1 1826 40) ∧ (H.1 1826 40) ≤ 1000)) ?_
                  rintro _ _ ⟨rfl, rfl⟩
                  refine h_run 0 (pc' := 228) (l' := [(0, .inr (.inr 1826)), (1, .inl t), (2, .inl h), (3, .inl (k3 : Int)), (4, .inl (k7 : Int))]) (st' := []) rfl ?_
                  refine h_run 1 (pc' := 229) (l' := [(0, .inr (.inr 1826)), (1, .inl t), (2, .inl h), (3, .inl (k3 : Int)), (4, .inl (k7 : Int))]) (st' := [.inr (.inr 1826)]) rfl ?_
                  refine h_cv (i := 293) (j := 158) (b := 1826) (M' := mt_158) (xs := []) (rest := []) rfl rfl rfl rfl rfl rfl (Nat.le_of_ble_eq_true rfl) (Nat.le_of_ble_eq_true rfl) (by omega) (m_good0 (by omega) (by omega : (4 : Int) ≠ 0)) ?_
                  rintro _ _ ⟨rfl, rfl⟩
                  refine h_run 0 (pc' := 232) (l' := [(0, .inr (.inr 1826)), (1, .inl t), (2, .inl h), (3, .inl (k3 : Int)), (4, .inl (k7 : Int))]) (st' := [.inl 0]) rfl ?_
                  refine h_zne (off := 5) (t := 237) rfl rfl (by decide) (fun c => absurd c (by decide)) (fun _ => ?_)
                  refine h_run 1 (pc' := 236) (l' := [(0, .inr (.inr 1826)), (1, .inl t), (2, .inl h), (3, .inl (k3 : Int)), (4, .inl (k7 : Int))]) (st' := [.inl (-1)]) rfl ?_
                  refine h_reti (x := (-1)) rfl rfl ?_
                  have g87 : -2147483648 ≤ (H.1 1826 30) ∧ (H.1 1826 30) ≤ 2147483647 := hrg0.1 1826 13 30 _ .int rfl rfl
                  have g88 : -2147483648 ≤ (H.1 1826 32) ∧ (H.1 1826 32) ≤ 2147483647 := hrg0.1 1826 13 32 _ .int rfl rfl
                  have g89 : -2147483648 ≤ (H.1 1826 29) ∧ (H.1 1826 29) ≤ 2147483647 := hrg0.1 1826 13 29 _ .int rfl rfl
                  have g90 : -2147483648 ≤ (H.1 1826 31) ∧ (H.1 1826 31) ≤ 2147483647 := hrg0.1 1826 13 31 _ .int rfl rfl
                  have g91 : -2147483648 ≤ (H.1 1826 1) ∧ (H.1 1826 1) ≤ 2147483647 := hrg0.1 1826 13 1 _ .int rfl rfl
                  exact ⟨⟨(-1), rfl, by omega, by omega⟩, (fr_o (fr_o (fr_o (fr_rf _ _ _) (by decide)) (by decide)) (by decide)), (by omega : (H.1 1826 30) ≤ (H.1 1826 30) ∧ (H.1 1826 30) ≤ (H.1 1826 29)), (by omega : 0 ≤ (4 : Int) ∧ (4 : Int) ≤ 5), (by omega : 0 ≤ (H.1 1826 32) ∧ (H.1 1826 32) ≤ 1000), (by omega : (4 : Int) = 0 → (H.1 1826 31) = 0 ∨ (H.1 1826 30) < (H.1 1826 30)), (by omega : ((H.1 1826 44) ≠ 2 → (H.1 1826 39) = (H.1 1826 39)) ∧ (H.1 1826 39) ≤ (H.1 1826 39)), (fun (q : (4 : Int) = 0) => absurd q (by omega))⟩
            · refine h_run 2 (pc' := 165) (l' := [(0, .inr (.inr 1826)), (1, .inl t), (2, .inl h), (3, .inl (k3 : Int)), (4, .inl (k7 : Int))]) (st' := [.inl 2, .inr (.inr 1826)]) rfl ?_
              refine h_cv (i := 278) (j := 159) (b := 1826) (M' := mt_159) (xs := [.inl 2]) (rest := []) rfl rfl rfl rfl rfl rfl (Nat.le_of_ble_eq_true rfl) (Nat.le_of_ble_eq_true rfl) (by omega) (m_bad0 (by omega) (by omega) (by omega : (H.1 1826 35) = 0)) ?_
              rintro _ _ ⟨rfl, rfl⟩
              refine h_run 0 (pc' := 168) (l' := [(0, .inr (.inr 1826)), (1, .inl t), (2, .inl h), (3, .inl (k3 : Int)), (4, .inl (k7 : Int))]) (st' := []) rfl ?_
              refine h_run 1 (pc' := 169) (l' := [(0, .inr (.inr 1826)), (1, .inl t), (2, .inl h), (3, .inl (k3 : Int)), (4, .inl (k7 : Int))]) (st' := [.inr (.inr 1826)]) rfl ?_
              refine h_cv (i := 293) (j := 158) (b := 1826) (M' := mt_158) (xs := []) (rest := []) rfl rfl rfl rfl rfl rfl (Nat.le_of_ble_eq_true rfl) (Nat.le_of_ble_eq_true rfl) (by omega) (m_good0 (by omega) (by omega : (2 : Int) ≠ 0)) ?_
              rintro _ _ ⟨rfl, rfl⟩
              refine h_run 0 (pc' := 172) (l' := [(0, .inr (.inr 1826)), (1, .inl t), (2, .inl h), (3, .inl (k3 : Int)), (4, .inl (k7 : Int))]) (st' := [.inl 0]) rfl ?_
              refine h_zeq (off := 25) (t := 197) rfl rfl (by decide) (fun _ => ?_) (fun c => absurd c (by decide))
              refine h_run 1 (pc' := 198) (l' := [(0, .inr (.inr 1826)), (1, .inl t), (2, .inl h), (3, .inl (k3 : Int)), (4, .inl (k7 : Int))]) (st' := [.inr (.inr 1826)]) rfl ?_
              refine h_cv (i := 293) (j := 158) (b := 1826) (M' := mt_158) (xs := []) (rest := []) rfl rfl rfl rfl rfl rfl (Nat.le_of_ble_eq_true rfl) (Nat.le_of_ble_eq_true rfl) (by omega) (m_good0 (by omega) (by omega : (2 : Int) ≠ 0)) ?_
              rintro _ _ ⟨rfl, rfl⟩
              refine h_run 0 (pc' := 201) (l' := [(0, .inr (.inr 1826)), (1, .inl t), (2, .inl h), (3, .inl (k3 : Int)), (4, .inl (k7 : Int))]) (st' := [.inl 0]) rfl ?_
              refine h_zeq (off := 23) (t := 224) rfl rfl (by decide) (fun _ => ?_) (fun c => absurd c (by decide))
              refine h_run 1 (pc' := 225) (l' := [(0, .inr (.inr 1826)), (1, .inl t), (2, .inl h), (3, .inl (k3 : Int)), (4, .inl (k7 : Int))]) (st' := [.inr (.inr 1826)]) rfl ?_
              have g92 : -2147483648 ≤ (H.1 1826 40) ∧ (H.1 1826 40) ≤ 2147483647 := hrg0.1 1826 13 40 _ .int rfl rfl
              refine h_cv (i := 344) (j := 168) (b := 1826) (M' := mt_168) (xs := []) (rest := []) rfl rfl rfl rfl rfl rfl (Nat.le_of_ble_eq_true rfl) (Nat.le_of_ble_eq_true rfl) (by omega) (m_countC (by omega) (by omega : (2 : Int) ≠ 0) (by omega : 0 ≤ (H.1 1826 40) ∧ (H.1 1826 40) ≤ 1000)) ?_
              rintro _ _ ⟨rfl, rfl⟩
              refine h_run 0 (pc' := 228) (l' := [(0, .inr (.inr 1826)), (1, .inl t), (2, .inl h), (3, .inl (k3 : Int)), (4, .inl (k7 : Int))]) (st' := []) rfl ?_
              refine h_run 1 (pc' := 229) (l' := [(0, .inr (.inr 1826)), (1, .inl t), (2, .inl h), (3, .inl (k3 : Int)), (4, .inl (k7 : Int))]) (st' := [.inr (.inr 1826)]) rfl ?_
              refine h_cv (i := 293) (j := 158) (b := 1826) (M' := mt_158) (xs := []) (rest := []) rfl rfl rfl rfl rfl rfl (Nat.le_of_ble_eq_true rfl) (Nat.le_of_ble_eq_true rfl) (by omega) (m_good0 (by omega) (by omega : (2 : Int) ≠ 0)) ?_
              rintro _ _ ⟨rfl, rfl⟩
              refine h_run 0 (pc' := 232) (l' := [(0, .inr (.inr 1826)), (1, .inl t), (2, .inl h), (3, .inl (k3 : Int)), (4, .inl (k7 : Int))]) (st' := [.inl 0]) rfl ?_
              refine h_zne (off := 5) (t := 237) rfl rfl (by decide) (fun c => absurd c (by decide)) (fun _ => ?_)
              refine h_run 1 (pc' := 236) (l' := [(0, .inr (.inr 1826)), (1, .inl t), (2, .inl h), (3, .inl (k3 : Int)), (4, .inl (k7 : Int))]) (st' := [.inl (-1)]) rfl ?_
              refine h_reti (x := (-1)) rfl rfl ?_
              have g93 : -2147483648 ≤ (H.1 1826 30) ∧ (H.1 1826 30) ≤ 2147483647 := hrg0.1 1826 13 30 _ .int rfl rfl
              have g94 : -2147483648 ≤ (H.1 1826 32) ∧ (H.1 1826 32) ≤ 2147483647 := hrg0.1 1826 13 32 _ .int rfl rfl
              have g95 : -2147483648 ≤ (H.1 1826 29) ∧ (H.1 1826 29) ≤ 2147483647 := hrg0.1 1826 13 29 _ .int rfl rfl
              have g96 : -2147483648 ≤ (H.1 1826 31) ∧ (H.1 1826 31) ≤ 2147483647 := hrg0.1 1826 13 31 _ .int rfl rfl
              have g97 : -2147483648 ≤ (H.1 1826 1) ∧ (H.1 1826 1) ≤ 2147483647 := hrg0.1 1826 13 1 _ .int rfl rfl
              exact ⟨⟨(-1), rfl, by omega, by omega⟩, (fr_o (fr_o (fr_o (fr_rf _ _ _) (by decide)) (by decide)) (by decide)), (by omega : (H.1 1826 30) ≤ (H.1 1826 30) ∧ (H.1 1826 30) ≤ (H.1 1826 29)), (by omega : 0 ≤ (2 : Int) ∧ (2 : Int) ≤ 5), (by omega : 0 ≤ (H.1 1826 32) ∧ (H.1 1826 32) ≤ 1000), (by omega : (2 : Int) = 0 → (H.1 1826 31) = 0 ∨ (H.1 1826 30) < (H.1 1826 30)), (by omega : ((H.1 1826 44) ≠ 2 → (H.1 1826 39) = (H.1 1826 39)) ∧ (H.1 1826 39) ≤ (H.1 1826 39)), (fun (q : (2 : Int) = 0) => absurd q (by omega))⟩
          · refine h_run 2 (pc' := 141) (l' := [(0, .inr (.inr 1826)), (1, .inl t), (2, .inl h), (3, .inl (k3 : Int)), (4, .inl (k7 : Int))]) (st' := [.inl (-1), .inl (k7 : Int)]) rfl ?_
            refine h_ine (off := 10) (t := 151) rfl rfl (by omega) (by decide) (fun c98 => ?_) (fun c98 => ?_)
            · refine h_run 1 (pc' := 152) (l' := [(0, .inr (.inr 1826)), (1, .inl t), (2, .inl h), (3, .inl (k3 : Int)), (4, .inl (k7 : Int))]) (st' := [.inr (.inr 1826)]) rfl ?_
              have g99 : -2147483648 ≤ (H.1 1826 35) ∧ (H.1 1826 35) ≤ 2147483647 := hrg0.1 1826 13 35 _ .int rfl rfl
              refine h_cv (i := 293) (j := 158) (b := 1826) (M' := mt_158) (xs := []) (rest := []) rfl rfl rfl rfl rfl rfl (Nat.le_of_ble_eq_true rfl) (Nat.le_of_ble_eq_true rfl) (by omega) (m_good1 (by omega) (by omega : (H.1 1826 35) = 0)) ?_
              rintro _ _ ⟨rfl, rfl⟩
              refine h_run 0 (pc' := 155) (l' := [(0, .inr (.inr 1826)), (1, .inl t), (2, .inl h), (3, .inl (k3 : Int)), (4, .inl (k7 : Int))]) (st' := [.inl 1]) rfl ?_
              refine h_zeq (off := 13) (t := 168) rfl rfl (by decide) (fun c => absurd c (by decide)) (fun _ => ?_)
              refine h_run 2 (pc' := 160) (l' := [(0, .inr (.inr 1826)), (1, .inl t), (2, .inl h), (3, .inl (k3 : Int)), (4, .inl (k7 : Int))]) (st' := [.inl (-1), .inl t]) rfl ?_
              refine h_ine (off := 8) (t := 168) rfl rfl (by omega) (by decide) (fun c100 => ?_) (fun c100 => ?_)
              · refine h_run 1 (pc' := 169) (l' := [(0, .inr (.inr 1826)), (1, .inl t), (2, .inl h), (3, .inl (k3 : Int)), (4, .inl (k7 : Int))]) (st' := [.inr (.inr 1826)]) rfl ?_
                refine h_cv (i := 293) (j := 158) (b := 1826) (M' := mt_158) (xs := []) (rest := []) rfl rfl rfl rfl rfl rfl (Nat.le_of_ble_eq_true rfl) (Nat.le_of_ble_eq_true rfl) (by omega) (m_good1 (by omega) (by omega : (H.1 1826 35) = 0)) ?_
                rintro _ _ ⟨rfl, rfl⟩
                refine h_run 0 (pc' := 172) (l' := [(0, .inr (.inr 1826)), (1, .inl t), (2, .inl h), (3, .inl (k3 : Int)), (4, .inl (k7 : Int))]) (st' := [.inl 1]) rfl ?_
                refine h_zeq (off := 25) (t := 197) rfl rfl (by decide) (fun c => absurd c (by decide)) (fun _ => ?_)
                refine h_run 2 (pc' := 178) (l' := [(0, .inr (.inr 1826)), (1, .inl t), (2, .inl h), (3, .inl (k3 : Int)), (4, .inl (k7 : Int))]) (st' := [.inl (-1), .inl (k7 : Int)]) rfl ?_
                refine h_ieq (off := 19) (t := 197) rfl rfl (by omega) (by decide) (fun c101 => ?_) (fun c101 => ?_)
                · exfalso
                  omega
                · refine h_run 3 (pc' := 187) (l' := [(0, .inr (.inr 1826)), (1, .inl t), (2, .inl h), (3, .inl (k3 : Int)), (4, .inl (k7 : Int))]) (st' := [.inl (k7 : Int), .inr (.inr 1850)]) rfl ?_
                  refine h_ild (c := 1850) (j := k7) (i := (k7 : Int)) rfl rfl (by decide) rfl (by omega) ?_
                  have g102 : -2147483648 ≤ (H.1 1850 k7) ∧ (H.1 1850 k7) ≤ 2147483647 := hrg0.2 1850 k7 48 .int rfl (by omega)
                  refine h_run 0 (pc' := 188) (l' := [(0, .inr (.inr 1826)), (1, .inl t), (2, .inl h), (3, .inl (k3 : Int)), (4, .inl (k7 : Int))]) (st' := [.inl (H.1 1850 k7)]) rfl ?_
                  refine h_run 1 (pc' := 189) (l' := [(0, .inr (.inr 1826)), (1, .inl t), (2, .inl h), (3, .inl (k3 : Int)), (4, .inl (k7 : Int))]) (st' := [.inl t, .inl (H.1 1850 k7)]) rfl ?_
                  refine h_ieq (off := 8) (t := 197) rfl rfl (by omega) (by omega) (fun c103 => ?_) (fun c103 => ?_)
                  · refine h_run 1 (pc' := 198) (l' := [(0, .inr (.inr 1826)), (1, .inl t), (2, .inl h), (3, .inl (k3 : Int)), (4, .inl (k7 : Int))]) (st' := [.inr (.inr 1826)]) rfl ?_
                    refine h_cv (i := 293) (j := 158) (b := 1826) (M' := mt_158) (xs := []) (rest := []) rfl rfl rfl rfl rfl rfl (Nat.le_of_ble_eq_true rfl) (Nat.le_of_ble_eq_true rfl) (by omega) (m_good1 (by omega) (by omega : (H.1 1826 35) = 0)) ?_
                    rintro _ _ ⟨rfl, rfl⟩
                    refine h_run 0 (pc' := 201) (l' := [(0, .inr (.inr 1826)), (1, .inl t), (2, .inl h), (3, .inl (k3 : Int)), (4, .inl (k7 : Int))]) (st' := [.inl 1]) rfl ?_
                    refine h_zeq (off := 23) (t := 224) rfl rfl (by decide) (fun c => absurd c (by decide)) (fun _ => ?_)
                    refine h_run 2 (pc' := 207) (l' := [(0, .inr (.inr 1826)), (1, .inl t), (2, .inl h), (3, .inl (k3 : Int)), (4, .inl (k7 : Int))]) (st' := [.inl (-1), .inl (k7 : Int)]) rfl ?_
                    refine h_ine (off := 17) (t := 224) rfl rfl (by omega) (by decide) (fun c104 => ?_) (fun c104 => ?_)
                    · refine h_run 1 (pc' := 225) (l' := [(0, .inr (.inr 1826)), (1, .inl t), (2, .inl h), (3, .inl (k3 : Int)), (4, .inl (k7 : Int))]) (st' := [.inr (.inr 1826)]) rfl ?_
                      have g105 : -2147483648 ≤ (H.1 1826 40) ∧ (H.1 1826 40) ≤ 2147483647 := hrg0.1 1826 13 40 _ .int rfl rfl
                      by_cases b106 : (H.1 1826 40) = 40
                      · refine h_cv (i := 344) (j := 168) (b := 1826) (M' := mt_168) (xs := []) (rest := []) rfl rfl rfl rfl rfl rfl (Nat.le_of_ble_eq_true rfl) (Nat.le_of_ble_eq_true rfl) (by omega) (m_countB (by omega) (by omega : (H.1 1826 35) = 0) (by omega : (H.1 1826 40) = 40)) ?_
                        rintro _ _ ⟨rfl, rfl⟩
                        refine h_run 0 (pc' := 228) (l' := [(0, .inr (.inr 1826)), (1, .inl t), (2, .inl h), (3, .inl (k3 : Int)), (4, .inl (k7 : Int))]) (st' := []) rfl ?_
                        refine h_run 1 (pc' := 229) (l' := [(0, .inr (.inr 1826)), (1, .inl t), (2, .inl h), (3, .inl (k3 : Int)), (4, .inl (k7 : Int))]) (st' := [.inr (.inr 1826)]) rfl ?_
                        refine h_cv (i := 293) (j := 158) (b := 1826) (M' := mt_158) (xs := []) (rest := []) rfl rfl rfl rfl rfl rfl (Nat.le_of_ble_eq_true rfl) (Nat.le_of_ble_eq_true rfl) (by omega) (m_good0 (by omega) (by omega : (5 : Int) ≠ 0)) ?_
                        rintro _ _ ⟨rfl, rfl⟩
                        refine h_run 0 (pc' := 232) (l' := [(0, .inr (.inr 1826)), (1, .inl t), (2, .inl h), (3, .inl (k3 : Int)), (4, .inl (k7 : Int))]) (st' := [.inl 0]) rfl ?_
                        refine h_zne (off := 5) (t := 237) rfl rfl (by decide) (fun c => absurd c (by decide)) (fun _ => ?_)
                        refine h_run 1 (pc' := 236) (l' := [(0, .inr (.inr 1826)), (1, .inl t), (2, .inl h), (3, .inl (k3 : Int)), (4, .inl (k7 : Int))]) (st' := [.inl (-1)]) rfl ?_
                        refine h_reti (x := (-1)) rfl rfl ?_
                        have g107 : -2147483648 ≤ (H.1 1826 30) ∧ (H.1 1826 30) ≤ 2147483647 := hrg0.1 1826 13 30 _ .int rfl rfl
                        have g108 : -2147483648 ≤ (H.1 1826 32) ∧ (H.1 1826 32) ≤ 2147483647 := hrg0.1 1826 13 32 _ .int rfl rfl
                        have g109 : -2147483648 ≤ (H.1 1826 29) ∧ (H.1 1826 29) ≤ 2147483647 := hrg0.1 1826 13 29 _ .int rfl rfl
                        have g110 : -2147483648 ≤ (H.1 1826 31) ∧ (H.1 1826 31) ≤ 2147483647 := hrg0.1 1826 13 31 _ .int rfl rfl
                        have g111 : -2147483648 ≤ (H.1 1826 1) ∧ (H.1 1826 1) ≤ 2147483647 := hrg0.1 1826 13 1 _ .int rfl rfl
                        exact ⟨⟨(-1), rfl, by omega, by omega⟩, (fr_o (fr_o (fr_o (fr_rf _ _ _) (by decide)) (by decide)) (by decide)), (by omega : (H.1 1826 30) ≤ (H.1 1826 30) ∧ (H.1 1826 30) ≤ (H.1 1826 29)), (by omega : 0 ≤ (5 : Int) ∧ (5 : Int) ≤ 5), (by omega : 0 ≤ (H.1 1826 32) ∧ (H.1 1826 32) ≤ 1000), (by omega : (5 : Int) = 0 → (H.1 1826 31) = 0 ∨ (H.1 1826 30) < (H.1 1826 30)), (by omega : ((H.1 1826 44) ≠ 2 → (H.1 1826 39) = (H.1 1826 39)) ∧ (H.1 1826 39) ≤ (H.1 1826 39)), (fun (q : (5 : Int) = 0) => absurd q (by omega))⟩
                      · refine h_cv (i := 344) (j := 168) (b := 1826) (M' := mt_168) (xs := []) (rest := []) rfl rfl rfl rfl rfl rfl (Nat.le_of_ble_eq_true rfl) (Nat.le_of_ble_eq_true rfl) (by omega) (m_countA (by omega) (by omega : (H.1 1826 35) = 0) (by omega : 0 ≤ (H.1 1826 40) ∧ (H.1 1826 40) ≤ 1000) (by omega : (H.1 1826 40) ≠ 40)) ?_
                        rintro _ _ ⟨rfl, rfl⟩
                        refine h_run 0 (pc' := 228) (l' := [(0, .inr (.inr 1826)), (1, .inl t), (2, .inl h), (3, .inl (k3 : Int)), (4, .inl (k7 : Int))]) (st' := []) rfl ?_
                        refine h_run 1 (pc' := 229) (l' := [(0, .inr (.inr 1826)), (1, .inl t), (2, .inl h), (3, .inl (k3 : Int)), (4, .inl (k7 : Int))]) (st' := [.inr (.inr 1826)]) rfl ?_
                        refine h_cv (i := 293) (j := 158) (b := 1826) (M' := mt_158) (xs := []) (rest := []) rfl rfl rfl rfl rfl rfl (Nat.le_of_ble_eq_true rfl) (Nat.le_of_ble_eq_true rfl) (by omega) (m_good1 (by omega) (by omega : (H.1 1826 35) = 0)) ?_
                        rintro _ _ ⟨rfl, rfl⟩
                        refine h_run 0 (pc' := 232) (l' := [(0, .inr (.inr 1826)), (1, .inl t), (2, .inl h), (3, .inl (k3 : Int)), (4, .inl (k7 : Int))]) (st' := [.inl 1]) rfl ?_
                        refine h_zne (off := 5) (t := 237) rfl rfl (by decide) (fun _ => ?_) (fun c => absurd c (by decide))
                        refine h_run 2 (pc' := 240) (l' := [(0, .inr (.inr 1826)), (1, .inl t), (2, .inl h), (3, .inl (k3 : Int)), (4, .inl (k7 : Int))]) (st' := [.inl (-1), .inl (k7 : Int)]) rfl ?_
                        refine h_ine (off := 11) (t := 251) rfl rfl (by omega) (by decide) (fun c112 => ?_) (fun c112 => ?_)
                        · refine h_run 6 (pc' := 262) (l' := [(0, .inr (.inr 1826)), (1, .inl t), (2, .inl h), (3, .inl (k3 : Int)), (4, .inl (k7 : Int))]) (st' := [.inl (1000 + (k7 : Int)), .inr (.inr 1826)]) rfl ?_
                          have g113 : -2147483648 ≤ (H.1 1826 43) ∧ (H.1 1826 43) ≤ 2147483647 := hrg0.1 1826 13 43 _ .int rfl rfl
                          refine h_cv (i := 350) (j := 169) (b := 1826) (M' := mt_169) (xs := [.inl (1000 + (k7 : Int))]) (rest := []) rfl rfl rfl rfl rfl rfl (Nat.le_of_ble_eq_true rfl) (Nat.le_of_ble_eq_true rfl) (by omega) (m_put1 (by omega) (by omega : (H.1 1826 35) = 0) (by omega : 0 ≤ (H.1 1826 43) ∧ (H.1 1826 43) ≤ 47) (by omega)) ?_
                          rintro _ _ ⟨rfl, rfl⟩
                          refine h_run 0 (pc' := 265) (l' := [(0, .inr (.inr 1826)), (1, .inl t), (2, .inl h), (3, .inl (k3 : Int)), (4, .inl (k7 : Int))]) (st' := []) rfl ?_
                          refine h_run 1 (pc' := 266) (l' := [(0, .inr (.inr 1826)), (1, .inl t), (2, .inl h), (3, .inl (k3 : Int)), (4, .inl (k7 : Int))]) (st' := [.inr (.inr 1826)]) rfl ?_
                          have g114 : -2147483648 ≤ (H.1 1826 30) ∧ (H.1 1826 30) ≤ 2147483647 := hrg0.1 1826 13 30 _ .int rfl rfl
                          have g115 : -2147483648 ≤ (H.1 1826 29) ∧ (H.1 1826 29) ≤ 2147483647 := hrg0.1 1826 13 29 _ .int rfl rfl
                          have g116 : -2147483648 ≤ (H.1 1826 32) ∧ (H.1 1826 32) ≤ 2147483647 := hrg0.1 1826 13 32 _ .int rfl rfl
                          refine h_cv (i := 297) (j := 165) (b := 1826) (M' := mt_165) (xs := []) (rest := []) rfl rfl rfl rfl rfl rfl (Nat.le_of_ble_eq_true rfl) (Nat.le_of_ble_eq_true rfl) (by omega) (m_next (by omega) (by omega : 0 ≤ (H.1 1826 30) ∧ (H.1 1826 30) ≤ (H.1 1826 29) ∧ (H.1 1826 29) ≤ 1000) (by omega : 0 ≤ (H.1 1826 35) ∧ (H.1 1826 35) ≤ 5) (by omega : 0 ≤ (H.1 1826 32) ∧ (H.1 1826 32) ≤ 1000)) ?_
                          rintro _ H117 ⟨rfl, hx117f, hx117a, hx117b, hx117c, -, hx117e, hx117g⟩
                          refine h_rng (fun hrg118 => ?_)
                          have hf119 : fr [30, 31, 32, 33, 35, 36, 39, 40, 41, 43, 47] [1849, 1850, 1851, 1852, 1853, 1854] H H117 := fr_t (fr_o (fr_a (fr_o (fr_rf _ _ _) (by decide)) (by decide)) (by decide)) hx117f (by decide) (by decide)
                          replace hx117a : (H.1 1826 30) ≤ (H117.1 1826 30) := hx117a
                          replace hx117b : (H117.1 1826 30) ≤ (H.1 1826 29) := hx117b
                          replace hx117g : (H117.1 1826 35) = 0 → ((H117.1 1826 31) = 0 ∨ (H.1 1826 30) < (H117.1 1826 30)) := hx117g
                          refine h_run 0 (pc' := 269) (l' := [(0, .inr (.inr 1826)), (1, .inl t), (2, .inl h), (3, .inl (k3 : Int)), (4, .inl (k7 : Int))]) (st' := []) rfl ?_
                          refine h_run 1 (pc' := 270) (l' := [(0, .inr (.inr 1826)), (1, .inl t), (2, .inl h), (3, .inl (k3 : Int)), (4, .inl (k7 : Int))]) (st' := [.inl t]) rfl ?_
                          refine h_reti (x := t) rfl rfl ?_
                          have g120 : -2147483648 ≤ (H117.1 1826 30) ∧ (H117.1 1826 30) ≤ 2147483647 := hrg118.1 1826 13 30 _ .int rfl rfl
                          have g121 : -2147483648 ≤ (H117.1 1826 35) ∧ (H117.1 1826 35) ≤ 2147483647 := hrg118.1 1826 13 35 _ .int rfl rfl
                          have g122 : -2147483648 ≤ (H117.1 1826 32) ∧ (H117.1 1826 32) ≤ 2147483647 := hrg118.1 1826 13 32 _ .int rfl rfl
                          have g123 : -2147483648 ≤ (H117.1 1826 29) ∧ (H117.1 1826 29) ≤ 2147483647 := hrg118.1 1826 13 29 _ .int rfl rfl
                          have e124 : (H117.1 1826 29) = (H.1 1826 29) := hx117f.2.2 29 (by decide)
                          have g125 : -2147483648 ≤ (H117.1 1826 31) ∧ (H117.1 1826 31) ≤ 2147483647 := hrg118.1 1826 13 31 _ .int rfl rfl
                          have g126 : -2147483648 ≤ (H117.1 1826 1) ∧ (H117.1 1826 1) ≤ 2147483647 := hrg118.1 1826 13 1 _ .int rfl rfl
                          have e127 : (H117.1 1826 1) = (H.1 1826 1) := hx117f.2.2 1 (by decide)
                          have g128 : -2147483648 ≤ (H117.1 1826 39) ∧ (H117.1 1826 39) ≤ 2147483647 := hrg118.1 1826 13 39 _ .int rfl rfl
                          have e129 : (H117.1 1826 39) = (H.1 1826 39) := hx117f.2.2 39 (by decide)
                          have g130 : -2147483648 ≤ (H117.1 1826 44) ∧ (H117.1 1826 44) ≤ 2147483647 := hrg118.1 1826 13 44 _ .int rfl rfl
                          have e131 : (H117.1 1826 44) = (H.1 1826 44) := hx117f.2.2 44 (by decide)
                          exact ⟨⟨t, rfl, by omega, by omega⟩, hf119, (by omega : (H.1 1826 30) ≤ (H117.1 1826 30) ∧ (H117.1 1826 30) ≤ (H.1 1826 29)), (by omega : 0 ≤ (H117.1 1826 35) ∧ (H117.1 1826 35) ≤ 5), (by omega : 0 ≤ (H117.1 1826 32) ∧ (H117.1 1826 32) ≤ 1000), (by omega : (H117.1 1826 35) = 0 → (H117.1 1826 31) = 0 ∨ (H.1 1826 30) < (H117.1 1826 30)), (by omega : ((H.1 1826 44) ≠ 2 → (H117.1 1826 39) = (H.1 1826 39)) ∧ (H.1 1826 39) ≤ (H117.1 1826 39)), fun _ => TT_sign (s := (1000 + (k7 : Int))) (q := 0) hP hTT ⟨⟨(hx117f.2.2 1 (by decide)), (hx117f.2.2 3 (by decide)), (hx117f.2.2 8 (by decide)), (hx117f.2.2 44 (by decide))⟩, (hx117f.2.1 1833 (by decide) (by decide)), (hx117f.2.1 1830 (by decide) (by decide))⟩ (by show m_sg (H.1 1826 3) (H.1 1826 8) (H117.1 1826 39) (1000 + (k7 : Int)); rw [show (H117.1 1826 39) = _ from (hx117f.2.2 39 (by decide))]; exact Or.inr (Or.inr (Or.inr (by show 1000 ≤ (1000 + (k7 : Int)) ∧ (1000 + (k7 : Int)) < 1000 + (H.1 1826 39); omega)))) (ma_0 (by omega)) (by omega) (by omega) ⟨(hx117f.2.2 40 (by decide)), (hx117f.2.2 43 (by decide)), (hx117f.2.2 41 (by decide))⟩ (hx117f.2.1 1851 (by decide) (by decide)) (Or.inl ⟨(hx117f.2.2 39 (by decide)), (hx117f.2.1 1850 (by decide) (by decide))⟩) (Or.inl ⟨rfl, (hx117f.2.2 47 (by decide)), (hx117f.2.1 1852 (by decide) (by decide)), (hx117f.2.1 1853 (by decide) (by decide)), (hx117f.2.1 1854 (by decide) (by decide))⟩)⟩
                        · exfalso
                          omega
                    · exfalso
                      omega
                  · refine h_run 2 (pc' := 194) (l' := [(0, .inr (.inr 1826)), (1, .inl t), (2, .inl h), (3, .inl (k3 : Int)), (4, .inl (k7 : Int))]) (st' := [.inl 4, .inr (.inr 1826)]) rfl ?_
                    refine h_cv (i := 278) (j := 159) (b := 1826) (M' := mt_159) (xs := [.inl 4]) (rest := []) rfl rfl rfl rfl rfl rfl (Nat.le_of_ble_eq_true rfl) (Nat.le_of_ble_eq_true rfl) (by omega) (m_bad0 (by omega) (by omega) (by omega : (H.1 1826 35) = 0)) ?_
                    rintro _ _ ⟨rfl, rfl⟩
                    refine h_run 0 (pc' := 197) (l' := [(0, .inr (.inr 1826)), (1, .inl t), (2, .inl h), (3, .inl (k3 : Int)), (4, .inl (k7 : Int))]) (st' := []) rfl ?_
                    refine h_run 1 (pc' := 198) (l' := [(0, .inr (.inr 1826)), (1, .inl t), (2, .inl h), (3, .inl (k3 : Int)), (4, .inl (k7 : Int))]) (st' := [.inr (.inr 1826)]) rfl ?_
                    refine h_cv (i := 293) (j := 158) (b := 1826) (M' := mt_158) (xs := []) (rest := []) rfl rfl rfl rfl rfl rfl (Nat.le_of_ble_eq_true rfl) (Nat.le_of_ble_eq_true rfl) (by omega) (m_good0 (by omega) (by omega : (4 : Int) ≠ 0)) ?_
                    rintro _ _ ⟨rfl, rfl⟩
                    refine h_run 0 (pc' := 201) (l' := [(0, .inr (.inr 1826)), (1, .inl t), (2, .inl h), (3, .inl (k3 : Int)), (4, .inl (k7 : Int))]) (st' := [.inl 0]) rfl ?_
                    refine h_zeq (off := 23) (t := 224) rfl rfl (by decide) (fun _ => ?_) (fun c => absurd c (by decide))
                    refine h_run 1 (pc' := 225) (l' := [(0, .inr (.inr 1826)), (1, .inl t), (2, .inl h), (3, .inl (k3 : Int)), (4, .inl (k7 : Int))]) (st' := [.inr (.inr 1826)]) rfl ?_
                    have g132 : -2147483648 ≤ (H.1 1826 40) ∧ (H.1 1826 40) ≤ 2147483647 := hrg0.1 1826 13 40 _ .int rfl rfl
                    refine h_cv (i := 344) (j := 168) (b := 1826) (M' := mt_168) (xs := []) (rest := []) rfl rfl rfl rfl rfl rfl (Nat.le_of_ble_eq_true rfl) (Nat.le_of_ble_eq_true rfl) (by omega) (m_countC (by omega) (by omega : (4 : Int) ≠ 0) (by omega : 0 ≤ (H.1 1826 40) ∧ (H.1 1826 40) ≤ 1000)) ?_
                    rintro _ _ ⟨rfl, rfl⟩
                    refine h_run 0 (pc' := 228) (l' := [(0, .inr (.inr 1826)), (1, .inl t), (2, .inl h), (3, .inl (k3 : Int)), (4, .inl (k7 : Int))]) (st' := []) rfl ?_
                    refine h_run 1 (pc' := 229) (l' := [(0, .inr (.inr 1826)), (1, .inl t), (2, .inl h), (3, .inl (k3 : Int)), (4, .inl (k7 : Int))]) (st' := [.inr (.inr 1826)]) rfl ?_
                    refine h_cv (i := 293) (j := 158) (b := 1826) (M' := mt_158) (xs := []) (rest := []) rfl rfl rfl rfl rfl rfl (Nat.le_of_ble_eq_true rfl) (Nat.le_of_ble_eq_true rfl) (by omega) (m_good0 (by omega) (by omega : (4 : Int) ≠ 0)) ?_
                    rintro _ _ ⟨rfl, rfl⟩
                    refine h_run 0 (pc' := 232) (l' := [(0, .inr (.inr 1826)), (1, .inl t), (2, .inl h), (3, .inl (k3 : Int)), (4, .inl (k7 : Int))]) (st' := [.inl 0]) rfl ?_
                    refine h_zne (off := 5) (t := 237) rfl rfl (by decide) (fun c => absurd c (by decide)) (fun _ => ?_)
                    refine h_run 1 (pc' := 236) (l' := [(0, .inr (.inr 1826)), (1, .inl t), (2, .inl h), (3, .inl (k3 : Int)), (4, .inl (k7 : Int))]) (st' := [.inl (-1)]) rfl ?_
                    refine h_reti (x := (-1)) rfl rfl ?_
                    have g133 : -2147483648 ≤ (H.1 1826 30) ∧ (H.1 1826 30) ≤ 2147483647 := hrg0.1 1826 13 30 _ .int rfl rfl
                    have g134 : -2147483648 ≤ (H.1 1826 32) ∧ (H.1 1826 32) ≤ 2147483647 := hrg0.1 1826 13 32 _ .int rfl rfl
                    have g135 : -2147483648 ≤ (H.1 1826 29) ∧ (H.1 1826 29) ≤ 2147483647 := hrg0.1 1826 13 29 _ .int rfl rfl
                    have g136 : -2147483648 ≤ (H.1 1826 31) ∧ (H.1 1826 31) ≤ 2147483647 := hrg0.1 1826 13 31 _ .int rfl rfl
                    have g137 : -2147483648 ≤ (H.1 1826 1) ∧ (H.1 1826 1) ≤ 2147483647 := hrg0.1 1826 13 1 _ .int rfl rfl
                    exact ⟨⟨(-1), rfl, by omega, by omega⟩, (fr_o (fr_o (fr_o (fr_rf _ _ _) (by decide)) (by decide)) (by decide)), (by omega : (H.1 1826 30) ≤ (H.1 1826 30) ∧ (H.1 1826 30) ≤ (H.1 1826 29)), (by omega : 0 ≤ (4 : Int) ∧ (4 : Int) ≤ 5), (by omega : 0 ≤ (H.1 1826 32) ∧ (H.1 1826 32) ≤ 1000), (by omega : (4 : Int) = 0 → (H.1 1826 31) = 0 ∨ (H.1 1826 30) < (H.1 1826 30)), (by omega : ((H.1 1826 44) ≠ 2 → (H.1 1826 39) = (H.1 1826 39)) ∧ (H.1 1826 39) ≤ (H.1 1826 39)), (fun (q : (4 : Int) = 0) => absurd q (by omega))⟩
              · refine h_run 2 (pc' := 165) (l' := [(0, .inr (.inr 1826)), (1, .inl t), (2, .inl h), (3, .inl (k3 : Int)), (4, .inl (k7 : Int))]) (st' := [.inl 2, .inr (.inr 1826)]) rfl ?_
                refine h_cv (i := 278) (j := 159) (b := 1826) (M' := mt_159) (xs := [.inl 2]) (rest := []) rfl rfl rfl rfl rfl rfl (Nat.le_of_ble_eq_true rfl) (Nat.le_of_ble_eq_true rfl) (by omega) (m_bad0 (by omega) (by omega) (by omega : (H.1 1826 35) = 0)) ?_
                rintro _ _ ⟨rfl, rfl⟩
                refine h_run 0 (pc' := 168) (l' := [(0, .inr (.inr 1826)), (1, .inl t), (2, .inl h), (3, .inl (k3 : Int)), (4, .inl (k7 : Int))]) (st' := []) rfl ?_
                refine h_run 1 (pc' := 169) (l' := [(0, .inr (.inr 1826)), (1, .inl t), (2, .inl h), (3, .inl (k3 : Int)), (4, .inl (k7 : Int))]) (st' := [.inr (.inr 1826)]) rfl ?_
                refine h_cv (i := 293) (j := 158) (b := 1826) (M' := mt_158) (xs := []) (rest := []) rfl rfl rfl rfl rfl rfl (Nat.le_of_ble_eq_true rfl) (Nat.le_of_ble_eq_true rfl) (by omega) (m_good0 (by omega) (by omega : (2 : Int) ≠ 0)) ?_
                rintro _ _ ⟨rfl, rfl⟩
                refine h_run 0 (pc' := 172) (l' := [(0, .inr (.inr 1826)), (1, .inl t), (2, .inl h), (3, .inl (k3 : Int)), (4, .inl (k7 : Int))]) (st' := [.inl 0]) rfl ?_
                refine h_zeq (off := 25) (t := 197) rfl rfl (by decide) (fun _ => ?_) (fun c => absurd c (by decide))
                refine h_run 1 (pc' := 198) (l' := [(0, .inr (.inr 1826)), (1, .inl t), (2, .inl h), (3, .inl (k3 : Int)), (4, .inl (k7 : Int))]) (st' := [.inr (.inr 1826)]) rfl ?_
                refine h_cv (i := 293) (j := 158) (b := 1826) (M' := mt_158) (xs := []) (rest := []) rfl rfl rfl rfl rfl rfl (Nat.le_of_ble_eq_true rfl) (Nat.le_of_ble_eq_true rfl) (by omega) (m_good0 (by omega) (by omega : (2 : Int) ≠ 0)) ?_
                rintro _ _ ⟨rfl, rfl⟩
                refine h_run 0 (pc' := 201) (l' := [(0, .inr (.inr 1826)), (1, .inl t), (2, .inl h), (3, .inl (k3 : Int)), (4, .inl (k7 : Int))]) (st' := [.inl 0]) rfl ?_
                refine h_zeq (off := 23) (t := 224) rfl rfl (by decide) (fun _ => ?_) (fun c => absurd c (by decide))
                refine h_run 1 (pc' := 225) (l' := [(0, .inr (.inr 1826)), (1, .inl t), (2, .inl h), (3, .inl (k3 : Int)), (4, .inl (k7 : Int))]) (st' := [.inr (.inr 1826)]) rfl ?_
                have g138 : -2147483648 ≤ (H.1 1826 40) ∧ (H.1 1826 40) ≤ 2147483647 := hrg0.1 1826 13 40 _ .int rfl rfl
                refine h_cv (i := 344) (j := 168) (b := 1826) (M' := mt_168) (xs := []) (rest := []) rfl rfl rfl rfl rfl rfl (Nat.le_of_ble_eq_true rfl) (Nat.le_of_ble_eq_true rfl) (by omega) (m_countC (by omega) (by omega : (2 : Int) ≠ 0) (by omega : 0 ≤ (H.1 1826 40) ∧ (H.1 1826 40) ≤ 1000)) ?_
                rintro _ _ ⟨rfl, rfl⟩
                refine h_run 0 (pc' := 228) (l' := [(0, .inr (.inr 1826)), (1, .inl t), (2, .inl h), (3, .inl (k3 : Int)), (4, .inl (k7 : Int))]) (st' := []) rfl ?_
                refine h_run 1 (pc' := 229) (l' := [(0, .inr (.inr 1826)), (1, .inl t), (2, .inl h), (3, .inl (k3 : Int)), (4, .inl (k7 : Int))]) (st' := [.inr (.inr 1826)]) rfl ?_
                refine h_cv (i := 293) (j := 158) (b := 1826) (M' := mt_158) (xs := []) (rest := []) rfl rfl rfl rfl rfl rfl (Nat.le_of_ble_eq_true rfl) (Nat.le_of_ble_eq_true rfl) (by omega) (m_good0 (by omega) (by omega : (2 : Int) ≠ 0)) ?_
                rintro _ _ ⟨rfl, rfl⟩
                refine h_run 0 (pc' := 232) (l' := [(0, .inr (.inr 1826)), (1, .inl t), (2, .inl h), (3, .inl (k3 : Int)), (4, .inl (k7 : Int))]) (st' := [.inl 0]) rfl ?_
                refine h_zne (off := 5) (t := 237) rfl rfl (by decide) (fun c => absurd c (by decide)) (fun _ => ?_)
                refine h_run 1 (pc' := 236) (l' := [(0, .inr (.inr 1826)), (1, .inl t), (2, .inl h), (3, .inl (k3 : Int)), (4, .inl (k7 : Int))]) (st' := [.inl (-1)]) rfl ?_
                refine h_reti (x := (-1)) rfl rfl ?_
                have g139 : -2147483648 ≤ (H.1 1826 30) ∧ (H.1 1826 30) ≤ 2147483647 := hrg0.1 1826 13 30 _ .int rfl rfl
                have g140 : -2147483648 ≤ (H.1 1826 32) ∧ (H.1 1826 32) ≤ 2147483647 := hrg0.1 1826 13 32 _ .int rfl rfl
                have g141 : -2147483648 ≤ (H.1 1826 29) ∧ (H.1 1826 29) ≤ 2147483647 := hrg0.1 1826 13 29 _ .int rfl rfl
                have g142 : -2147483648 ≤ (H.1 1826 31) ∧ (H.1 1826 31) ≤ 2147483647 := hrg0.1 1826 13 31 _ .int rfl rfl
                have g143 : -2147483648 ≤ (H.1 1826 1) ∧ (H.1 1826 1) ≤ 2147483647 := hrg0.1 1826 13 1 _ .int rfl rfl
                exact ⟨⟨(-1), rfl, by omega, by omega⟩, (fr_o (fr_o (fr_o (fr_rf _ _ _) (by decide)) (by decide)) (by decide)), (by omega : (H.1 1826 30) ≤ (H.1 1826 30) ∧ (H.1 1826 30) ≤ (H.1 1826 29)), (by omega : 0 ≤ (2 : Int) ∧ (2 : Int) ≤ 5), (by omega : 0 ≤ (H.1 1826 32) ∧ (H.1 1826 32) ≤ 1000), (by omega : (2 : Int) = 0 → (H.1 1826 31) = 0 ∨ (H.1 1826 30) < (H.1 1826 30)), (by omega : ((H.1 1826 44) ≠ 2 → (H.1 1826 39) = (H.1 1826 39)) ∧ (H.1 1826 39) ≤ (H.1 1826 39)), (fun (q : (2 : Int) = 0) => absurd q (by omega))⟩
            · refine h_run 2 (pc' := 146) (l' := [(0, .inr (.inr 1826)), (1, .inl t), (2, .inl h), (3, .inl (k3 : Int)), (4, .inl (k7 : Int))]) (st' := [.inl 3, .inr (.inr 1826)]) rfl ?_
              have g144 : -2147483648 ≤ (H.1 1826 35) ∧ (H.1 1826 35) ≤ 2147483647 := hrg0.1 1826 13 35 _ .int rfl rfl
              refine h_cv (i := 278) (j := 159) (b := 1826) (M' := mt_159) (xs := [.inl 3]) (rest := []) rfl rfl rfl rfl rfl rfl (Nat.le_of_ble_eq_true rfl) (Nat.le_of_ble_eq_true rfl) (by omega) (m_bad0 (by omega) (by omega) (by omega : (H.1 1826 35) = 0)) ?_
              rintro _ _ ⟨rfl, rfl⟩
              refine h_run 0 (pc' := 149) (l' := [(0, .inr (.inr 1826)), (1, .inl t), (2, .inl h), (3, .inl (k3 : Int)), (4, .inl (k7 : Int))]) (st' := []) rfl ?_
              refine h_run 1 (pc' := 150) (l' := [(0, .inr (.inr 1826)), (1, .inl t), (2, .inl h), (3, .inl (k3 : Int)), (4, .inl (k7 : Int))]) (st' := [.inl (-1)]) rfl ?_
              refine h_reti (x := (-1)) rfl rfl ?_
              have g145 : -2147483648 ≤ (H.1 1826 30) ∧ (H.1 1826 30) ≤ 2147483647 := hrg0.1 1826 13 30 _ .int rfl rfl
              have g146 : -2147483648 ≤ (H.1 1826 32) ∧ (H.1 1826 32) ≤ 2147483647 := hrg0.1 1826 13 32 _ .int rfl rfl
              have g147 : -2147483648 ≤ (H.1 1826 29) ∧ (H.1 1826 29) ≤ 2147483647 := hrg0.1 1826 13 29 _ .int rfl rfl
              have g148 : -2147483648 ≤ (H.1 1826 31) ∧ (H.1 1826 31) ≤ 2147483647 := hrg0.1 1826 13 31 _ .int rfl rfl
              have g149 : -2147483648 ≤ (H.1 1826 1) ∧ (H.1 1826 1) ≤ 2147483647 := hrg0.1 1826 13 1 _ .int rfl rfl
              exact ⟨⟨(-1), rfl, by omega, by omega⟩, (fr_o (fr_o (fr_rf _ _ _) (by decide)) (by decide)), (by omega : (H.1 1826 30) ≤ (H.1 1826 30) ∧ (H.1 1826 30) ≤ (H.1 1826 29)), (by omega : 0 ≤ (3 : Int) ∧ (3 : Int) ≤ 5), (by omega : 0 ≤ (H.1 1826 32) ∧ (H.1 1826 32) ≤ 1000), (by omega : (3 : Int) = 0 → (H.1 1826 31) = 0 ∨ (H.1 1826 30) < (H.1 1826 30)), (by omega : ((H.1 1826 44) ≠ 2 → (H.1 1826 39) = (H.1 1826 39)) ∧ (H.1 1826 39) ≤ (H.1 1826 39)), (fun (q : (3 : Int) = 0) => absurd q (by omega))⟩
      · refine h_run 0 (pc' := 120) (l' := [(0, .inr (.inr 1826)), (1, .inl t), (2, .inl h), (3, .inl (k3 : Int))]) (st' := [.inl (-1)]) rfl ?_
        refine h_run 3 (pc' := 126) (l' := [(0, .inr (.inr 1826)), (1, .inl t), (2, .inl h), (3, .inl (k3 : Int)), (4, .inl (-1))]) (st' := [.inl (H.1 1826 44)]) rfl ?_
        have g150 : -2147483648 ≤ (H.1 1826 44) ∧ (H.1 1826 44) ≤ 2147483647 := hrg0.1 1826 13 44 _ .int rfl rfl
        refine h_run 1 (pc' := 127) (l' := [(0, .inr (.inr 1826)), (1, .inl t), (2, .inl h), (3, .inl (k3 : Int)), (4, .inl (-1))]) (st' := [.inl 3, .inl (H.1 1826 44)]) rfl ?_
        refine h_ieq (off := 17) (t := 144) rfl rfl (by omega) (by decide) (fun c151 => ?_) (fun c151 => ?_)
        · refine h_run 2 (pc' := 146) (l' := [(0, .inr (.inr 1826)), (1, .inl t), (2, .inl h), (3, .inl (k3 : Int)), (4, .inl (-1))]) (st' := [.inl 3, .inr (.inr 1826)]) rfl ?_
          have g152 : -2147483648 ≤ (H.1 1826 35) ∧ (H.1 1826 35) ≤ 2147483647 := hrg0.1 1826 13 35 _ .int rfl rfl
          refine h_cv (i := 278) (j := 159) (b := 1826) (M' := mt_159) (xs := [.inl 3]) (rest := []) rfl rfl rfl rfl rfl rfl (Nat.le_of_ble_eq_true rfl) (Nat.le_of_ble_eq_true rfl) (by omega) (m_bad0 (by omega) (by omega) (by omega : (H.1 1826 35) = 0)) ?_
          rintro _ _ ⟨rfl, rfl⟩
          refine h_run 0 (pc' := 149) (l' := [(0, .inr (.inr 1826)), (1, .inl t), (2, .inl h), (3, .inl (k3 : Int)), (4, .inl (-1))]) (st' := []) rfl ?_
          refine h_run 1 (pc' := 150) (l' := [(0, .inr (.inr 1826)), (1, .inl t), (2, .inl h), (3, .inl (k3 : Int)), (4, .inl (-1))]) (st' := [.inl (-1)]) rfl ?_
          refine h_reti (x := (-1)) rfl rfl ?_
          have g153 : -2147483648 ≤ (H.1 1826 30) ∧ (H.1 1826 30) ≤ 2147483647 := hrg0.1 1826 13 30 _ .int rfl rfl
          have g154 : -2147483648 ≤ (H.1 1826 32) ∧ (H.1 1826 32) ≤ 2147483647 := hrg0.1 1826 13 32 _ .int rfl rfl
          have g155 : -2147483648 ≤ (H.1 1826 29) ∧ (H.1 1826 29) ≤ 2147483647 := hrg0.1 1826 13 29 _ .int rfl rfl
          have g156 : -2147483648 ≤ (H.1 1826 31) ∧ (H.1 1826 31) ≤ 2147483647 := hrg0.1 1826 13 31 _ .int rfl rfl
          have g157 : -2147483648 ≤ (H.1 1826 1) ∧ (H.1 1826 1) ≤ 2147483647 := hrg0.1 1826 13 1 _ .int rfl rfl
          exact ⟨⟨(-1), rfl, by omega, by omega⟩, (fr_o (fr_o (fr_rf _ _ _) (by decide)) (by decide)), (by omega : (H.1 1826 30) ≤ (H.1 1826 30) ∧ (H.1 1826 30) ≤ (H.1 1826 29)), (by omega : 0 ≤ (3 : Int) ∧ (3 : Int) ≤ 5), (by omega : 0 ≤ (H.1 1826 32) ∧ (H.1 1826 32) ≤ 1000), (by omega : (3 : Int) = 0 → (H.1 1826 31) = 0 ∨ (H.1 1826 30) < (H.1 1826 30)), (by omega : ((H.1 1826 44) ≠ 2 → (H.1 1826 39) = (H.1 1826 39)) ∧ (H.1 1826 39) ≤ (H.1 1826 39)), (fun (q : (3 : Int) = 0) => absurd q (by omega))⟩
        · refine h_run 2 (pc' := 134) (l' := [(0, .inr (.inr 1826)), (1, .inl t), (2, .inl h), (3, .inl (k3 : Int)), (4, .inl (-1))]) (st' := [.inl (H.1 1826 44)]) rfl ?_
          refine h_run 1 (pc' := 135) (l' := [(0, .inr (.inr 1826)), (1, .inl t), (2, .inl h), (3, .inl (k3 : Int)), (4, .inl (-1))]) (st' := [.inl 1, .inl (H.1 1826 44)]) rfl ?_
          refine h_ine (off := 16) (t := 151) rfl rfl (by omega) (by decide) (fun c158 => ?_) (fun c158 => ?_)
          · refine h_run 1 (pc' := 152) (l' := [(0, .inr (.inr 1826)), (1, .inl t), (2, .inl h), (3, .inl (k3 : Int)), (4, .inl (-1))]) (st' := [.inr (.inr 1826)]) rfl ?_
            have g159 : -2147483648 ≤ (H.1 1826 35) ∧ (H.1 1826 35) ≤ 2147483647 := hrg0.1 1826 13 35 _ .int rfl rfl
            refine h_cv (i := 293) (j := 158) (b := 1826) (M' := mt_158) (xs := []) (rest := []) rfl rfl rfl rfl rfl rfl (Nat.le_of_ble_eq_true rfl) (Nat.le_of_ble_eq_true rfl) (by omega) (m_good1 (by omega) (by omega : (H.1 1826 35) = 0)) ?_
            rintro _ _ ⟨rfl, rfl⟩
            refine h_run 0 (pc' := 155) (l' := [(0, .inr (.inr 1826)), (1, .inl t), (2, .inl h), (3, .inl (k3 : Int)), (4, .inl (-1))]) (st' := [.inl 1]) rfl ?_
            refine h_zeq (off := 13) (t := 168) rfl rfl (by decide) (fun c => absurd c (by decide)) (fun _ => ?_)
            refine h_run 2 (pc' := 160) (l' := [(0, .inr (.inr 1826)), (1, .inl t), (2, .inl h), (3, .inl (k3 : Int)), (4, .inl (-1))]) (st' := [.inl (-1), .inl t]) rfl ?_
            refine h_ine (off := 8) (t := 168) rfl rfl (by omega) (by decide) (fun c160 => ?_) (fun c160 => ?_)
            · refine h_run 1 (pc' := 169) (l' := [(0, .inr (.inr 1826)), (1, .inl t), (2, .inl h), (3, .inl (k3 : Int)), (4, .inl (-1))]) (st' := [.inr (.inr 1826)]) rfl ?_
              refine h_cv (i := 293) (j := 158) (b := 1826) (M' := mt_158) (xs := []) (rest := []) rfl rfl rfl rfl rfl rfl (Nat.le_of_ble_eq_true rfl) (Nat.le_of_ble_eq_true rfl) (by omega) (m_good1 (by omega) (by omega : (H.1 1826 35) = 0)) ?_
              rintro _ _ ⟨rfl, rfl⟩
              refine h_run 0 (pc' := 172) (l' := [(0, .inr (.inr 1826)), (1, .inl t), (2, .inl h), (3, .inl (k3 : Int)), (4, .inl (-1))]) (st' := [.inl 1]) rfl ?_
              refine h_zeq (off := 25) (t := 197) rfl rfl (by decide) (fun c => absurd c (by decide)) (fun _ => ?_)
              refine h_run 2 (pc' := 178) (l' := [(0, .inr (.inr 1826)), (1, .inl t), (2, .inl h), (3, .inl (k3 : Int)), (4, .inl (-1))]) (st' := [.inl (-1), .inl (-1)]) rfl ?_
              refine h_ieq (off := 19) (t := 197) rfl rfl (by decide) (by decide) (fun _ => ?_) (fun c => absurd c (by decide))
              refine h_run 1 (pc' := 198) (l' := [(0, .inr (.inr 1826)), (1, .inl t), (2, .inl h), (3, .inl (k3 : Int)), (4, .inl (-1))]) (st' := [.inr (.inr 1826)]) rfl ?_
              refine h_cv (i := 293) (j := 158) (b := 1826) (M' := mt_158) (xs := []) (rest := []) rfl rfl rfl rfl rfl rfl (Nat.le_of_ble_eq_true rfl) (Nat.le_of_ble_eq_true rfl) (by omega) (m_good1 (by omega) (by omega : (H.1 1826 35) = 0)) ?_
              rintro _ _ ⟨rfl, rfl⟩
              refine h_run 0 (pc' := 201) (l' := [(0, .inr (.inr 1826)), (1, .inl t), (2, .inl h), (3, .inl (k3 : Int)), (4, .inl (-1))]) (st' := [.inl 1]) rfl ?_
              refine h_zeq (off := 23) (t := 224) rfl rfl (by decide) (fun c => absurd c (by decide)) (fun _ => ?_)
              refine h_run 2 (pc' := 207) (l' := [(0, .inr (.inr 1826)), (1, .inl t), (2, .inl h), (3, .inl (k3 : Int)), (4, .inl (-1))]) (st' := [.inl (-1), .inl (-1)]) rfl ?_
              refine h_ine (off := 17) (t := 224) rfl rfl (by decide) (by decide) (fun c => absurd c (by decide)) (fun _ => ?_)
              refine h_run 2 (pc' := 214) (l' := [(0, .inr (.inr 1826)), (1, .inl t), (2, .inl h), (3, .inl (k3 : Int)), (4, .inl (-1))]) (st' := [.inl (H.1 1826 39)]) rfl ?_
              refine h_run 1 (pc' := 216) (l' := [(0, .inr (.inr 1826)), (1, .inl t), (2, .inl h), (3, .inl (k3 : Int)), (4, .inl (-1))]) (st' := [.inl 6, .inl (H.1 1826 39)]) rfl ?_
              refine h_ine (off := 8) (t := 224) rfl rfl (by omega) (by decide) (fun c161 => ?_) (fun c161 => ?_)
              · refine h_run 1 (pc' := 225) (l' := [(0, .inr (.inr 1826)), (1, .inl t), (2, .inl h), (3, .inl (k3 : Int)), (4, .inl (-1))]) (st' := [.inr (.inr 1826)]) rfl ?_
                have g162 : -2147483648 ≤ (H.1 1826 40) ∧ (H.1 1826 40) ≤ 2147483647 := hrg0.1 1826 13 40 _ .int rfl rfl
                by_cases b163 : (H.1 1826 40) = 40
                · refine h_cv (i := 344) (j := 168) (b := 1826) (M' := mt_168) (xs := []) (rest := []) rfl rfl rfl rfl rfl rfl (Nat.le_of_ble_eq_true rfl) (Nat.le_of_ble_eq_true rfl) (by omega) (m_countB (by omega) (by omega : (H.1 1826 35) = 0) (by omega : (H.1 1826 40) = 40)) ?_
                  rintro _ _ ⟨rfl, rfl⟩
                  refine h_run 0 (pc' := 228) (l' := [(0, .inr (.inr 1826)), (1, .inl t), (2, .inl h), (3, .inl (k3 : Int)), (4, .inl (-1))]) (st' := []) rfl ?_
                  refine h_run 1 (pc' := 229) (l' := [(0, .inr (.inr 1826)), (1, .inl t), (2, .inl h), (3, .inl (k3 : Int)), (4, .inl (-1))]) (st' := [.inr (.inr 1826)]) rfl ?_
                  refine h_cv (i := 293) (j := 158) (b := 1826) (M' := mt_158) (xs := []) (rest := []) rfl rfl rfl rfl rfl rfl (Nat.le_of_ble_eq_true rfl) (Nat.le_of_ble_eq_true rfl) (by omega) (m_good0 (by omega) (by omega : (5 : Int) ≠ 0)) ?_
                  rintro _ _ ⟨rfl, rfl⟩
                  refine h_run 0 (pc' := 232) (l' := [(0, .inr (.inr 1826)), (1, .inl t), (2, .inl h), (3, .inl (k3 : Int)), (4, .inl (-1))]) (st' := [.inl 0]) rfl ?_
                  refine h_zne (off := 5) (t := 237) rfl rfl (by decide) (fun c => absurd c (by decide)) (fun _ => ?_)
                  refine h_run 1 (pc' := 236) (l' := [(0, .inr (.inr 1826)), (1, .inl t), (2, .inl h), (3, .inl (k3 : Int)), (4, .inl (-1))]) (st' := [.inl (-1)]) rfl ?_
                  refine h_reti (x := (-1)) rfl rfl ?_
                  have g164 : -2147483648 ≤ (H.1 1826 30) ∧ (H.1 1826 30) ≤ 2147483647 := hrg0.1 1826 13 30 _ .int rfl rfl
                  have g165 : -2147483648 ≤ (H.1 1826 32) ∧ (H.1 1826 32) ≤ 2147483647 := hrg0.1 1826 13 32 _ .int rfl rfl
                  have g166 : -2147483648 ≤ (H.1 1826 29) ∧ (H.1 1826 29) ≤ 2147483647 := hrg0.1 1826 13 29 _ .int rfl rfl
                  have g167 : -2147483648 ≤ (H.1 1826 31) ∧ (H.1 1826 31) ≤ 2147483647 := hrg0.1 1826 13 31 _ .int rfl rfl
                  have g168 : -2147483648 ≤ (H.1 1826 1) ∧ (H.1 1826 1) ≤ 2147483647 := hrg0.1 1826 13 1 _ .int rfl rfl
                  exact ⟨⟨(-1), rfl, by omega, by omega⟩, (fr_o (fr_o (fr_o (fr_rf _ _ _) (by decide)) (by decide)) (by decide)), (by omega : (H.1 1826 30) ≤ (H.1 1826 30) ∧ (H.1 1826 30) ≤ (H.1 1826 29)), (by omega : 0 ≤ (5 : Int) ∧ (5 : Int) ≤ 5), (by omega : 0 ≤ (H.1 1826 32) ∧ (H.1 1826 32) ≤ 1000), (by omega : (5 : Int) = 0 → (H.1 1826 31) = 0 ∨ (H.1 1826 30) < (H.1 1826 30)), (by omega : ((H.1 1826 44) ≠ 2 → (H.1 1826 39) = (H.1 1826 39)) ∧ (H.1 1826 39) ≤ (H.1 1826 39)), (fun (q : (5 : Int) = 0) => absurd q (by omega))⟩
                · refine h_cv (i := 344) (j := 168) (b := 1826) (M' := mt_168) (xs := []) (rest := []) rfl rfl rfl rfl rfl rfl (Nat.le_of_ble_eq_true rfl) (Nat.le_of_ble_eq_true rfl) (by omega) (m_countA (by omega) (by omega : (H.1 1826 35) = 0) (by omega : 0 ≤ (H.1 1826 40) ∧ (H.1 1826 40) ≤ 1000) (by omega : (H.1 1826 40) ≠ 40)) ?_
                  rintro _ _ ⟨rfl, rfl⟩
                  refine h_run 0 (pc' := 228) (l' := [(0, .inr (.inr 1826)), (1, .inl t), (2, .inl h), (3, .inl (k3 : Int)), (4, .inl (-1))]) (st' := []) rfl ?_
                  refine h_run 1 (pc' := 229) (l' := [(0, .inr (.inr 1826)), (1, .inl t), (2, .inl h), (3, .inl (k3 : Int)), (4, .inl (-1))]) (st' := [.inr (.inr 1826)]) rfl ?_
                  refine h_cv (i := 293) (j := 158) (b := 1826) (M' := mt_158) (xs := []) (rest := []) rfl rfl rfl rfl rfl rfl (Nat.le_of_ble_eq_true rfl) (Nat.le_of_ble_eq_true rfl) (by omega) (m_good1 (by omega) (by omega : (H.1 1826 35) = 0)) ?_
                  rintro _ _ ⟨rfl, rfl⟩
                  refine h_run 0 (pc' := 232) (l' := [(0, .inr (.inr 1826)), (1, .inl t), (2, .inl h), (3, .inl (k3 : Int)), (4, .inl (-1))]) (st' := [.inl 1]) rfl ?_
                  refine h_zne (off := 5) (t := 237) rfl rfl (by decide) (fun _ => ?_) (fun c => absurd c (by decide))
                  refine h_run 2 (pc' := 240) (l' := [(0, .inr (.inr 1826)), (1, .inl t), (2, .inl h), (3, .inl (k3 : Int)), (4, .inl (-1))]) (st' := [.inl (-1), .inl (-1)]) rfl ?_
                  refine h_ine (off := 11) (t := 251) rfl rfl (by decide) (by decide) (fun c => absurd c (by decide)) (fun _ => ?_)
                  refine h_run 2 (pc' := 245) (l' := [(0, .inr (.inr 1826)), (1, .inl t), (2, .inl h), (3, .inl (k3 : Int)), (4, .inl (-1))]) (st' := [.inl t, .inr (.inr 1826)]) rfl ?_
                  refine h_cv (i := 347) (j := 177) (b := 1826) (M' := mt_177) (xs := [.inl t]) (rest := []) rfl rfl rfl rfl rfl rfl (Nat.le_of_ble_eq_true rfl) (Nat.le_of_ble_eq_true rfl) (by omega) (m_addVariable (by omega) (by omega : 0 ≤ (H.1 1826 39) ∧ (H.1 1826 39) ≤ 47) (by omega)) ?_
                  rintro _ _ ⟨rfl, rfl⟩
                  refine h_run 0 (pc' := 248) (l' := [(0, .inr (.inr 1826)), (1, .inl t), (2, .inl h), (3, .inl (k3 : Int)), (4, .inl (-1))]) (st' := [.inl (((H.1 1826 39) + 1) - 1)]) rfl ?_
                  refine h_run 6 (pc' := 262) (l' := [(0, .inr (.inr 1826)), (1, .inl t), (2, .inl h), (3, .inl (k3 : Int)), (4, .inl (((H.1 1826 39) + 1) - 1))]) (st' := [.inl (1000 + (((H.1 1826 39) + 1) - 1)), .inr (.inr 1826)]) rfl ?_
                  have g169 : -2147483648 ≤ (H.1 1826 43) ∧ (H.1 1826 43) ≤ 2147483647 := hrg0.1 1826 13 43 _ .int rfl rfl
                  refine h_cv (i := 350) (j := 169) (b := 1826) (M' := mt_169) (xs := [.inl (1000 + (((H.1 1826 39) + 1) - 1))]) (rest := []) rfl rfl rfl rfl rfl rfl (Nat.le_of_ble_eq_true rfl) (Nat.le_of_ble_eq_true rfl) (by omega) (m_put1 (by omega) (by omega : (H.1 1826 35) = 0) (by omega : 0 ≤ (H.1 1826 43) ∧ (H.1 1826 43) ≤ 47) (by omega)) ?_
                  rintro _ _ ⟨rfl, rfl⟩
                  refine h_run 0 (pc' := 265) (l' := [(0, .inr (.inr 1826)), (1, .inl t), (2, .inl h), (3, .inl (k3 : Int)), (4, .inl (((H.1 1826 39) + 1) - 1))]) (st' := []) rfl ?_
                  refine h_run 1 (pc' := 266) (l' := [(0, .inr (.inr 1826)), (1, .inl t), (2, .inl h), (3, .inl (k3 : Int)), (4, .inl (((H.1 1826 39) + 1) - 1))]) (st' := [.inr (.inr 1826)]) rfl ?_
                  have g170 : -2147483648 ≤ (H.1 1826 30) ∧ (H.1 1826 30) ≤ 2147483647 := hrg0.1 1826 13 30 _ .int rfl rfl
                  have g171 : -2147483648 ≤ (H.1 1826 29) ∧ (H.1 1826 29) ≤ 2147483647 := hrg0.1 1826 13 29 _ .int rfl rfl
                  have g172 : -2147483648 ≤ (H.1 1826 32) ∧ (H.1 1826 32) ≤ 2147483647 := hrg0.1 1826 13 32 _ .int rfl rfl
                  refine h_cv (i := 297) (j := 165) (b := 1826) (M' := mt_165) (xs := []) (rest := []) rfl rfl rfl rfl rfl rfl (Nat.le_of_ble_eq_true rfl) (Nat.le_of_ble_eq_true rfl) (by omega) (m_next (by omega) (by omega : 0 ≤ (H.1 1826 30) ∧ (H.1 1826 30) ≤ (H.1 1826 29) ∧ (H.1 1826 29) ≤ 1000) (by omega : 0 ≤ (H.1 1826 35) ∧ (H.1 1826 35) ≤ 5) (by omega : 0 ≤ (H.1 1826 32) ∧ (H.1 1826 32) ≤ 1000)) ?_
                  rintro _ H173 ⟨rfl, hx173f, hx173a, hx173b, hx173c, -, hx173e, hx173g⟩
                  refine h_rng (fun hrg174 => ?_)
                  have hf175 : fr [30, 31, 32, 33, 35, 36, 39, 40, 41, 43, 47] [1849, 1850, 1851, 1852, 1853, 1854] H H173 := fr_t (fr_o (fr_a (fr_o (fr_a (fr_a (fr_o (fr_rf _ _ _) (by decide)) (by decide)) (by decide)) (by decide)) (by decide)) (by decide)) hx173f (by decide) (by decide)
                  replace hx173a : (H.1 1826 30) ≤ (H173.1 1826 30) := hx173a
                  replace hx173b : (H173.1 1826 30) ≤ (H.1 1826 29) := hx173b
                  replace hx173g : (H173.1 1826 35) = 0 → ((H173.1 1826 31) = 0 ∨ (H.1 1826 30) < (H173.1 1826 30)) := hx173g
                  refine h_run 0 (pc' := 269) (l' := [(0, .inr (.inr 1826)), (1, .inl t), (2, .inl h), (3, .inl (k3 : Int)), (4, .inl (((H.1 1826 39) + 1) - 1))]) (st' := []) rfl ?_
                  refine h_run 1 (pc' := 270) (l' := [(0, .inr (.inr 1826)), (1, .inl t), (2, .inl h), (3, .inl (k3 : Int)), (4, .inl (((H.1 1826 39) + 1) - 1))]) (st' := [.inl t]) rfl ?_
                  refine h_reti (x := t) rfl rfl ?_
                  have g176 : -2147483648 ≤ (H173.1 1826 30) ∧ (H173.1 1826 30) ≤ 2147483647 := hrg174.1 1826 13 30 _ .int rfl rfl
                  have g177 : -2147483648 ≤ (H173.1 1826 35) ∧ (H173.1 1826 35) ≤ 2147483647 := hrg174.1 1826 13 35 _ .int rfl rfl
                  have g178 : -2147483648 ≤ (H173.1 1826 32) ∧ (H173.1 1826 32) ≤ 2147483647 := hrg174.1 1826 13 32 _ .int rfl rfl
                  have g179 : -2147483648 ≤ (H173.1 1826 29) ∧ (H173.1 1826 29) ≤ 2147483647 := hrg174.1 1826 13 29 _ .int rfl rfl
                  have e180 : (H173.1 1826 29) = (H.1 1826 29) := hx173f.2.2 29 (by decide)
                  have g181 : -2147483648 ≤ (H173.1 1826 31) ∧ (H173.1 1826 31) ≤ 2147483647 := hrg174.1 1826 13 31 _ .int rfl rfl
                  have g182 : -2147483648 ≤ (H173.1 1826 1) ∧ (H173.1 1826 1) ≤ 2147483647 := hrg174.1 1826 13 1 _ .int rfl rfl
                  have e183 : (H173.1 1826 1) = (H.1 1826 1) := hx173f.2.2 1 (by decide)
                  have g184 : -2147483648 ≤ (H173.1 1826 39) ∧ (H173.1 1826 39) ≤ 2147483647 := hrg174.1 1826 13 39 _ .int rfl rfl
                  have e185 : (H173.1 1826 39) = ((H.1 1826 39) + 1) := hx173f.2.2 39 (by decide)
                  have g186 : -2147483648 ≤ (H173.1 1826 44) ∧ (H173.1 1826 44) ≤ 2147483647 := hrg174.1 1826 13 44 _ .int rfl rfl
                  have e187 : (H173.1 1826 44) = (H.1 1826 44) := hx173f.2.2 44 (by decide)
                  exact ⟨⟨t, rfl, by omega, by omega⟩, hf175, (by omega : (H.1 1826 30) ≤ (H173.1 1826 30) ∧ (H173.1 1826 30) ≤ (H.1 1826 29)), (by omega : 0 ≤ (H173.1 1826 35) ∧ (H173.1 1826 35) ≤ 5), (by omega : 0 ≤ (H173.1 1826 32) ∧ (H173.1 1826 32) ≤ 1000), (by omega : (H173.1 1826 35) = 0 → (H173.1 1826 31) = 0 ∨ (H.1 1826 30) < (H173.1 1826 30)), (by omega : ((H.1 1826 44) ≠ 2 → (H173.1 1826 39) = (H.1 1826 39)) ∧ (H.1 1826 39) ≤ (H173.1 1826 39)), fun _ => TT_sign (s := (1000 + (((H.1 1826 39) + 1) - 1))) (q := 0) hP hTT ⟨⟨(hx173f.2.2 1 (by decide)), (hx173f.2.2 3 (by decide)), (hx173f.2.2 8 (by decide)), (hx173f.2.2 44 (by decide))⟩, (hx173f.2.1 1833 (by decide) (by decide)), (hx173f.2.1 1830 (by decide) (by decide))⟩ (by show m_sg (H.1 1826 3) (H.1 1826 8) (H173.1 1826 39) (1000 + (((H.1 1826 39) + 1) - 1)); rw [show (H173.1 1826 39) = _ from (hx173f.2.2 39 (by decide))]; exact Or.inr (Or.inr (Or.inr (by show 1000 ≤ (1000 + (((H.1 1826 39) + 1) - 1)) ∧ (1000 + (((H.1 1826 39) + 1) - 1)) < 1000 + ((H.1 1826 39) + 1); omega)))) (ma_0 (by omega)) (by omega) (by omega) ⟨(hx173f.2.2 40 (by decide)), (hx173f.2.2 43 (by decide)), (hx173f.2.2 41 (by decide))⟩ (hx173f.2.1 1851 (by decide) (by decide)) (Or.inr ⟨by omega, by omega, (hx173f.2.2 39 (by decide)), t, (hx173f.2.1 1850 (by decide) (by decide)), by omega, by omega⟩) (Or.inl ⟨rfl, (hx173f.2.2 47 (by decide)), (hx173f.2.1 1852 (by decide) (by decide)), (hx173f.2.1 1853 (by decide) (by decide)), (hx173f.2.1 1854 (by decide) (by decide))⟩)⟩
              · refine h_run 2 (pc' := 221) (l' := [(0, .inr (.inr 1826)), (1, .inl t), (2, .inl h), (3, .inl (k3 : Int)), (4, .inl (-1))]) (st' := [.inl 5, .inr (.inr 1826)]) rfl ?_
                refine h_cv (i := 278) (j := 159) (b := 1826) (M' := mt_159) (xs := [.inl 5]) (rest := []) rfl rfl rfl rfl rfl rfl (Nat.le_of_ble_eq_true rfl) (Nat.le_of_ble_eq_true rfl) (by omega) (m_bad0 (by omega) (by omega) (by omega : (H.1 1826 35) = 0)) ?_
                rintro _ _ ⟨rfl, rfl⟩
                refine h_run 0 (pc' := 224) (l' := [(0, .inr (.inr 1826)), (1, .inl t), (2, .inl h), (3, .inl (k3 : Int)), (4, .inl (-1))]) (st' := []) rfl ?_
                refine h_run 1 (pc' := 225) (l' := [(0, .inr (.inr 1826)), (1, .inl t), (2, .inl h), (3, .inl (k3 : Int)), (4, .inl (-1))]) (st' := [.inr (.inr 1826)]) rfl ?_
                have g188 : -2147483648 ≤ (H.1 1826 40) ∧ (H.1 1826 40) ≤ 2147483647 := hrg0.1 1826 13 40 _ .int rfl rfl
                refine h_cv (i := 344) (j := 168) (b := 1826) (M' := mt_168) (xs := []) (rest := []) rfl rfl rfl rfl rfl rfl (Nat.le_of_ble_eq_true rfl) (Nat.le_of_ble_eq_true rfl) (by omega) (m_countC (by omega) (by omega : (5 : Int) ≠ 0) (by omega : 0 ≤ (H.1 1826 40) ∧ (H.1 1826 40) ≤ 1000)) ?_
                rintro _ _ ⟨rfl, rfl⟩
                refine h_run 0 (pc' := 228) (l' := [(0, .inr (.inr 1826)), (1, .inl t), (2, .inl h), (3, .inl (k3 : Int)), (4, .inl (-1))]) (st' := []) rfl ?_
                refine h_run 1 (pc' := 229) (l' := [(0, .inr (.inr 1826)), (1, .inl t), (2, .inl h), (3, .inl (k3 : Int)), (4, .inl (-1))]) (st' := [.inr (.inr 1826)]) rfl ?_
                refine h_cv (i := 293) (j := 158) (b := 1826) (M' := mt_158) (xs := []) (rest := []) rfl rfl rfl rfl rfl rfl (Nat.le_of_ble_eq_true rfl) (Nat.le_of_ble_eq_true rfl) (by omega) (m_good0 (by omega) (by omega : (5 : Int) ≠ 0)) ?_
                rintro _ _ ⟨rfl, rfl⟩
                refine h_run 0 (pc' := 232) (l' := [(0, .inr (.inr 1826)), (1, .inl t), (2, .inl h), (3, .inl (k3 : Int)), (4, .inl (-1))]) (st' := [.inl 0]) rfl ?_
                refine h_zne (off := 5) (t := 237) rfl rfl (by decide) (fun c => absurd c (by decide)) (fun _ => ?_)
                refine h_run 1 (pc' := 236) (l' := [(0, .inr (.inr 1826)), (1, .inl t), (2, .inl h), (3, .inl (k3 : Int)), (4, .inl (-1))]) (st' := [.inl (-1)]) rfl ?_
                refine h_reti (x := (-1)) rfl rfl ?_
                have g189 : -2147483648 ≤ (H.1 1826 30) ∧ (H.1 1826 30) ≤ 2147483647 := hrg0.1 1826 13 30 _ .int rfl rfl
                have g190 : -2147483648 ≤ (H.1 1826 32) ∧ (H.1 1826 32) ≤ 2147483647 := hrg0.1 1826 13 32 _ .int rfl rfl
                have g191 : -2147483648 ≤ (H.1 1826 29) ∧ (H.1 1826 29) ≤ 2147483647 := hrg0.1 1826 13 29 _ .int rfl rfl
                have g192 : -2147483648 ≤ (H.1 1826 31) ∧ (H.1 1826 31) ≤ 2147483647 := hrg0.1 1826 13 31 _ .int rfl rfl
                have g193 : -2147483648 ≤ (H.1 1826 1) ∧ (H.1 1826 1) ≤ 2147483647 := hrg0.1 1826 13 1 _ .int rfl rfl
                exact ⟨⟨(-1), rfl, by omega, by omega⟩, (fr_o (fr_o (fr_o (fr_rf _ _ _) (by decide)) (by decide)) (by decide)), (by omega : (H.1 1826 30) ≤ (H.1 1826 30) ∧ (H.1 1826 30) ≤ (H.1 1826 29)), (by omega : 0 ≤ (5 : Int) ∧ (5 : Int) ≤ 5), (by omega : 0 ≤ (H.1 1826 32) ∧ (H.1 1826 32) ≤ 1000), (by omega : (5 : Int) = 0 → (H.1 1826 31) = 0 ∨ (H.1 1826 30) < (H.1 1826 30)), (by omega : ((H.1 1826 44) ≠ 2 → (H.1 1826 39) = (H.1 1826 39)) ∧ (H.1 1826 39) ≤ (H.1 1826 39)), (fun (q : (5 : Int) = 0) => absurd q (by omega))⟩
            · refine h_run 2 (pc' := 165) (l' := [(0, .inr (.inr 1826)), (1, .inl t), (2, .inl h), (3, .inl (k3 : Int)), (4, .inl (-1))]) (st' := [.inl 2, .inr (.inr 1826)]) rfl ?_
              refine h_cv (i := 278) (j := 159) (b := 1826) (M' := mt_159) (xs := [.inl 2]) (rest := []) rfl rfl rfl rfl rfl rfl (Nat.le_of_ble_eq_true rfl) (Nat.le_of_ble_eq_true rfl) (by omega) (m_bad0 (by omega) (by omega) (by omega : (H.1 1826 35) = 0)) ?_
              rintro _ _ ⟨rfl, rfl⟩
              refine h_run 0 (pc' := 168) (l' := [(0, .inr (.inr 1826)), (1, .inl t), (2, .inl h), (3, .inl (k3 : Int)), (4, .inl (-1))]) (st' := []) rfl ?_
              refine h_run 1 (pc' := 169) (l' := [(0, .inr (.inr 1826)), (1, .inl t), (2, .inl h), (3, .inl (k3 : Int)), (4, .inl (-1))]) (st' := [.inr (.inr 1826)]) rfl ?_
              refine h_cv (i := 293) (j := 158) (b := 1826) (M' := mt_158) (xs := []) (rest := []) rfl rfl rfl rfl rfl rfl (Nat.le_of_ble_eq_true rfl) (Nat.le_of_ble_eq_true rfl) (by omega) (m_good0 (by omega) (by omega : (2 : Int) ≠ 0)) ?_
              rintro _ _ ⟨rfl, rfl⟩
              refine h_run 0 (pc' := 172) (l' := [(0, .inr (.inr 1826)), (1, .inl t), (2, .inl h), (3, .inl (k3 : Int)), (4, .inl (-1))]) (st' := [.inl 0]) rfl ?_
              refine h_zeq (off := 25) (t := 197) rfl rfl (by decide) (fun _ => ?_) (fun c => absurd c (by decide))
              refine h_run 1 (pc' := 198) (l' := [(0, .inr (.inr 1826)), (1, .inl t), (2, .inl h), (3, .inl (k3 : Int)), (4, .inl (-1))]) (st' := [.inr (.inr 1826)]) rfl ?_
              refine h_cv (i := 293) (j := 158) (b := 1826) (M' := mt_158) (xs := []) (rest := []) rfl rfl rfl rfl rfl rfl (Nat.le_of_ble_eq_true rfl) (Nat.le_of_ble_eq_true rfl) (by omega) (m_good0 (by omega) (by omega : (2 : Int) ≠ 0)) ?_
              rintro _ _ ⟨rfl, rfl⟩
              refine h_run 0 (pc' := 201) (l' := [(0, .inr (.inr 1826)), (1, .inl t), (2, .inl h), (3, .inl (k3 : Int)), (4, .inl (-1))]) (st' := [.inl 0]) rfl ?_
              refine h_zeq (off := 23) (t := 224) rfl rfl (by decide) (fun _ => ?_) (fun c => absurd c (by decide))
              refine h_run 1 (pc' := 225) (l' := [(0, .inr (.inr 1826)), (1, .inl t), (2, .inl h), (3, .inl (k3 : Int)), (4, .inl (-1))]) (st' := [.inr (.inr 1826)]) rfl ?_
              have g194 : -2147483648 ≤ (H.1 1826 40) ∧ (H.1 1826 40) ≤ 2147483647 := hrg0.1 1826 13 40 _ .int rfl rfl
              refine h_cv (i := 344) (j := 168) (b := 1826) (M' := mt_168) (xs := []) (rest := []) rfl rfl rfl rfl rfl rfl (Nat.le_of_ble_eq_true rfl) (Nat.le_of_ble_eq_true rfl) (by omega) (m_countC (by omega) (by omega : (2 : Int) ≠ 0) (by omega : 0 ≤ (H.1 1826 40) ∧ (H.1 1826 40) ≤ 1000)) ?_
              rintro _ _ ⟨rfl, rfl⟩
              refine h_run 0 (pc' := 228) (l' := [(0, .inr (.inr 1826)), (1, .inl t), (2, .inl h), (3, .inl (k3 : Int)), (4, .inl (-1))]) (st' := []) rfl ?_
              refine h_run 1 (pc' := 229) (l' := [(0, .inr (.inr 1826)), (1, .inl t), (2, .inl h), (3, .inl (k3 : Int)), (4, .inl (-1))]) (st' := [.inr (.inr 1826)]) rfl ?_
              refine h_cv (i := 293) (j := 158) (b := 1826) (M' := mt_158) (xs := []) (rest := []) rfl rfl rfl rfl rfl rfl (Nat.le_of_ble_eq_true rfl) (Nat.le_of_ble_eq_true rfl) (by omega) (m_good0 (by omega) (by omega : (2 : Int) ≠ 0)) ?_
              rintro _ _ ⟨rfl, rfl⟩
              refine h_run 0 (pc' := 232) (l' := [(0, .inr (.inr 1826)), (1, .inl t), (2, .inl h), (3, .inl (k3 : Int)), (4, .inl (-1))]) (st' := [.inl 0]) rfl ?_
              refine h_zne (off := 5) (t := 237) rfl rfl (by decide) (fun c => absurd c (by decide)) (fun _ => ?_)
              refine h_run 1 (pc' := 236) (l' := [(0, .inr (.inr 1826)), (1, .inl t), (2, .inl h), (3, .inl (k3 : Int)), (4, .inl (-1))]) (st' := [.inl (-1)]) rfl ?_
              refine h_reti (x := (-1)) rfl rfl ?_
              have g195 : -2147483648 ≤ (H.1 1826 30) ∧ (H.1 1826 30) ≤ 2147483647 := hrg0.1 1826 13 30 _ .int rfl rfl
              have g196 : -2147483648 ≤ (H.1 1826 32) ∧ (H.1 1826 32) ≤ 2147483647 := hrg0.1 1826 13 32 _ .int rfl rfl
              have g197 : -2147483648 ≤ (H.1 1826 29) ∧ (H.1 1826 29) ≤ 2147483647 := hrg0.1 1826 13 29 _ .int rfl rfl
              have g198 : -2147483648 ≤ (H.1 1826 31) ∧ (H.1 1826 31) ≤ 2147483647 := hrg0.1 1826 13 31 _ .int rfl rfl
              have g199 : -2147483648 ≤ (H.1 1826 1) ∧ (H.1 1826 1) ≤ 2147483647 := hrg0.1 1826 13 1 _ .int rfl rfl
              exact ⟨⟨(-1), rfl, by omega, by omega⟩, (fr_o (fr_o (fr_o (fr_rf _ _ _) (by decide)) (by decide)) (by decide)), (by omega : (H.1 1826 30) ≤ (H.1 1826 30) ∧ (H.1 1826 30) ≤ (H.1 1826 29)), (by omega : 0 ≤ (2 : Int) ∧ (2 : Int) ≤ 5), (by omega : 0 ≤ (H.1 1826 32) ∧ (H.1 1826 32) ≤ 1000), (by omega : (2 : Int) = 0 → (H.1 1826 31) = 0 ∨ (H.1 1826 30) < (H.1 1826 30)), (by omega : ((H.1 1826 44) ≠ 2 → (H.1 1826 39) = (H.1 1826 39)) ∧ (H.1 1826 39) ≤ (H.1 1826 39)), (fun (q : (2 : Int) = 0) => absurd q (by omega))⟩
          · refine h_run 2 (pc' := 141) (l' := [(0, .inr (.inr 1826)), (1, .inl t), (2, .inl h), (3, .inl (k3 : Int)), (4, .inl (-1))]) (st' := [.inl (-1), .inl (-1)]) rfl ?_
            refine h_ine (off := 10) (t := 151) rfl rfl (by decide) (by decide) (fun c => absurd c (by decide)) (fun _ => ?_)
            refine h_run 2 (pc' := 146) (l' := [(0, .inr (.inr 1826)), (1, .inl t), (2, .inl h), (3, .inl (k3 : Int)), (4, .inl (-1))]) (st' := [.inl 3, .inr (.inr 1826)]) rfl ?_
            have g200 : -2147483648 ≤ (H.1 1826 35) ∧ (H.1 1826 35) ≤ 2147483647 := hrg0.1 1826 13 35 _ .int rfl rfl
            refine h_cv (i := 278) (j := 159) (b := 1826) (M' := mt_159) (xs := [.inl 3]) (rest := []) rfl rfl rfl rfl rfl rfl (Nat.le_of_ble_eq_true rfl) (Nat.le_of_ble_eq_true rfl) (by omega) (m_bad0 (by omega) (by omega) (by omega : (H.1 1826 35) = 0)) ?_
            rintro _ _ ⟨rfl, rfl⟩
            refine h_run 0 (pc' := 149) (l' := [(0, .inr (.inr 1826)), (1, .inl t), (2, .inl h), (3, .inl (k3 : Int)), (4, .inl (-1))]) (st' := []) rfl ?_
            refine h_run 1 (pc' := 150) (l' := [(0, .inr (.inr 1826)), (1, .inl t), (2, .inl h), (3, .inl (k3 : Int)), (4, .inl (-1))]) (st' := [.inl (-1)]) rfl ?_
            refine h_reti (x := (-1)) rfl rfl ?_
            have g201 : -2147483648 ≤ (H.1 1826 30) ∧ (H.1 1826 30) ≤ 2147483647 := hrg0.1 1826 13 30 _ .int rfl rfl
            have g202 : -2147483648 ≤ (H.1 1826 32) ∧ (H.1 1826 32) ≤ 2147483647 := hrg0.1 1826 13 32 _ .int rfl rfl
            have g203 : -2147483648 ≤ (H.1 1826 29) ∧ (H.1 1826 29) ≤ 2147483647 := hrg0.1 1826 13 29 _ .int rfl rfl
            have g204 : -2147483648 ≤ (H.1 1826 31) ∧ (H.1 1826 31) ≤ 2147483647 := hrg0.1 1826 13 31 _ .int rfl rfl
            have g205 : -2147483648 ≤ (H.1 1826 1) ∧ (H.1 1826 1) ≤ 2147483647 := hrg0.1 1826 13 1 _ .int rfl rfl
            exact ⟨⟨(-1), rfl, by omega, by omega⟩, (fr_o (fr_o (fr_rf _ _ _) (by decide)) (by decide)), (by omega : (H.1 1826 30) ≤ (H.1 1826 30) ∧ (H.1 1826 30) ≤ (H.1 1826 29)), (by omega : 0 ≤ (3 : Int) ∧ (3 : Int) ≤ 5), (by omega : 0 ≤ (H.1 1826 32) ∧ (H.1 1826 32) ≤ 1000), (by omega : (3 : Int) = 0 → (H.1 1826 31) = 0 ∨ (H.1 1826 30) < (H.1 1826 30)), (by omega : ((H.1 1826 44) ≠ 2 → (H.1 1826 39) = (H.1 1826 39)) ∧ (H.1 1826 39) ≤ (H.1 1826 39)), (fun (q : (3 : Int) = 0) => absurd q (by omega))⟩
    · refine h_run 1 (pc' := 22) (l' := [(0, .inr (.inr 1826)), (1, .inl t), (2, .inl h), (3, .inl (k3 : Int))]) (st' := [.inl h]) rfl ?_
      refine h_zne (off := 17) (t := 39) rfl rfl (by omega) (fun c206 => ?_) (fun c206 => ?_)
      · refine h_run 1 (pc' := 40) (l' := [(0, .inr (.inr 1826)), (1, .inl t), (2, .inl h), (3, .inl (k3 : Int))]) (st' := [.inr (.inr 1826)]) rfl ?_
        have g207 : -2147483648 ≤ (H.1 1826 35) ∧ (H.1 1826 35) ≤ 2147483647 := hrg0.1 1826 13 35 _ .int rfl rfl
        refine h_cv (i := 293) (j := 158) (b := 1826) (M' := mt_158) (xs := []) (rest := []) rfl rfl rfl rfl rfl rfl (Nat.le_of_ble_eq_true rfl) (Nat.le_of_ble_eq_true rfl) (by omega) (m_good1 (by omega) (by omega : (H.1 1826 35) = 0)) ?_
        rintro _ _ ⟨rfl, rfl⟩
        refine h_run 0 (pc' := 43) (l' := [(0, .inr (.inr 1826)), (1, .inl t), (2, .inl h), (3, .inl (k3 : Int))]) (st' := [.inl 1]) rfl ?_
        refine h_zeq (off := 23) (t := 66) rfl rfl (by decide) (fun c => absurd c (by decide)) (fun _ => ?_)
        refine h_run 2 (pc' := 48) (l' := [(0, .inr (.inr 1826)), (1, .inl t), (2, .inl h), (3, .inl (k3 : Int))]) (st' := [.inl (-1), .inl t]) rfl ?_
        refine h_ieq (off := 18) (t := 66) rfl rfl (by omega) (by decide) (fun c208 => ?_) (fun c208 => ?_)
        · refine h_run 1 (pc' := 67) (l' := [(0, .inr (.inr 1826)), (1, .inl t), (2, .inl h), (3, .inl (k3 : Int))]) (st' := [.inr (.inr 1826)]) rfl ?_
          have g209 : -2147483648 ≤ (H.1 1826 40) ∧ (H.1 1826 40) ≤ 2147483647 := hrg0.1 1826 13 40 _ .int rfl rfl
          by_cases b210 : (H.1 1826 40) = 40
          · refine h_cv (i := 344) (j := 168) (b := 1826) (M' := mt_168) (xs := []) (rest := []) rfl rfl rfl rfl rfl rfl (Nat.le_of_ble_eq_true rfl) (Nat.le_of_ble_eq_true rfl) (by omega) (m_countB (by omega) (by omega : (H.1 1826 35) = 0) (by omega : (H.1 1826 40) = 40)) ?_
            rintro _ _ ⟨rfl, rfl⟩
            refine h_run 0 (pc' := 70) (l' := [(0, .inr (.inr 1826)), (1, .inl t), (2, .inl h), (3, .inl (k3 : Int))]) (st' := []) rfl ?_
            refine h_run 4 (pc' := 75) (l' := [(0, .inr (.inr 1826)), (1, .inl t), (2, .inl h), (3, .inl (k3 : Int))]) (st' := [.inl (100 + (k3 : Int)), .inr (.inr 1826)]) rfl ?_
            refine h_cv (i := 350) (j := 169) (b := 1826) (M' := mt_169) (xs := [.inl (100 + (k3 : Int))]) (rest := []) rfl rfl rfl rfl rfl rfl (Nat.le_of_ble_eq_true rfl) (Nat.le_of_ble_eq_true rfl) (by omega) (m_put0 (by omega) (by omega : (5 : Int) ≠ 0)) ?_
            rintro _ _ ⟨rfl, rfl⟩
            refine h_run 0 (pc' := 78) (l' := [(0, .inr (.inr 1826)), (1, .inl t), (2, .inl h), (3, .inl (k3 : Int))]) (st' := []) rfl ?_
            refine h_run 1 (pc' := 79) (l' := [(0, .inr (.inr 1826)), (1, .inl t), (2, .inl h), (3, .inl (k3 : Int))]) (st' := [.inr (.inr 1826)]) rfl ?_
            refine h_cv (i := 293) (j := 158) (b := 1826) (M' := mt_158) (xs := []) (rest := []) rfl rfl rfl rfl rfl rfl (Nat.le_of_ble_eq_true rfl) (Nat.le_of_ble_eq_true rfl) (by omega) (m_good0 (by omega) (by omega : (5 : Int) ≠ 0)) ?_
            rintro _ _ ⟨rfl, rfl⟩
            refine h_run 0 (pc' := 82) (l' := [(0, .inr (.inr 1826)), (1, .inl t), (2, .inl h), (3, .inl (k3 : Int))]) (st' := [.inl 0]) rfl ?_
            refine h_zeq (off := 16) (t := 98) rfl rfl (by decide) (fun _ => ?_) (fun c => absurd c (by decide))
            refine h_run 3 (pc' := 103) (l' := [(0, .inr (.inr 1826)), (1, .inl t), (2, .inl h), (3, .inl (k3 : Int))]) (st' := [.inl (k3 : Int), .inr (.inr 1835)]) rfl ?_
            refine h_ild (c := 1835) (j := k3) (i := (k3 : Int)) rfl rfl (by decide) rfl (by omega) ?_
            have g211 : -2147483648 ≤ (H.1 1835 k3) ∧ (H.1 1835 k3) ≤ 2147483647 := hrg0.2 1835 k3 16 .int rfl (by omega)
            refine h_run 0 (pc' := 104) (l' := [(0, .inr (.inr 1826)), (1, .inl t), (2, .inl h), (3, .inl (k3 : Int))]) (st' := [.inl (H.1 1835 k3)]) rfl ?_
            have hct := (pw2 k3 (by omega)).2.1
            refine h_reti (x := (H.1 1835 k3)) rfl rfl ?_
            have g212 : -2147483648 ≤ (H.1 1826 30) ∧ (H.1 1826 30) ≤ 2147483647 := hrg0.1 1826 13 30 _ .int rfl rfl
            have g213 : -2147483648 ≤ (H.1 1826 32) ∧ (H.1 1826 32) ≤ 2147483647 := hrg0.1 1826 13 32 _ .int rfl rfl
            have g214 : -2147483648 ≤ (H.1 1826 29) ∧ (H.1 1826 29) ≤ 2147483647 := hrg0.1 1826 13 29 _ .int rfl rfl
            have g215 : -2147483648 ≤ (H.1 1826 31) ∧ (H.1 1826 31) ≤ 2147483647 := hrg0.1 1826 13 31 _ .int rfl rfl
            have g216 : -2147483648 ≤ (H.1 1826 1) ∧ (H.1 1826 1) ≤ 2147483647 := hrg0.1 1826 13 1 _ .int rfl rfl
            have g217 : -2147483648 ≤ (H.1 1826 39) ∧ (H.1 1826 39) ≤ 2147483647 := hrg0.1 1826 13 39 _ .int rfl rfl
            have g218 : -2147483648 ≤ (H.1 1826 44) ∧ (H.1 1826 44) ≤ 2147483647 := hrg0.1 1826 13 44 _ .int rfl rfl
            exact ⟨⟨(H.1 1835 k3), rfl, by omega, by omega⟩, (fr_o (fr_o (fr_o (fr_rf _ _ _) (by decide)) (by decide)) (by decide)), (by omega : (H.1 1826 30) ≤ (H.1 1826 30) ∧ (H.1 1826 30) ≤ (H.1 1826 29)), (by omega : 0 ≤ (5 : Int) ∧ (5 : Int) ≤ 5), (by omega : 0 ≤ (H.1 1826 32) ∧ (H.1 1826 32) ≤ 1000), (by omega : (5 : Int) = 0 → (H.1 1826 31) = 0 ∨ (H.1 1826 30) < (H.1 1826 30)), (by omega : ((H.1 1826 44) ≠ 2 → (H.1 1826 39) = (H.1 1826 39)) ∧ (H.1 1826 39) ≤ (H.1 1826 39)), (fun (q : (5 : Int) = 0) => absurd q (by omega))⟩
          · refine h_cv (i := 344) (j := 168) (b := 1826) (M' := mt_168) (xs := []) (rest := []) rfl rfl rfl rfl rfl rfl (Nat.le_of_ble_eq_true rfl) (Nat.le_of_ble_eq_true rfl) (by omega) (m_countA (by omega) (by omega : (H.1 1826 35) = 0) (by omega : 0 ≤ (H.1 1826 40) ∧ (H.1 1826 40) ≤ 1000) (by omega : (H.1 1826 40) ≠ 40)) ?_
            rintro _ _ ⟨rfl, rfl⟩
            refine h_run 0 (pc' := 70) (l' := [(0, .inr (.inr 1826)), (1, .inl t), (2, .inl h), (3, .inl (k3 : Int))]) (st' := []) rfl ?_
            refine h_run 4 (pc' := 75) (l' := [(0, .inr (.inr 1826)), (1, .inl t), (2, .inl h), (3, .inl (k3 : Int))]) (st' := [.inl (100 + (k3 : Int)), .inr (.inr 1826)]) rfl ?_
            have g219 : -2147483648 ≤ (H.1 1826 43) ∧ (H.1 1826 43) ≤ 2147483647 := hrg0.1 1826 13 43 _ .int rfl rfl
            refine h_cv (i := 350) (j := 169) (b := 1826) (M' := mt_169) (xs := [.inl (100 + (k3 : Int))]) (rest := []) rfl rfl rfl rfl rfl rfl (Nat.le_of_ble_eq_true rfl) (Nat.le_of_ble_eq_true rfl) (by omega) (m_put1 (by omega) (by omega : (H.1 1826 35) = 0) (by omega : 0 ≤ (H.1 1826 43) ∧ (H.1 1826 43) ≤ 47) (by omega)) ?_
            rintro _ _ ⟨rfl, rfl⟩
            refine h_run 0 (pc' := 78) (l' := [(0, .inr (.inr 1826)), (1, .inl t), (2, .inl h), (3, .inl (k3 : Int))]) (st' := []) rfl ?_
            refine h_run 1 (pc' := 79) (l' := [(0, .inr (.inr 1826)), (1, .inl t), (2, .inl h), (3, .inl (k3 : Int))]) (st' := [.inr (.inr 1826)]) rfl ?_
            refine h_cv (i := 293) (j := 158) (b := 1826) (M' := mt_158) (xs := []) (rest := []) rfl rfl rfl rfl rfl rfl (Nat.le_of_ble_eq_true rfl) (Nat.le_of_ble_eq_true rfl) (by omega) (m_good1 (by omega) (by omega : (H.1 1826 35) = 0)) ?_
            rintro _ _ ⟨rfl, rfl⟩
            refine h_run 0 (pc' := 82) (l' := [(0, .inr (.inr 1826)), (1, .inl t), (2, .inl h), (3, .inl (k3 : Int))]) (st' := [.inl 1]) rfl ?_
            refine h_zeq (off := 16) (t := 98) rfl rfl (by decide) (fun c => absurd c (by decide)) (fun _ => ?_)
            refine h_run 5 (pc' := 91) (l' := [(0, .inr (.inr 1826)), (1, .inl t), (2, .inl h), (3, .inl (k3 : Int))]) (st' := [.inl (-1), .inl (100 + (k3 : Int)), .inr (.inr 1826)]) rfl ?_
            have g220 : -2147483648 ≤ (H.1 1826 47) ∧ (H.1 1826 47) ≤ 2147483647 := hrg0.1 1826 13 47 _ .int rfl rfl
            refine h_cv (i := 364) (j := 181) (b := 1826) (M' := mt_181) (xs := [.inl (-1), .inl (100 + (k3 : Int))]) (rest := []) rfl rfl rfl rfl rfl rfl (Nat.le_of_ble_eq_true rfl) (Nat.le_of_ble_eq_true rfl) (by omega) (m_enter (by omega) (by omega : 0 ≤ (H.1 1826 47) ∧ (H.1 1826 47) ≤ 63) (by omega) (by omega)) ?_
            rintro _ _ ⟨rfl, rfl⟩
            refine h_run 0 (pc' := 94) (l' := [(0, .inr (.inr 1826)), (1, .inl t), (2, .inl h), (3, .inl (k3 : Int))]) (st' := []) rfl ?_
            refine h_run 1 (pc' := 95) (l' := [(0, .inr (.inr 1826)), (1, .inl t), (2, .inl h), (3, .inl (k3 : Int))]) (st' := [.inr (.inr 1826)]) rfl ?_
            have g221 : -2147483648 ≤ (H.1 1826 30) ∧ (H.1 1826 30) ≤ 2147483647 := hrg0.1 1826 13 30 _ .int rfl rfl
            have g222 : -2147483648 ≤ (H.1 1826 29) ∧ (H.1 1826 29) ≤ 2147483647 := hrg0.1 1826 13 29 _ .int rfl rfl
            have g223 : -2147483648 ≤ (H.1 1826 32) ∧ (H.1 1826 32) ≤ 2147483647 := hrg0.1 1826 13 32 _ .int rfl rfl
            refine h_cv (i := 297) (j := 165) (b := 1826) (M' := mt_165) (xs := []) (rest := []) rfl rfl rfl rfl rfl rfl (Nat.le_of_ble_eq_true rfl) (Nat.le_of_ble_eq_true rfl) (by omega) (m_next (by omega) (by omega : 0 ≤ (H.1 1826 30) ∧ (H.1 1826 30) ≤ (H.1 1826 29) ∧ (H.1 1826 29) ≤ 1000) (by omega : 0 ≤ (H.1 1826 35) ∧ (H.1 1826 35) ≤ 5) (by omega : 0 ≤ (H.1 1826 32) ∧ (H.1 1826 32) ≤ 1000)) ?_
            rintro _ H224 ⟨rfl, hx224f, hx224a, hx224b, hx224c, -, hx224e, hx224g⟩
            refine h_rng (fun hrg225 => ?_)
            have hf226 : fr [30, 31, 32, 33, 35, 36, 39, 40, 41, 43, 47] [1849, 1850, 1851, 1852, 1853, 1854] H H224 := fr_t (fr_o (fr_a (fr_a (fr_a (fr_o (fr_a (fr_o (fr_rf _ _ _) (by decide)) (by decide)) (by decide)) (by decide)) (by decide)) (by decide)) (by decide)) hx224f (by decide) (by decide)
            replace hx224a : (H.1 1826 30) ≤ (H224.1 1826 30) := hx224a
            replace hx224b : (H224.1 1826 30) ≤ (H.1 1826 29) := hx224b
            replace hx224g : (H224.1 1826 35) = 0 → ((H224.1 1826 31) = 0 ∨ (H.1 1826 30) < (H224.1 1826 30)) := hx224g
            refine h_run 0 (pc' := 98) (l' := [(0, .inr (.inr 1826)), (1, .inl t), (2, .inl h), (3, .inl (k3 : Int))]) (st' := []) rfl ?_
            refine h_run 3 (pc' := 103) (l' := [(0, .inr (.inr 1826)), (1, .inl t), (2, .inl h), (3, .inl (k3 : Int))]) (st' := [.inl (k3 : Int), .inr (.inr 1835)]) rfl ?_
            refine h_ild (c := 1835) (j := k3) (i := (k3 : Int)) rfl rfl (by decide) rfl (by omega) ?_
            have g227 : -2147483648 ≤ (H224.1 1835 k3) ∧ (H224.1 1835 k3) ≤ 2147483647 := hrg225.2 1835 k3 16 .int rfl (by omega)
            have e228 : (H224.1 1835 k3) = (H.1 1835 k3) := congrFun (hx224f.2.1 1835 (by decide) (by decide)) k3
            refine h_run 0 (pc' := 104) (l' := [(0, .inr (.inr 1826)), (1, .inl t), (2, .inl h), (3, .inl (k3 : Int))]) (st' := [.inl (H224.1 1835 k3)]) rfl ?_
            have hct := (pw2 k3 (by omega)).2.1
            refine h_reti (x := (H224.1 1835 k3)) rfl rfl ?_
            have g229 : -2147483648 ≤ (H224.1 1826 30) ∧ (H224.1 1826 30) ≤ 2147483647 := hrg225.1 1826 13 30 _ .int rfl rfl
            have g230 : -2147483648 ≤ (H224.1 1826 35) ∧ (H224.1 1826 35) ≤ 2147483647 := hrg225.1 1826 13 35 _ .int rfl rfl
            have g231 : -2147483648 ≤ (H224.1 1826 32) ∧ (H224.1 1826 32) ≤ 2147483647 := hrg225.1 1826 13 32 _ .int rfl rfl
            have g232 : -2147483648 ≤ (H224.1 1826 29) ∧ (H224.1 1826 29) ≤ 2147483647 := hrg225.1 1826 13 29 _ .int rfl rfl
            have e233 : (H224.1 1826 29) = (H.1 1826 29) := hx224f.2.2 29 (by decide)
            have g234 : -2147483648 ≤ (H224.1 1826 31) ∧ (H224.1 1826 31) ≤ 2147483647 := hrg225.1 1826 13 31 _ .int rfl rfl
            have g235 : -2147483648 ≤ (H224.1 1826 1) ∧ (H224.1 1826 1) ≤ 2147483647 := hrg225.1 1826 13 1 _ .int rfl rfl
            have e236 : (H224.1 1826 1) = (H.1 1826 1) := hx224f.2.2 1 (by decide)
            have g237 : -2147483648 ≤ (H224.1 1826 39) ∧ (H224.1 1826 39) ≤ 2147483647 := hrg225.1 1826 13 39 _ .int rfl rfl
            have e238 : (H224.1 1826 39) = (H.1 1826 39) := hx224f.2.2 39 (by decide)
            have g239 : -2147483648 ≤ (H224.1 1826 44) ∧ (H224.1 1826 44) ≤ 2147483647 := hrg225.1 1826 13 44 _ .int rfl rfl
            have e240 : (H224.1 1826 44) = (H.1 1826 44) := hx224f.2.2 44 (by decide)
            exact ⟨⟨(H224.1 1835 k3), rfl, by omega, by omega⟩, hf226, (by omega : (H.1 1826 30) ≤ (H224.1 1826 30) ∧ (H224.1 1826 30) ≤ (H.1 1826 29)), (by omega : 0 ≤ (H224.1 1826 35) ∧ (H224.1 1826 35) ≤ 5), (by omega : 0 ≤ (H224.1 1826 32) ∧ (H224.1 1826 32) ≤ 1000), (by omega : (H224.1 1826 35) = 0 → (H224.1 1826 31) = 0 ∨ (H.1 1826 30) < (H224.1 1826 30)), (by omega : ((H.1 1826 44) ≠ 2 → (H224.1 1826 39) = (H.1 1826 39)) ∧ (H.1 1826 39) ≤ (H224.1 1826 39)), fun _ => TT_sign (s := (100 + (k3 : Int))) (q := ((H.1 1833) k3).toNat) hP hTT ⟨⟨(hx224f.2.2 1 (by decide)), (hx224f.2.2 3 (by decide)), (hx224f.2.2 8 (by decide)), (hx224f.2.2 44 (by decide))⟩, (hx224f.2.1 1833 (by decide) (by decide)), (hx224f.2.1 1830 (by decide) (by decide))⟩ (Or.inr (Or.inr (Or.inl ⟨by omega, by omega⟩))) (by rw [ma_f (by omega), show ((100 + (k3 : Int)) - 100).toNat = k3 by omega]; have := (pw2 k3 (by omega)).1; omega) (by have := (pw2 k3 (by omega)).1; omega) (by omega) ⟨(hx224f.2.2 40 (by decide)), (hx224f.2.2 43 (by decide)), (hx224f.2.2 41 (by decide))⟩ (hx224f.2.1 1851 (by decide) (by decide)) (Or.inl ⟨(hx224f.2.2 39 (by decide)), (hx224f.2.1 1850 (by decide) (by decide))⟩) (Or.inr ⟨(Or.inr ⟨by omega, by omega⟩), (hx224f.2.2 47 (by decide)), (hx224f.2.1 1852 (by decide) (by decide)), (hx224f.2.1 1853 (by decide) (by decide)), -1, (hx224f.2.1 1854 (by decide) (by decide))⟩)⟩
        · refine h_run 3 (pc' := 56) (l' := [(0, .inr (.inr 1826)), (1, .inl t), (2, .inl h), (3, .inl (k3 : Int))]) (st' := [.inl (k3 : Int), .inr (.inr 1835)]) rfl ?_
          refine h_ild (c := 1835) (j := k3) (i := (k3 : Int)) rfl rfl (by decide) rfl (by omega) ?_
          have g241 : -2147483648 ≤ (H.1 1835 k3) ∧ (H.1 1835 k3) ≤ 2147483647 := hrg0.2 1835 k3 16 .int rfl (by omega)
          refine h_run 0 (pc' := 57) (l' := [(0, .inr (.inr 1826)), (1, .inl t), (2, .inl h), (3, .inl (k3 : Int))]) (st' := [.inl (H.1 1835 k3)]) rfl ?_
          refine h_run 1 (pc' := 58) (l' := [(0, .inr (.inr 1826)), (1, .inl t), (2, .inl h), (3, .inl (k3 : Int))]) (st' := [.inl t, .inl (H.1 1835 k3)]) rfl ?_
          refine h_ieq (off := 8) (t := 66) rfl rfl (by omega) (by omega) (fun c242 => ?_) (fun c242 => ?_)
          · refine h_run 1 (pc' := 67) (l' := [(0, .inr (.inr 1826)), (1, .inl t), (2, .inl h), (3, .inl (k3 : Int))]) (st' := [.inr (.inr 1826)]) rfl ?_
            have g243 : -2147483648 ≤ (H.1 1826 40) ∧ (H.1 1826 40) ≤ 2147483647 := hrg0.1 1826 13 40 _ .int rfl rfl
            by_cases b244 : (H.1 1826 40) = 40
            · refine h_cv (i := 344) (j := 168) (b := 1826) (M' := mt_168) (xs := []) (rest := []) rfl rfl rfl rfl rfl rfl (Nat.le_of_ble_eq_true rfl) (Nat.le_of_ble_eq_true rfl) (by omega) (m_countB (by omega) (by omega : (H.1 1826 35) = 0) (by omega : (H.1 1826 40) = 40)) ?_
              rintro _ _ ⟨rfl, rfl⟩
              refine h_run 0 (pc' := 70) (l' := [(0, .inr (.inr 1826)), (1, .inl t), (2, .inl h), (3, .inl (k3 : Int))]) (st' := []) rfl ?_
              refine h_run 4 (pc' := 75) (l' := [(0, .inr (.inr 1826)), (1, .inl t), (2, .inl h), (3, .inl (k3 : Int))]) (st' := [.inl (100 + (k3 : Int)), .inr (.inr 1826)]) rfl ?_
              refine h_cv (i := 350) (j := 169) (b := 1826) (M' := mt_169) (xs := [.inl (100 + (k3 : Int))]) (rest := []) rfl rfl rfl rfl rfl rfl (Nat.le_of_ble_eq_true rfl) (Nat.le_of_ble_eq_true rfl) (by omega) (m_put0 (by omega) (by omega : (5 : Int) ≠ 0)) ?_
              rintro _ _ ⟨rfl, rfl⟩
              refine h_run 0 (pc' := 78) (l' := [(0, .inr (.inr 1826)), (1, .inl t), (2, .inl h), (3, .inl (k3 : Int))]) (st' := []) rfl ?_
              refine h_run 1 (pc' := 79) (l' := [(0, .inr (.inr 1826)), (1, .inl t), (2, .inl h), (3, .inl (k3 : Int))]) (st' := [.inr (.inr 1826)]) rfl ?_
              refine h_cv (i := 293) (j := 158) (b := 1826) (M' := mt_158) (xs := []) (rest := []) rfl rfl rfl rfl rfl rfl (Nat.le_of_ble_eq_true rfl) (Nat.le_of_ble_eq_true rfl) (by omega) (m_good0 (by omega) (by omega : (5 : Int) ≠ 0)) ?_
              rintro _ _ ⟨rfl, rfl⟩
              refine h_run 0 (pc' := 82) (l' := [(0, .inr (.inr 1826)), (1, .inl t), (2, .inl h), (3, .inl (k3 : Int))]) (st' := [.inl 0]) rfl ?_
              refine h_zeq (off := 16) (t := 98) rfl rfl (by decide) (fun _ => ?_) (fun c => absurd c (by decide))
              refine h_run 3 (pc' := 103) (l' := [(0, .inr (.inr 1826)), (1, .inl t), (2, .inl h), (3, .inl (k3 : Int))]) (st' := [.inl (k3 : Int), .inr (.inr 1835)]) rfl ?_
              refine h_ild (c := 1835) (j := k3) (i := (k3 : Int)) rfl rfl (by decide) rfl (by omega) ?_
              refine h_run 0 (pc' := 104) (l' := [(0, .inr (.inr 1826)), (1, .inl t), (2, .inl h), (3, .inl (k3 : Int))]) (st' := [.inl (H.1 1835 k3)]) rfl ?_
              have hct := (pw2 k3 (by omega)).2.1
              refine h_reti (x := (H.1 1835 k3)) rfl rfl ?_
              have g245 : -2147483648 ≤ (H.1 1826 30) ∧ (H.1 1826 30) ≤ 2147483647 := hrg0.1 1826 13 30 _ .int rfl rfl
              have g246 : -2147483648 ≤ (H.1 1826 32) ∧ (H.1 1826 32) ≤ 2147483647 := hrg0.1 1826 13 32 _ .int rfl rfl
              have g247 : -2147483648 ≤ (H.1 1826 29) ∧ (H.1 1826 29) ≤ 2147483647 := hrg0.1 1826 13 29 _ .int rfl rfl
              have g248 : -2147483648 ≤ (H.1 1826 31) ∧ (H.1 1826 31) ≤ 2147483647 := hrg0.1 1826 13 31 _ .int rfl rfl
              have g249 : -2147483648 ≤ (H.1 1826 1) ∧ (H.1 1826 1) ≤ 2147483647 := hrg0.1 1826 13 1 _ .int rfl rfl
              have g250 : -2147483648 ≤ (H.1 1826 39) ∧ (H.1 1826 39) ≤ 2147483647 := hrg0.1 1826 13 39 _ .int rfl rfl
              have g251 : -2147483648 ≤ (H.1 1826 44) ∧ (H.1 1826 44) ≤ 2147483647 := hrg0.1 1826 13 44 _ .int rfl rfl
              exact ⟨⟨(H.1 1835 k3), rfl, by omega, by omega⟩, (fr_o (fr_o (fr_o (fr_rf _ _ _) (by decide)) (by decide)) (by decide)), (by omega : (H.1 1826 30) ≤ (H.1 1826 30) ∧ (H.1 1826 30) ≤ (H.1 1826 29)), (by omega : 0 ≤ (5 : Int) ∧ (5 : Int) ≤ 5), (by omega : 0 ≤ (H.1 1826 32) ∧ (H.1 1826 32) ≤ 1000), (by omega : (5 : Int) = 0 → (H.1 1826 31) = 0 ∨ (H.1 1826 30) < (H.1 1826 30)), (by omega : ((H.1 1826 44) ≠ 2 → (H.1 1826 39) = (H.1 1826 39)) ∧ (H.1 1826 39) ≤ (H.1 1826 39)), (fun (q : (5 : Int) = 0) => absurd q (by omega))⟩
            · refine h_cv (i := 344) (j := 168) (b := 1826) (M' := mt_168) (xs := []) (rest := []) rfl rfl rfl rfl rfl rfl (Nat.le_of_ble_eq_true rfl) (Nat.le_of_ble_eq_true rfl) (by omega) (m_countA (by omega) (by omega : (H.1 1826 35) = 0) (by omega : 0 ≤ (H.1 1826 40) ∧ (H.1 1826 40) ≤ 1000) (by omega : (H.1 1826 40) ≠ 40)) ?_
              rintro _ _ ⟨rfl, rfl⟩
              refine h_run 0 (pc' := 70) (l' := [(0, .inr (.inr 1826)), (1, .inl t), (2, .inl h), (3, .inl (k3 : Int))]) (st' := []) rfl ?_
              refine h_run 4 (pc' := 75) (l' := [(0, .inr (.inr 1826)), (1, .inl t), (2, .inl h), (3, .inl (k3 : Int))]) (st' := [.inl (100 + (k3 : Int)), .inr (.inr 1826)]) rfl ?_
              have g252 : -2147483648 ≤ (H.1 1826 43) ∧ (H.1 1826 43) ≤ 2147483647 := hrg0.1 1826 13 43 _ .int rfl rfl
              refine h_cv (i := 350) (j := 169) (b := 1826) (M' := mt_169) (xs := [.inl (100 + (k3 : Int))]) (rest := []) rfl rfl rfl rfl rfl rfl (Nat.le_of_ble_eq_true rfl) (Nat.le_of_ble_eq_true rfl) (by omega) (m_put1 (by omega) (by omega : (H.1 1826 35) = 0) (by omega : 0 ≤ (H.1 1826 43) ∧ (H.1 1826 43) ≤ 47) (by omega)) ?_
              rintro _ _ ⟨rfl, rfl⟩
              refine h_run 0 (pc' := 78) (l' := [(0, .inr (.inr 1826)), (1, .inl t), (2, .inl h), (3, .inl (k3 : Int))]) (st' := []) rfl ?_
              refine h_run 1 (pc' := 79) (l' := [(0, .inr (.inr 1826)), (1, .inl t), (2, .inl h), (3, .inl (k3 : Int))]) (st' := [.inr (.inr 1826)]) rfl ?_
              refine h_cv (i := 293) (j := 158) (b := 1826) (M' := mt_158) (xs := []) (rest := []) rfl rfl rfl rfl rfl rfl (Nat.le_of_ble_eq_true rfl) (Nat.le_of_ble_eq_true rfl) (by omega) (m_good1 (by omega) (by omega : (H.1 1826 35) = 0)) ?_
              rintro _ _ ⟨rfl, rfl⟩
              refine h_run 0 (pc' := 82) (l' := [(0, .inr (.inr 1826)), (1, .inl t), (2, .inl h), (3, .inl (k3 : Int))]) (st' := [.inl 1]) rfl ?_
              refine h_zeq (off := 16) (t := 98) rfl rfl (by decide) (fun c => absurd c (by decide)) (fun _ => ?_)
              refine h_run 5 (pc' := 91) (l' := [(0, .inr (.inr 1826)), (1, .inl t), (2, .inl h), (3, .inl (k3 : Int))]) (st' := [.inl (-1), .inl (100 + (k3 : Int)), .inr (.inr 1826)]) rfl ?_
              have g253 : -2147483648 ≤ (H.1 1826 47) ∧ (H.1 1826 47) ≤ 2147483647 := hrg0.1 1826 13 47 _ .int rfl rfl
              refine h_cv (i := 364) (j := 181) (b := 1826) (M' := mt_181) (xs := [.inl (-1), .inl (100 + (k3 : Int))]) (rest := []) rfl rfl rfl rfl rfl rfl (Nat.le_of_ble_eq_true rfl) (Nat.le_of_ble_eq_true rfl) (by omega) (m_enter (by omega) (by omega : 0 ≤ (H.1 1826 47) ∧ (H.1 1826 47) ≤ 63) (by omega) (by omega)) ?_
              rintro _ _ ⟨rfl, rfl⟩
              refine h_run 0 (pc' := 94) (l' := [(0, .inr (.inr 1826)), (1, .inl t), (2, .inl h), (3, .inl (k3 : Int))]) (st' := []) rfl ?_
              refine h_run 1 (pc' := 95) (l' := [(0, .inr (.inr 1826)), (1, .inl t), (2, .inl h), (3, .inl (k3 : Int))]) (st' := [.inr (.inr 1826)]) rfl ?_
              have g254 : -2147483648 ≤ (H.1 1826 30) ∧ (H.1 1826 30) ≤ 2147483647 := hrg0.1 1826 13 30 _ .int rfl rfl
              have g255 : -2147483648 ≤ (H.1 1826 29) ∧ (H.1 1826 29) ≤ 2147483647 := hrg0.1 1826 13 29 _ .int rfl rfl
              have g256 : -2147483648 ≤ (H.1 1826 32) ∧ (H.1 1826 32) ≤ 2147483647 := hrg0.1 1826 13 32 _ .int rfl rfl
              refine h_cv (i := 297) (j := 165) (b := 1826) (M' := mt_165) (xs := []) (rest := []) rfl rfl rfl rfl rfl rfl (Nat.le_of_ble_eq_true rfl) (Nat.le_of_ble_eq_true rfl) (by omega) (m_next (by omega) (by omega : 0 ≤ (H.1 1826 30) ∧ (H.1 1826 30) ≤ (H.1 1826 29) ∧ (H.1 1826 29) ≤ 1000) (by omega : 0 ≤ (H.1 1826 35) ∧ (H.1 1826 35) ≤ 5) (by omega : 0 ≤ (H.1 1826 32) ∧ (H.1 1826 32) ≤ 1000)) ?_
              rintro _ H257 ⟨rfl, hx257f, hx257a, hx257b, hx257c, -, hx257e, hx257g⟩
              refine h_rng (fun hrg258 => ?_)
              have hf259 : fr [30, 31, 32, 33, 35, 36, 39, 40, 41, 43, 47] [1849, 1850, 1851, 1852, 1853, 1854] H H257 := fr_t (fr_o (fr_a (fr_a (fr_a (fr_o (fr_a (fr_o (fr_rf _ _ _) (by decide)) (by decide)) (by decide)) (by decide)) (by decide)) (by decide)) (by decide)) hx257f (by decide) (by decide)
              replace hx257a : (H.1 1826 30) ≤ (H257.1 1826 30) := hx257a
              replace hx257b : (H257.1 1826 30) ≤ (H.1 1826 29) := hx257b
              replace hx257g : (H257.1 1826 35) = 0 → ((H257.1 1826 31) = 0 ∨ (H.1 1826 30) < (H257.1 1826 30)) := hx257g
              refine h_run 0 (pc' := 98) (l' := [(0, .inr (.inr 1826)), (1, .inl t), (2, .inl h), (3, .inl (k3 : Int))]) (st' := []) rfl ?_
              refine h_run 3 (pc' := 103) (l' := [(0, .inr (.inr 1826)), (1, .inl t), (2, .inl h), (3, .inl (k3 : Int))]) (st' := [.inl (k3 : Int), .inr (.inr 1835)]) rfl ?_
              refine h_ild (c := 1835) (j := k3) (i := (k3 : Int)) rfl rfl (by decide) rfl (by omega) ?_
              have g260 : -2147483648 ≤ (H257.1 1835 k3) ∧ (H257.1 1835 k3) ≤ 2147483647 := hrg258.2 1835 k3 16 .int rfl (by omega)
              have e261 : (H257.1 1835 k3) = (H.1 1835 k3) := congrFun (hx257f.2.1 1835 (by decide) (by decide)) k3
              refine h_run 0 (pc' := 104) (l' := [(0, .inr (.inr 1826)), (1, .inl t), (2, .inl h), (3, .inl (k3 : Int))]) (st' := [.inl (H257.1 1835 k3)]) rfl ?_
              have hct := (pw2 k3 (by omega)).2.1
              refine h_reti (x := (H257.1 1835 k3)) rfl rfl ?_
              have g262 : -2147483648 ≤ (H257.1 1826 30) ∧ (H257.1 1826 30) ≤ 2147483647 := hrg258.1 1826 13 30 _ .int rfl rfl
              have g263 : -2147483648 ≤ (H257.1 1826 35) ∧ (H257.1 1826 35) ≤ 2147483647 := hrg258.1 1826 13 35 _ .int rfl rfl
              have g264 : -2147483648 ≤ (H257.1 1826 32) ∧ (H257.1 1826 32) ≤ 2147483647 := hrg258.1 1826 13 32 _ .int rfl rfl
              have g265 : -2147483648 ≤ (H257.1 1826 29) ∧ (H257.1 1826 29) ≤ 2147483647 := hrg258.1 1826 13 29 _ .int rfl rfl
              have e266 : (H257.1 1826 29) = (H.1 1826 29) := hx257f.2.2 29 (by decide)
              have g267 : -2147483648 ≤ (H257.1 1826 31) ∧ (H257.1 1826 31) ≤ 2147483647 := hrg258.1 1826 13 31 _ .int rfl rfl
              have g268 : -2147483648 ≤ (H257.1 1826 1) ∧ (H257.1 1826 1) ≤ 2147483647 := hrg258.1 1826 13 1 _ .int rfl rfl
              have e269 : (H257.1 1826 1) = (H.1 1826 1) := hx257f.2.2 1 (by decide)
              have g270 : -2147483648 ≤ (H257.1 1826 39) ∧ (H257.1 1826 39) ≤ 2147483647 := hrg258.1 1826 13 39 _ .int rfl rfl
              have e271 : (H257.1 1826 39) = (H.1 1826 39) := hx257f.2.2 39 (by decide)
              have g272 : -2147483648 ≤ (H257.1 1826 44) ∧ (H257.1 1826 44) ≤ 2147483647 := hrg258.1 1826 13 44 _ .int rfl rfl
              have e273 : (H257.1 1826 44) = (H.1 1826 44) := hx257f.2.2 44 (by decide)
              exact ⟨⟨(H257.1 1835 k3), rfl, by omega, by omega⟩, hf259, (by omega : (H.1 1826 30) ≤ (H257.1 1826 30) ∧ (H257.1 1826 30) ≤ (H.1 1826 29)), (by omega : 0 ≤ (H257.1 1826 35) ∧ (H257.1 1826 35) ≤ 5), (by omega : 0 ≤ (H257.1 1826 32) ∧ (H257.1 1826 32) ≤ 1000), (by omega : (H257.1 1826 35) = 0 → (H257.1 1826 31) = 0 ∨ (H.1 1826 30) < (H257.1 1826 30)), (by omega : ((H.1 1826 44) ≠ 2 → (H257.1 1826 39) = (H.1 1826 39)) ∧ (H.1 1826 39) ≤ (H257.1 1826 39)), fun _ => TT_sign (s := (100 + (k3 : Int))) (q := ((H.1 1833) k3).toNat) hP hTT ⟨⟨(hx257f.2.2 1 (by decide)), (hx257f.2.2 3 (by decide)), (hx257f.2.2 8 (by decide)), (hx257f.2.2 44 (by decide))⟩, (hx257f.2.1 1833 (by decide) (by decide)), (hx257f.2.1 1830 (by decide) (by decide))⟩ (Or.inr (Or.inr (Or.inl ⟨by omega, by omega⟩))) (by rw [ma_f (by omega), show ((100 + (k3 : Int)) - 100).toNat = k3 by omega]; have := (pw2 k3 (by omega)).1; omega) (by have := (pw2 k3 (by omega)).1; omega) (by omega) ⟨(hx257f.2.2 40 (by decide)), (hx257f.2.2 43 (by decide)), (hx257f.2.2 41 (by decide))⟩ (hx257f.2.1 1851 (by decide) (by decide)) (Or.inl ⟨(hx257f.2.2 39 (by decide)), (hx257f.2.1 1850 (by decide) (by decide))⟩) (Or.inr ⟨(Or.inr ⟨by omega, by omega⟩), (hx257f.2.2 47 (by decide)), (hx257f.2.1 1852 (by decide) (by decide)), (hx257f.2.1 1853 (by decide) (by decide)), -1, (hx257f.2.1 1854 (by decide) (by decide))⟩)⟩
          · refine h_run 2 (pc' := 63) (l' := [(0, .inr (.inr 1826)), (1, .inl t), (2, .inl h), (3, .inl (k3 : Int))]) (st' := [.inl 4, .inr (.inr 1826)]) rfl ?_
            refine h_cv (i := 278) (j := 159) (b := 1826) (M' := mt_159) (xs := [.inl 4]) (rest := []) rfl rfl rfl rfl rfl rfl (Nat.le_of_ble_eq_true rfl) (Nat.le_of_ble_eq_true rfl) (by omega) (m_bad0 (by omega) (by omega) (by omega : (H.1 1826 35) = 0)) ?_
            rintro _ _ ⟨rfl, rfl⟩
            refine h_run 0 (pc' := 66) (l' := [(0, .inr (.inr 1826)), (1, .inl t), (2, .inl h), (3, .inl (k3 : Int))]) (st' := []) rfl ?_
            refine h_run 1 (pc' := 67) (l' := [(0, .inr (.inr 1826)), (1, .inl t), (2, .inl h), (3, .inl (k3 : Int))]) (st' := [.inr (.inr 1826)]) rfl ?_
            have g274 : -2147483648 ≤ (H.1 1826 40) ∧ (H.1 1826 40) ≤ 2147483647 := hrg0.1 1826 13 40 _ .int rfl rfl
            refine h_cv (i := 344) (j := 168) (b := 1826) (M' := mt_168) (xs := []) (rest := []) rfl rfl rfl rfl rfl rfl (Nat.le_of_ble_eq_true rfl) (Nat.le_of_ble_eq_true rfl) (by omega) (m_countC (by omega) (by omega : (4 : Int) ≠ 0) (by omega : 0 ≤ (H.1 1826 40) ∧ (H.1 1826 40) ≤ 1000)) ?_
            rintro _ _ ⟨rfl, rfl⟩
            refine h_run 0 (pc' := 70) (l' := [(0, .inr (.inr 1826)), (1, .inl t), (2, .inl h), (3, .inl (k3 : Int))]) (st' := []) rfl ?_
            refine h_run 4 (pc' := 75) (l' := [(0, .inr (.inr 1826)), (1, .inl t), (2, .inl h), (3, .inl (k3 : Int))]) (st' := [.inl (100 + (k3 : Int)), .inr (.inr 1826)]) rfl ?_
            refine h_cv (i := 350) (j := 169) (b := 1826) (M' := mt_169) (xs := [.inl (100 + (k3 : Int))]) (rest := []) rfl rfl rfl rfl rfl rfl (Nat.le_of_ble_eq_true rfl) (Nat.le_of_ble_eq_true rfl) (by omega) (m_put0 (by omega) (by omega : (4 : Int) ≠ 0)) ?_
            rintro _ _ ⟨rfl, rfl⟩
            refine h_run 0 (pc' := 78) (l' := [(0, .inr (.inr 1826)), (1, .inl t), (2, .inl h), (3, .inl (k3 : Int))]) (st' := []) rfl ?_
            refine h_run 1 (pc' := 79) (l' := [(0, .inr (.inr 1826)), (1, .inl t), (2, .inl h), (3, .inl (k3 : Int))]) (st' := [.inr (.inr 1826)]) rfl ?_
            refine h_cv (i := 293) (j := 158) (b := 1826) (M' := mt_158) (xs := []) (rest := []) rfl rfl rfl rfl rfl rfl (Nat.le_of_ble_eq_true rfl) (Nat.le_of_ble_eq_true rfl) (by omega) (m_good0 (by omega) (by omega : (4 : Int) ≠ 0)) ?_
            rintro _ _ ⟨rfl, rfl⟩
            refine h_run 0 (pc' := 82) (l' := [(0, .inr (.inr 1826)), (1, .inl t), (2, .inl h), (3, .inl (k3 : Int))]) (st' := [.inl 0]) rfl ?_
            refine h_zeq (off := 16) (t := 98) rfl rfl (by decide) (fun _ => ?_) (fun c => absurd c (by decide))
            refine h_run 3 (pc' := 103) (l' := [(0, .inr (.inr 1826)), (1, .inl t), (2, .inl h), (3, .inl (k3 : Int))]) (st' := [.inl (k3 : Int), .inr (.inr 1835)]) rfl ?_
            refine h_ild (c := 1835) (j := k3) (i := (k3 : Int)) rfl rfl (by decide) rfl (by omega) ?_
            refine h_run 0 (pc' := 104) (l' := [(0, .inr (.inr 1826)), (1, .inl t), (2, .inl h), (3, .inl (k3 : Int))]) (st' := [.inl (H.1 1835 k3)]) rfl ?_
            have hct := (pw2 k3 (by omega)).2.1
            refine h_reti (x := (H.1 1835 k3)) rfl rfl ?_
            have g275 : -2147483648 ≤ (H.1 1826 30) ∧ (H.1 1826 30) ≤ 2147483647 := hrg0.1 1826 13 30 _ .int rfl rfl
            have g276 : -2147483648 ≤ (H.1 1826 32) ∧ (H.1 1826 32) ≤ 2147483647 := hrg0.1 1826 13 32 _ .int rfl rfl
            have g277 : -2147483648 ≤ (H.1 1826 29) ∧ (H.1 1826 29) ≤ 2147483647 := hrg0.1 1826 13 29 _ .int rfl rfl
            have g278 : -2147483648 ≤ (H.1 1826 31) ∧ (H.1 1826 31) ≤ 2147483647 := hrg0.1 1826 13 31 _ .int rfl rfl
            have g279 : -2147483648 ≤ (H.1 1826 1) ∧ (H.1 1826 1) ≤ 2147483647 := hrg0.1 1826 13 1 _ .int rfl rfl
            have g280 : -2147483648 ≤ (H.1 1826 39) ∧ (H.1 1826 39) ≤ 2147483647 := hrg0.1 1826 13 39 _ .int rfl rfl
            have g281 : -2147483648 ≤ (H.1 1826 44) ∧ (H.1 1826 44) ≤ 2147483647 := hrg0.1 1826 13 44 _ .int rfl rfl
            exact ⟨⟨(H.1 1835 k3), rfl, by omega, by omega⟩, (fr_o (fr_o (fr_o (fr_rf _ _ _) (by decide)) (by decide)) (by decide)), (by omega : (H.1 1826 30) ≤ (H.1 1826 30) ∧ (H.1 1826 30) ≤ (H.1 1826 29)), (by omega : 0 ≤ (4 : Int) ∧ (4 : Int) ≤ 5), (by omega : 0 ≤ (H.1 1826 32) ∧ (H.1 1826 32) ≤ 1000), (by omega : (4 : Int) = 0 → (H.1 1826 31) = 0 ∨ (H.1 1826 30) < (H.1 1826 30)), (by omega : ((H.1 1826 44) ≠ 2 → (H.1 1826 39) = (H.1 1826 39)) ∧ (H.1 1826 39) ≤ (H.1 1826 39)), (fun (q : (4 : Int) = 0) => absurd q (by omega))⟩
      · refine h_run 3 (pc' := 30) (l' := [(0, .inr (.inr 1826)), (1, .inl t), (2, .inl h), (3, .inl (k3 : Int))]) (st' := [.inl (k3 : Int), .inr (.inr 1833)]) rfl ?_
        refine h_ild (c := 1833) (j := k3) (i := (k3 : Int)) rfl rfl (by decide) rfl (by omega) ?_
        have g282 : -2147483648 ≤ (H.1 1833 k3) ∧ (H.1 1833 k3) ≤ 2147483647 := hrg0.2 1833 k3 16 .int rfl (by omega)
        refine h_run 0 (pc' := 31) (l' := [(0, .inr (.inr 1826)), (1, .inl t), (2, .inl h), (3, .inl (k3 : Int))]) (st' := [.inl (H.1 1833 k3)]) rfl ?_
        refine h_zle (off := 8) (t := 39) rfl rfl (by omega) (fun c283 => ?_) (fun c283 => ?_)
        · refine h_run 1 (pc' := 40) (l' := [(0, .inr (.inr 1826)), (1, .inl t), (2, .inl h), (3, .inl (k3 : Int))]) (st' := [.inr (.inr 1826)]) rfl ?_
          have g284 : -2147483648 ≤ (H.1 1826 35) ∧ (H.1 1826 35) ≤ 2147483647 := hrg0.1 1826 13 35 _ .int rfl rfl
          refine h_cv (i := 293) (j := 158) (b := 1826) (M' := mt_158) (xs := []) (rest := []) rfl rfl rfl rfl rfl rfl (Nat.le_of_ble_eq_true rfl) (Nat.le_of_ble_eq_true rfl) (by omega) (m_good1 (by omega) (by omega : (H.1 1826 35) = 0)) ?_
          rintro _ _ ⟨rfl, rfl⟩
          refine h_run 0 (pc' := 43) (l' := [(0, .inr (.inr 1826)), (1, .inl t), (2, .inl h), (3, .inl (k3 : Int))]) (st' := [.inl 1]) rfl ?_
          refine h_zeq (off := 23) (t := 66) rfl rfl (by decide) (fun c => absurd c (by decide)) (fun _ => ?_)
          refine h_run 2 (pc' := 48) (l' := [(0, .inr (.inr 1826)), (1, .inl t), (2, .inl h), (3, .inl (k3 : Int))]) (st' := [.inl (-1), .inl t]) rfl ?_
          refine h_ieq (off := 18) (t := 66) rfl rfl (by omega) (by decide) (fun c285 => ?_) (fun c285 => ?_)
          · refine h_run 1 (pc' := 67) (l' := [(0, .inr (.inr 1826)), (1, .inl t), (2, .inl h), (3, .inl (k3 : Int))]) (st' := [.inr (.inr 1826)]) rfl ?_
            have g286 : -2147483648 ≤ (H.1 1826 40) ∧ (H.1 1826 40) ≤ 2147483647 := hrg0.1 1826 13 40 _ .int rfl rfl
            by_cases b287 : (H.1 1826 40) = 40
            · refine h_cv (i := 344) (j := 168) (b := 1826) (M' := mt_168) (xs := []) (rest := []) rfl rfl rfl rfl rfl rfl (Nat.le_of_ble_eq_true rfl) (Nat.le_of_ble_eq_true rfl) (by omega) (m_countB (by omega) (by omega : (H.1 1826 35) = 0) (by omega : (H.1 1826 40) = 40)) ?_
              rintro _ _ ⟨rfl, rfl⟩
              refine h_run 0 (pc' := 70) (l' := [(0, .inr (.inr 1826)), (1, .inl t), (2, .inl h), (3, .inl (k3 : Int))]) (st' := []) rfl ?_
              refine h_run 4 (pc' := 75) (l' := [(0, .inr (.inr 1826)), (1, .inl t), (2, .inl h), (3, .inl (k3 : Int))]) (st' := [.inl (100 + (k3 : Int)), .inr (.inr 1826)]) rfl ?_
              refine h_cv (i := 350) (j := 169) (b := 1826) (M' := mt_169) (xs := [.inl (100 + (k3 : Int))]) (rest := []) rfl rfl rfl rfl rfl rfl (Nat.le_of_ble_eq_true rfl) (Nat.le_of_ble_eq_true rfl) (by omega) (m_put0 (by omega) (by omega : (5 : Int) ≠ 0)) ?_
              rintro _ _ ⟨rfl, rfl⟩
              refine h_run 0 (pc' := 78) (l' := [(0, .inr (.inr 1826)), (1, .inl t), (2, .inl h), (3, .inl (k3 : Int))]) (st' := []) rfl ?_
              refine h_run 1 (pc' := 79) (l' := [(0, .inr (.inr 1826)), (1, .inl t), (2, .inl h), (3, .inl (k3 : Int))]) (st' := [.inr (.inr 1826)]) rfl ?_
              refine h_cv (i := 293) (j := 158) (b := 1826) (M' := mt_158) (xs := []) (rest := []) rfl rfl rfl rfl rfl rfl (Nat.le_of_ble_eq_true rfl) (Nat.le_of_ble_eq_true rfl) (by omega) (m_good0 (by omega) (by omega : (5 : Int) ≠ 0)) ?_
              rintro _ _ ⟨rfl, rfl⟩
              refine h_run 0 (pc' := 82) (l' := [(0, .inr (.inr 1826)), (1, .inl t), (2, .inl h), (3, .inl (k3 : Int))]) (st' := [.inl 0]) rfl ?_
              refine h_zeq (off := 16) (t := 98) rfl rfl (by decide) (fun _ => ?_) (fun c => absurd c (by decide))
              refine h_run 3 (pc' := 103) (l' := [(0, .inr (.inr 1826)), (1, .inl t), (2, .inl h), (3, .inl (k3 : Int))]) (st' := [.inl (k3 : Int), .inr (.inr 1835)]) rfl ?_
              refine h_ild (c := 1835) (j := k3) (i := (k3 : Int)) rfl rfl (by decide) rfl (by omega) ?_
              have g288 : -2147483648 ≤ (H.1 1835 k3) ∧ (H.1 1835 k3) ≤ 2147483647 := hrg0.2 1835 k3 16 .int rfl (by omega)
              refine h_run 0 (pc' := 104) (l' := [(0, .inr (.inr 1826)), (1, .inl t), (2, .inl h), (3, .inl (k3 : Int))]) (st' := [.inl (H.1 1835 k3)]) rfl ?_
              have hct := (pw2 k3 (by omega)).2.1
              refine h_reti (x := (H.1 1835 k3)) rfl rfl ?_
              have g289 : -2147483648 ≤ (H.1 1826 30) ∧ (H.1 1826 30) ≤ 2147483647 := hrg0.1 1826 13 30 _ .int rfl rfl
              have g290 : -2147483648 ≤ (H.1 1826 32) ∧ (H.1 1826 32) ≤ 2147483647 := hrg0.1 1826 13 32 _ .int rfl rfl
              have g291 : -2147483648 ≤ (H.1 1826 29) ∧ (H.1 1826 29) ≤ 2147483647 := hrg0.1 1826 13 29 _ .int rfl rfl
              have g292 : -2147483648 ≤ (H.1 1826 31) ∧ (H.1 1826 31) ≤ 2147483647 := hrg0.1 1826 13 31 _ .int rfl rfl
              have g293 : -2147483648 ≤ (H.1 1826 1) ∧ (H.1 1826 1) ≤ 2147483647 := hrg0.1 1826 13 1 _ .int rfl rfl
              have g294 : -2147483648 ≤ (H.1 1826 39) ∧ (H.1 1826 39) ≤ 2147483647 := hrg0.1 1826 13 39 _ .int rfl rfl
              have g295 : -2147483648 ≤ (H.1 1826 44) ∧ (H.1 1826 44) ≤ 2147483647 := hrg0.1 1826 13 44 _ .int rfl rfl
              exact ⟨⟨(H.1 1835 k3), rfl, by omega, by omega⟩, (fr_o (fr_o (fr_o (fr_rf _ _ _) (by decide)) (by decide)) (by decide)), (by omega : (H.1 1826 30) ≤ (H.1 1826 30) ∧ (H.1 1826 30) ≤ (H.1 1826 29)), (by omega : 0 ≤ (5 : Int) ∧ (5 : Int) ≤ 5), (by omega : 0 ≤ (H.1 1826 32) ∧ (H.1 1826 32) ≤ 1000), (by omega : (5 : Int) = 0 → (H.1 1826 31) = 0 ∨ (H.1 1826 30) < (H.1 1826 30)), (by omega : ((H.1 1826 44) ≠ 2 → (H.1 1826 39) = (H.1 1826 39)) ∧ (H.1 1826 39) ≤ (H.1 1826 39)), (fun (q : (5 : Int) = 0) => absurd q (by omega))⟩
            · refine h_cv (i := 344) (j := 168) (b := 1826) (M' := mt_168) (xs := []) (rest := []) rfl rfl rfl rfl rfl rfl (Nat.le_of_ble_eq_true rfl) (Nat.le_of_ble_eq_true rfl) (by omega) (m_countA (by omega) (by omega : (H.1 1826 35) = 0) (by omega : 0 ≤ (H.1 1826 40) ∧ (H.1 1826 40) ≤ 1000) (by omega : (H.1 1826 40) ≠ 40)) ?_
              rintro _ _ ⟨rfl, rfl⟩
              refine h_run 0 (pc' := 70) (l' := [(0, .inr (.inr 1826)), (1, .inl t), (2, .inl h), (3, .inl (k3 : Int))]) (st' := []) rfl ?_
              refine h_run 4 (pc' := 75) (l' := [(0, .inr (.inr 1826)), (1, .inl t), (2, .inl h), (3, .inl (k3 : Int))]) (st' := [.inl (100 + (k3 : Int)), .inr (.inr 1826)]) rfl ?_
              have g296 : -2147483648 ≤ (H.1 1826 43) ∧ (H.1 1826 43) ≤ 2147483647 := hrg0.1 1826 13 43 _ .int rfl rfl
              refine h_cv (i := 350) (j := 169) (b := 1826) (M' := mt_169) (xs := [.inl (100 + (k3 : Int))]) (rest := []) rfl rfl rfl rfl rfl rfl (Nat.le_of_ble_eq_true rfl) (Nat.le_of_ble_eq_true rfl) (by omega) (m_put1 (by omega) (by omega : (H.1 1826 35) = 0) (by omega : 0 ≤ (H.1 1826 43) ∧ (H.1 1826 43) ≤ 47) (by omega)) ?_
              rintro _ _ ⟨rfl, rfl⟩
              refine h_run 0 (pc' := 78) (l' := [(0, .inr (.inr 1826)), (1, .inl t), (2, .inl h), (3, .inl (k3 : Int))]) (st' := []) rfl ?_
              refine h_run 1 (pc' := 79) (l' := [(0, .inr (.inr 1826)), (1, .inl t), (2, .inl h), (3, .inl (k3 : Int))]) (st' := [.inr (.inr 1826)]) rfl ?_
              refine h_cv (i := 293) (j := 158) (b := 1826) (M' := mt_158) (xs := []) (rest := []) rfl rfl rfl rfl rfl rfl (Nat.le_of_ble_eq_true rfl) (Nat.le_of_ble_eq_true rfl) (by omega) (m_good1 (by omega) (by omega : (H.1 1826 35) = 0)) ?_
              rintro _ _ ⟨rfl, rfl⟩
              refine h_run 0 (pc' := 82) (l' := [(0, .inr (.inr 1826)), (1, .inl t), (2, .inl h), (3, .inl (k3 : Int))]) (st' := [.inl 1]) rfl ?_
              refine h_zeq (off := 16) (t := 98) rfl rfl (by decide) (fun c => absurd c (by decide)) (fun _ => ?_)
              refine h_run 5 (pc' := 91) (l' := [(0, .inr (.inr 1826)), (1, .inl t), (2, .inl h), (3, .inl (k3 : Int))]) (st' := [.inl (-1), .inl (100 + (k3 : Int)), .inr (.inr 1826)]) rfl ?_
              have g297 : -2147483648 ≤ (H.1 1826 47) ∧ (H.1 1826 47) ≤ 2147483647 := hrg0.1 1826 13 47 _ .int rfl rfl
              refine h_cv (i := 364) (j := 181) (b := 1826) (M' := mt_181) (xs := [.inl (-1), .inl (100 + (k3 : Int))]) (rest := []) rfl rfl rfl rfl rfl rfl (Nat.le_of_ble_eq_true rfl) (Nat.le_of_ble_eq_true rfl) (by omega) (m_enter (by omega) (by omega : 0 ≤ (H.1 1826 47) ∧ (H.1 1826 47) ≤ 63) (by omega) (by omega)) ?_
              rintro _ _ ⟨rfl, rfl⟩
              refine h_run 0 (pc' := 94) (l' := [(0, .inr (.inr 1826)), (1, .inl t), (2, .inl h), (3, .inl (k3 : Int))]) (st' := []) rfl ?_
              refine h_run 1 (pc' := 95) (l' := [(0, .inr (.inr 1826)), (1, .inl t), (2, .inl h), (3, .inl (k3 : Int))]) (st' := [.inr (.inr 1826)]) rfl ?_
              have g298 : -2147483648 ≤ (H.1 1826 30) ∧ (H.1 1826 30) ≤ 2147483647 := hrg0.1 1826 13 30 _ .int rfl rfl
              have g299 : -2147483648 ≤ (H.1 1826 29) ∧ (H.1 1826 29) ≤ 2147483647 := hrg0.1 1826 13 29 _ .int rfl rfl
              have g300 : -2147483648 ≤ (H.1 1826 32) ∧ (H.1 1826 32) ≤ 2147483647 := hrg0.1 1826 13 32 _ .int rfl rfl
              refine h_cv (i := 297) (j := 165) (b := 1826) (M' := mt_165) (xs := []) (rest := []) rfl rfl rfl rfl rfl rfl (Nat.le_of_ble_eq_true rfl) (Nat.le_of_ble_eq_true rfl) (by omega) (m_next (by omega) (by omega : 0 ≤ (H.1 1826 30) ∧ (H.1 1826 30) ≤ (H.1 1826 29) ∧ (H.1 1826 29) ≤ 1000) (by omega : 0 ≤ (H.1 1826 35) ∧ (H.1 1826 35) ≤ 5) (by omega : 0 ≤ (H.1 1826 32) ∧ (H.1 1826 32) ≤ 1000)) ?_
              rintro _ H301 ⟨rfl, hx301f, hx301a, hx301b, hx301c, -, hx301e, hx301g⟩
              refine h_rng (fun hrg302 => ?_)
              have hf303 : fr [30, 31, 32, 33, 35, 36, 39, 40, 41, 43, 47] [1849, 1850, 1851, 1852, 1853, 1854] H H301 := fr_t (fr_o (fr_a (fr_a (fr_a (fr_o (fr_a (fr_o (fr_rf _ _ _) (by decide)) (by decide)) (by decide)) (by decide)) (by decide)) (by decide)) (by decide)) hx301f (by decide) (by decide)
              replace hx301a : (H.1 1826 30) ≤ (H301.1 1826 30) := hx301a
              replace hx301b : (H301.1 1826 30) ≤ (H.1 1826 29) := hx301b
              replace hx301g : (H301.1 1826 35) = 0 → ((H301.1 1826 31) = 0 ∨ (H.1 1826 30) < (H301.1 1826 30)) := hx301g
              refine h_run 0 (pc' := 98) (l' := [(0, .inr (.inr 1826)), (1, .inl t), (2, .inl h), (3, .inl (k3 : Int))]) (st' := []) rfl ?_
              refine h_run 3 (pc' := 103) (l' := [(0, .inr (.inr 1826)), (1, .inl t), (2, .inl h), (3, .inl (k3 : Int))]) (st' := [.inl (k3 : Int), .inr (.inr 1835)]) rfl ?_
              refine h_ild (c := 1835) (j := k3) (i := (k3 : Int)) rfl rfl (by decide) rfl (by omega) ?_
              have g304 : -2147483648 ≤ (H301.1 1835 k3) ∧ (H301.1 1835 k3) ≤ 2147483647 := hrg302.2 1835 k3 16 .int rfl (by omega)
              have e305 : (H301.1 1835 k3) = (H.1 1835 k3) := congrFun (hx301f.2.1 1835 (by decide) (by decide)) k3
              refine h_run 0 (pc' := 104) (l' := [(0, .inr (.inr 1826)), (1, .inl t), (2, .inl h), (3, .inl (k3 : Int))]) (st' := [.inl (H301.1 1835 k3)]) rfl ?_
              have hct := (pw2 k3 (by omega)).2.1
              refine h_reti (x := (H301.1 1835 k3)) rfl rfl ?_
              have g306 : -2147483648 ≤ (H301.1 1826 30) ∧ (H301.1 1826 30) ≤ 2147483647 := hrg302.1 1826 13 30 _ .int rfl rfl
              have g307 : -2147483648 ≤ (H301.1 1826 35) ∧ (H301.1 1826 35) ≤ 2147483647 := hrg302.1 1826 13 35 _ .int rfl rfl
              have g308 : -2147483648 ≤ (H301.1 1826 32) ∧ (H301.1 1826 32) ≤ 2147483647 := hrg302.1 1826 13 32 _ .int rfl rfl
              have g309 : -2147483648 ≤ (H301.1 1826 29) ∧ (H301.1 1826 29) ≤ 2147483647 := hrg302.1 1826 13 29 _ .int rfl rfl
              have e310 : (H301.1 1826 29) = (H.1 1826 29) := hx301f.2.2 29 (by decide)
              have g311 : -2147483648 ≤ (H301.1 1826 31) ∧ (H301.1 1826 31) ≤ 2147483647 := hrg302.1 1826 13 31 _ .int rfl rfl
              have g312 : -2147483648 ≤ (H301.1 1826 1) ∧ (H301.1 1826 1) ≤ 2147483647 := hrg302.1 1826 13 1 _ .int rfl rfl
              have e313 : (H301.1 1826 1) = (H.1 1826 1) := hx301f.2.2 1 (by decide)
              have g314 : -2147483648 ≤ (H301.1 1826 39) ∧ (H301.1 1826 39) ≤ 2147483647 := hrg302.1 1826 13 39 _ .int rfl rfl
              have e315 : (H301.1 1826 39) = (H.1 1826 39) := hx301f.2.2 39 (by decide)
              have g316 : -2147483648 ≤ (H301.1 1826 44) ∧ (H301.1 1826 44) ≤ 2147483647 := hrg302.1 1826 13 44 _ .int rfl rfl
              have e317 : (H301.1 1826 44) = (H.1 1826 44) := hx301f.2.2 44 (by decide)
              exact ⟨⟨(H301.1 1835 k3), rfl, by omega, by omega⟩, hf303, (by omega : (H.1 1826 30) ≤ (H301.1 1826 30) ∧ (H301.1 1826 30) ≤ (H.1 1826 29)), (by omega : 0 ≤ (H301.1 1826 35) ∧ (H301.1 1826 35) ≤ 5), (by omega : 0 ≤ (H301.1 1826 32) ∧ (H301.1 1826 32) ≤ 1000), (by omega : (H301.1 1826 35) = 0 → (H301.1 1826 31) = 0 ∨ (H.1 1826 30) < (H301.1 1826 30)), (by omega : ((H.1 1826 44) ≠ 2 → (H301.1 1826 39) = (H.1 1826 39)) ∧ (H.1 1826 39) ≤ (H301.1 1826 39)), fun _ => TT_sign (s := (100 + (k3 : Int))) (q := ((H.1 1833) k3).toNat) hP hTT ⟨⟨(hx301f.2.2 1 (by decide)), (hx301f.2.2 3 (by decide)), (hx301f.2.2 8 (by decide)), (hx301f.2.2 44 (by decide))⟩, (hx301f.2.1 1833 (by decide) (by decide)), (hx301f.2.1 1830 (by decide) (by decide))⟩ (Or.inr (Or.inr (Or.inl ⟨by omega, by omega⟩))) (by rw [ma_f (by omega), show ((100 + (k3 : Int)) - 100).toNat = k3 by omega]; have := (pw2 k3 (by omega)).1; omega) (by have := (pw2 k3 (by omega)).1; omega) (by omega) ⟨(hx301f.2.2 40 (by decide)), (hx301f.2.2 43 (by decide)), (hx301f.2.2 41 (by decide))⟩ (hx301f.2.1 1851 (by decide) (by decide)) (Or.inl ⟨(hx301f.2.2 39 (by decide)), (hx301f.2.1 1850 (by decide) (by decide))⟩) (Or.inr ⟨(Or.inr ⟨by omega, by omega⟩), (hx301f.2.2 47 (by decide)), (hx301f.2.1 1852 (by decide) (by decide)), (hx301f.2.1 1853 (by decide) (by decide)), -1, (hx301f.2.1 1854 (by decide) (by decide))⟩)⟩
          · refine h_run 3 (pc' := 56) (l' := [(0, .inr (.inr 1826)), (1, .inl t), (2, .inl h), (3, .inl (k3 : Int))]) (st' := [.inl (k3 : Int), .inr (.inr 1835)]) rfl ?_
            refine h_ild (c := 1835) (j := k3) (i := (k3 : Int)) rfl rfl (by decide) rfl (by omega) ?_
            have g318 : -2147483648 ≤ (H.1 1835 k3) ∧ (H.1 1835 k3) ≤ 2147483647 := hrg0.2 1835 k3 16 .int rfl (by omega)
            refine h_run 0 (pc' := 57) (l' := [(0, .inr (.inr 1826)), (1, .inl t), (2, .inl h), (3, .inl (k3 : Int))]) (st' := [.inl (H.1 1835 k3)]) rfl ?_
            refine h_run 1 (pc' := 58) (l' := [(0, .inr (.inr 1826)), (1, .inl t), (2, .inl h), (3, .inl (k3 : Int))]) (st' := [.inl t, .inl (H.1 1835 k3)]) rfl ?_
            refine h_ieq (off := 8) (t := 66) rfl rfl (by omega) (by omega) (fun c319 => ?_) (fun c319 => ?_)
            · refine h_run 1 (pc' := 67) (l' := [(0, .inr (.inr 1826)), (1, .inl t), (2, .inl h), (3, .inl (k3 : Int))]) (st' := [.inr (.inr 1826)]) rfl ?_
              have g320 : -2147483648 ≤ (H.1 1826 40) ∧ (H.1 1826 40) ≤ 2147483647 := hrg0.1 1826 13 40 _ .int rfl rfl
              by_cases b321 : (H.1 1826 40) = 40
              · refine h_cv (i := 344) (j := 168) (b := 1826) (M' := mt_168) (xs := []) (rest := []) rfl rfl rfl rfl rfl rfl (Nat.le_of_ble_eq_true rfl) (Nat.le_of_ble_eq_true rfl) (by omega) (m_countB (by omega) (by omega : (H.1 1826 35) = 0) (by omega : (H.1 1826 40) = 40)) ?_
                rintro _ _ ⟨rfl, rfl⟩
                refine h_run 0 (pc' := 70) (l' := [(0, .inr (.inr 1826)), (1, .inl t), (2, .inl h), (3, .inl (k3 : Int))]) (st' := []) rfl ?_
                refine h_run 4 (pc' := 75) (l' := [(0, .inr (.inr 1826)), (1, .inl t), (2, .inl h), (3, .inl (k3 : Int))]) (st' := [.inl (100 + (k3 : Int)), .inr (.inr 1826)]) rfl ?_
                refine h_cv (i := 350) (j := 169) (b := 1826) (M' := mt_169) (xs := [.inl (100 + (k3 : Int))]) (rest := []) rfl rfl rfl rfl rfl rfl (Nat.le_of_ble_eq_true rfl) (Nat.le_of_ble_eq_true rfl) (by omega) (m_put0 (by omega) (by omega : (5 : Int) ≠ 0)) ?_
                rintro _ _ ⟨rfl, rfl⟩
                refine h_run 0 (pc' := 78) (l' := [(0, .inr (.inr 1826)), (1, .inl t), (2, .inl h), (3, .inl (k3 : Int))]) (st' := []) rfl ?_
                refine h_run 1 (pc' := 79) (l' := [(0, .inr (.inr 1826)), (1, .inl t), (2, .inl h), (3, .inl (k3 : Int))]) (st' := [.inr (.inr 1826)]) rfl ?_
                refine h_cv (i := 293) (j := 158) (b := 1826) (M' := mt_158) (xs := []) (rest := []) rfl rfl rfl rfl rfl rfl (Nat.le_of_ble_eq_true rfl) (Nat.le_of_ble_eq_true rfl) (by omega) (m_good0 (by omega) (by omega : (5 : Int) ≠ 0)) ?_
                rintro _ _ ⟨rfl, rfl⟩
                refine h_run 0 (pc' := 82) (l' := [(0, .inr (.inr 1826)), (1, .inl t), (2, .inl h), (3, .inl (k3 : Int))]) (st' := [.inl 0]) rfl ?_
                refine h_zeq (off := 16) (t := 98) rfl rfl (by decide) (fun _ => ?_) (fun c => absurd c (by decide))
                refine h_run 3 (pc' := 103) (l' := [(0, .inr (.inr 1826)), (1, .inl t), (2, .inl h), (3, .inl (k3 : Int))]) (st' := [.inl (k3 : Int), .inr (.inr 1835)]) rfl ?_
                refine h_ild (c := 1835) (j := k3) (i := (k3 : Int)) rfl rfl (by decide) rfl (by omega) ?_
                refine h_run 0 (pc' := 104) (l' := [(0, .inr (.inr 1826)), (1, .inl t), (2, .inl h), (3, .inl (k3 : Int))]) (st' := [.inl (H.1 1835 k3)]) rfl ?_
                have hct := (pw2 k3 (by omega)).2.1
                refine h_reti (x := (H.1 1835 k3)) rfl rfl ?_
                have g322 : -2147483648 ≤ (H.1 1826 30) ∧ (H.1 1826 30) ≤ 2147483647 := hrg0.1 1826 13 30 _ .int rfl rfl
                have g323 : -2147483648 ≤ (H.1 1826 32) ∧ (H.1 1826 32) ≤ 2147483647 := hrg0.1 1826 13 32 _ .int rfl rfl
                have g324 : -2147483648 ≤ (H.1 1826 29) ∧ (H.1 1826 29) ≤ 2147483647 := hrg0.1 1826 13 29 _ .int rfl rfl
                have g325 : -2147483648 ≤ (H.1 1826 31) ∧ (H.1 1826 31) ≤ 2147483647 := hrg0.1 1826 13 31 _ .int rfl rfl
                have g326 : -2147483648 ≤ (H.1 1826 1) ∧ (H.1 1826 1) ≤ 2147483647 := hrg0.1 1826 13 1 _ .int rfl rfl
                have g327 : -2147483648 ≤ (H.1 1826 39) ∧ (H.1 1826 39) ≤ 2147483647 := hrg0.1 1826 13 39 _ .int rfl rfl
                have g328 : -2147483648 ≤ (H.1 1826 44) ∧ (H.1 1826 44) ≤ 2147483647 := hrg0.1 1826 13 44 _ .int rfl rfl
                exact ⟨⟨(H.1 1835 k3), rfl, by omega, by omega⟩, (fr_o (fr_o (fr_o (fr_rf _ _ _) (by decide)) (by decide)) (by decide)), (by omega : (H.1 1826 30) ≤ (H.1 1826 30) ∧ (H.1 1826 30) ≤ (H.1 1826 29)), (by omega : 0 ≤ (5 : Int) ∧ (5 : Int) ≤ 5), (by omega : 0 ≤ (H.1 1826 32) ∧ (H.1 1826 32) ≤ 1000), (by omega : (5 : Int) = 0 → (H.1 1826 31) = 0 ∨ (H.1 1826 30) < (H.1 1826 30)), (by omega : ((H.1 1826 44) ≠ 2 → (H.1 1826 39) = (H.1 1826 39)) ∧ (H.1 1826 39) ≤ (H.1 1826 39)), (fun (q : (5 : Int) = 0) => absurd q (by omega))⟩
              · refine h_cv (i := 344) (j := 168) (b := 1826) (M' := mt_168) (xs := []) (rest := []) rfl rfl rfl rfl rfl rfl (Nat.le_of_ble_eq_true rfl) (Nat.le_of_ble_eq_true rfl) (by omega) (m_countA (by omega) (by omega : (H.1 1826 35) = 0) (by omega : 0 ≤ (H.1 1826 40) ∧ (H.1 1826 40) ≤ 1000) (by omega : (H.1 1826 40) ≠ 40)) ?_
                rintro _ _ ⟨rfl, rfl⟩
                refine h_run 0 (pc' := 70) (l' := [(0, .inr (.inr 1826)), (1, .inl t), (2, .inl h), (3, .inl (k3 : Int))]) (st' := []) rfl ?_
                refine h_run 4 (pc' := 75) (l' := [(0, .inr (.inr 1826)), (1, .inl t), (2, .inl h), (3, .inl (k3 : Int))]) (st' := [.inl (100 + (k3 : Int)), .inr (.inr 1826)]) rfl ?_
                have g329 : -2147483648 ≤ (H.1 1826 43) ∧ (H.1 1826 43) ≤ 2147483647 := hrg0.1 1826 13 43 _ .int rfl rfl
                refine h_cv (i := 350) (j := 169) (b := 1826) (M' := mt_169) (xs := [.inl (100 + (k3 : Int))]) (rest := []) rfl rfl rfl rfl rfl rfl (Nat.le_of_ble_eq_true rfl) (Nat.le_of_ble_eq_true rfl) (by omega) (m_put1 (by omega) (by omega : (H.1 1826 35) = 0) (by omega : 0 ≤ (H.1 1826 43) ∧ (H.1 1826 43) ≤ 47) (by omega)) ?_
                rintro _ _ ⟨rfl, rfl⟩
                refine h_run 0 (pc' := 78) (l' := [(0, .inr (.inr 1826)), (1, .inl t), (2, .inl h), (3, .inl (k3 : Int))]) (st' := []) rfl ?_
                refine h_run 1 (pc' := 79) (l' := [(0, .inr (.inr 1826)), (1, .inl t), (2, .inl h), (3, .inl (k3 : Int))]) (st' := [.inr (.inr 1826)]) rfl ?_
                refine h_cv (i := 293) (j := 158) (b := 1826) (M' := mt_158) (xs := []) (rest := []) rfl rfl rfl rfl rfl rfl (Nat.le_of_ble_eq_true rfl) (Nat.le_of_ble_eq_true rfl) (by omega) (m_good1 (by omega) (by omega : (H.1 1826 35) = 0)) ?_
                rintro _ _ ⟨rfl, rfl⟩
                refine h_run 0 (pc' := 82) (l' := [(0, .inr (.inr 1826)), (1, .inl t), (2, .inl h), (3, .inl (k3 : Int))]) (st' := [.inl 1]) rfl ?_
                refine h_zeq (off := 16) (t := 98) rfl rfl (by decide) (fun c => absurd c (by decide)) (fun _ => ?_)
                refine h_run 5 (pc' := 91) (l' := [(0, .inr (.inr 1826)), (1, .inl t), (2, .inl h), (3, .inl (k3 : Int))]) (st' := [.inl (-1), .inl (100 + (k3 : Int)), .inr (.inr 1826)]) rfl ?_
                have g330 : -2147483648 ≤ (H.1 1826 47) ∧ (H.1 1826 47) ≤ 2147483647 := hrg0.1 1826 13 47 _ .int rfl rfl
                refine h_cv (i := 364) (j := 181) (b := 1826) (M' := mt_181) (xs := [.inl (-1), .inl (100 + (k3 : Int))]) (rest := []) rfl rfl rfl rfl rfl rfl (Nat.le_of_ble_eq_true rfl) (Nat.le_of_ble_eq_true rfl) (by omega) (m_enter (by omega) (by omega : 0 ≤ (H.1 1826 47) ∧ (H.1 1826 47) ≤ 63) (by omega) (by omega)) ?_
                rintro _ _ ⟨rfl, rfl⟩
                refine h_run 0 (pc' := 94) (l' := [(0, .inr (.inr 1826)), (1, .inl t), (2, .inl h), (3, .inl (k3 : Int))]) (st' := []) rfl ?_
                refine h_run 1 (pc' := 95) (l' := [(0, .inr (.inr 1826)), (1, .inl t), (2, .inl h), (3, .inl (k3 : Int))]) (st' := [.inr (.inr 1826)]) rfl ?_
                have g331 : -2147483648 ≤ (H.1 1826 30) ∧ (H.1 1826 30) ≤ 2147483647 := hrg0.1 1826 13 30 _ .int rfl rfl
                have g332 : -2147483648 ≤ (H.1 1826 29) ∧ (H.1 1826 29) ≤ 2147483647 := hrg0.1 1826 13 29 _ .int rfl rfl
                have g333 : -2147483648 ≤ (H.1 1826 32) ∧ (H.1 1826 32) ≤ 2147483647 := hrg0.1 1826 13 32 _ .int rfl rfl
                refine h_cv (i := 297) (j := 165) (b := 1826) (M' := mt_165) (xs := []) (rest := []) rfl rfl rfl rfl rfl rfl (Nat.le_of_ble_eq_true rfl) (Nat.le_of_ble_eq_true rfl) (by omega) (m_next (by omega) (by omega : 0 ≤ (H.1 1826 30) ∧ (H.1 1826 30) ≤ (H.1 1826 29) ∧ (H.1 1826 29) ≤ 1000) (by omega : 0 ≤ (H.1 1826 35) ∧ (H.1 1826 35) ≤ 5) (by omega : 0 ≤ (H.1 1826 32) ∧ (H.1 1826 32) ≤ 1000)) ?_
                rintro _ H334 ⟨rfl, hx334f, hx334a, hx334b, hx334c, -, hx334e, hx334g⟩
                refine h_rng (fun hrg335 => ?_)
                have hf336 : fr [30, 31, 32, 33, 35, 36, 39, 40, 41, 43, 47] [1849, 1850, 1851, 1852, 1853, 1854] H H334 := fr_t (fr_o (fr_a (fr_a (fr_a (fr_o (fr_a (fr_o (fr_rf _ _ _) (by decide)) (by decide)) (by decide)) (by decide)) (by decide)) (by decide)) (by decide)) hx334f (by decide) (by decide)
                replace hx334a : (H.1 1826 30) ≤ (H334.1 1826 30) := hx334a
                replace hx334b : (H334.1 1826 30) ≤ (H.1 1826 29) := hx334b
                replace hx334g : (H334.1 1826 35) = 0 → ((H334.1 1826 31) = 0 ∨ (H.1 1826 30) < (H334.1 1826 30)) := hx334g
                refine h_run 0 (pc' := 98) (l' := [(0, .inr (.inr 1826)), (1, .inl t), (2, .inl h), (3, .inl (k3 : Int))]) (st' := []) rfl ?_
                refine h_run 3 (pc' := 103) (l' := [(0, .inr (.inr 1826)), (1, .inl t), (2, .inl h), (3, .inl (k3 : Int))]) (st' := [.inl (k3 : Int), .inr (.inr 1835)]) rfl ?_
                refine h_ild (c := 1835) (j := k3) (i := (k3 : Int)) rfl rfl (by decide) rfl (by omega) ?_
                have g337 : -2147483648 ≤ (H334.1 1835 k3) ∧ (H334.1 1835 k3) ≤ 2147483647 := hrg335.2 1835 k3 16 .int rfl (by omega)
                have e338 : (H334.1 1835 k3) = (H.1 1835 k3) := congrFun (hx334f.2.1 1835 (by decide) (by decide)) k3
                refine h_run 0 (pc' := 104) (l' := [(0, .inr (.inr 1826)), (1, .inl t), (2, .inl h), (3, .inl (k3 : Int))]) (st' := [.inl (H334.1 1835 k3)]) rfl ?_
                have hct := (pw2 k3 (by omega)).2.1
                refine h_reti (x := (H334.1 1835 k3)) rfl rfl ?_
                have g339 : -2147483648 ≤ (H334.1 1826 30) ∧ (H334.1 1826 30) ≤ 2147483647 := hrg335.1 1826 13 30 _ .int rfl rfl
                have g340 : -2147483648 ≤ (H334.1 1826 35) ∧ (H334.1 1826 35) ≤ 2147483647 := hrg335.1 1826 13 35 _ .int rfl rfl
                have g341 : -2147483648 ≤ (H334.1 1826 32) ∧ (H334.1 1826 32) ≤ 2147483647 := hrg335.1 1826 13 32 _ .int rfl rfl
                have g342 : -2147483648 ≤ (H334.1 1826 29) ∧ (H334.1 1826 29) ≤ 2147483647 := hrg335.1 1826 13 29 _ .int rfl rfl
                have e343 : (H334.1 1826 29) = (H.1 1826 29) := hx334f.2.2 29 (by decide)
                have g344 : -2147483648 ≤ (H334.1 1826 31) ∧ (H334.1 1826 31) ≤ 2147483647 := hrg335.1 1826 13 31 _ .int rfl rfl
                have g345 : -2147483648 ≤ (H334.1 1826 1) ∧ (H334.1 1826 1) ≤ 2147483647 := hrg335.1 1826 13 1 _ .int rfl rfl
                have e346 : (H334.1 1826 1) = (H.1 1826 1) := hx334f.2.2 1 (by decide)
                have g347 : -2147483648 ≤ (H334.1 1826 39) ∧ (H334.1 1826 39) ≤ 2147483647 := hrg335.1 1826 13 39 _ .int rfl rfl
                have e348 : (H334.1 1826 39) = (H.1 1826 39) := hx334f.2.2 39 (by decide)
                have g349 : -2147483648 ≤ (H334.1 1826 44) ∧ (H334.1 1826 44) ≤ 2147483647 := hrg335.1 1826 13 44 _ .int rfl rfl
                have e350 : (H334.1 1826 44) = (H.1 1826 44) := hx334f.2.2 44 (by decide)
                exact ⟨⟨(H334.1 1835 k3), rfl, by omega, by omega⟩, hf336, (by omega : (H.1 1826 30) ≤ (H334.1 1826 30) ∧ (H334.1 1826 30) ≤ (H.1 1826 29)), (by omega : 0 ≤ (H334.1 1826 35) ∧ (H334.1 1826 35) ≤ 5), (by omega : 0 ≤ (H334.1 1826 32) ∧ (H334.1 1826 32) ≤ 1000), (by omega : (H334.1 1826 35) = 0 → (H334.1 1826 31) = 0 ∨ (H.1 1826 30) < (H334.1 1826 30)), (by omega : ((H.1 1826 44) ≠ 2 → (H334.1 1826 39) = (H.1 1826 39)) ∧ (H.1 1826 39) ≤ (H334.1 1826 39)), fun _ => TT_sign (s := (100 + (k3 : Int))) (q := ((H.1 1833) k3).toNat) hP hTT ⟨⟨(hx334f.2.2 1 (by decide)), (hx334f.2.2 3 (by decide)), (hx334f.2.2 8 (by decide)), (hx334f.2.2 44 (by decide))⟩, (hx334f.2.1 1833 (by decide) (by decide)), (hx334f.2.1 1830 (by decide) (by decide))⟩ (Or.inr (Or.inr (Or.inl ⟨by omega, by omega⟩))) (by rw [ma_f (by omega), show ((100 + (k3 : Int)) - 100).toNat = k3 by omega]; have := (pw2 k3 (by omega)).1; omega) (by have := (pw2 k3 (by omega)).1; omega) (by omega) ⟨(hx334f.2.2 40 (by decide)), (hx334f.2.2 43 (by decide)), (hx334f.2.2 41 (by decide))⟩ (hx334f.2.1 1851 (by decide) (by decide)) (Or.inl ⟨(hx334f.2.2 39 (by decide)), (hx334f.2.1 1850 (by decide) (by decide))⟩) (Or.inr ⟨(Or.inr ⟨by omega, by omega⟩), (hx334f.2.2 47 (by decide)), (hx334f.2.1 1852 (by decide) (by decide)), (hx334f.2.1 1853 (by decide) (by decide)), -1, (hx334f.2.1 1854 (by decide) (by decide))⟩)⟩
            · refine h_run 2 (pc' := 63) (l' := [(0, .inr (.inr 1826)), (1, .inl t), (2, .inl h), (3, .inl (k3 : Int))]) (st' := [.inl 4, .inr (.inr 1826)]) rfl ?_
              refine h_cv (i := 278) (j := 159) (b := 1826) (M' := mt_159) (xs := [.inl 4]) (rest := []) rfl rfl rfl rfl rfl rfl (Nat.le_of_ble_eq_true rfl) (Nat.le_of_ble_eq_true rfl) (by omega) (m_bad0 (by omega) (by omega) (by omega : (H.1 1826 35) = 0)) ?_
              rintro _ _ ⟨rfl, rfl⟩
              refine h_run 0 (pc' := 66) (l' := [(0, .inr (.inr 1826)), (1, .inl t), (2, .inl h), (3, .inl (k3 : Int))]) (st' := []) rfl ?_
              refine h_run 1 (pc' := 67) (l' := [(0, .inr (.inr 1826)), (1, .inl t), (2, .inl h), (3, .inl (k3 : Int))]) (st' := [.inr (.inr 1826)]) rfl ?_
              have g351 : -2147483648 ≤ (H.1 1826 40) ∧ (H.1 1826 40) ≤ 2147483647 := hrg0.1 1826 13 40 _ .int rfl rfl
              refine h_cv (i := 344) (j := 168) (b := 1826) (M' := mt_168) (xs := []) (rest := []) rfl rfl rfl rfl rfl rfl (Nat.le_of_ble_eq_true rfl) (Nat.le_of_ble_eq_true rfl) (by omega) (m_countC (by omega) (by omega : (4 : Int) ≠ 0) (by omega : 0 ≤ (H.1 1826 40) ∧ (H.1 1826 40) ≤ 1000)) ?_
              rintro _ _ ⟨rfl, rfl⟩
              refine h_run 0 (pc' := 70) (l' := [(0, .inr (.inr 1826)), (1, .inl t), (2, .inl h), (3, .inl (k3 : Int))]) (st' := []) rfl ?_
              refine h_run 4 (pc' := 75) (l' := [(0, .inr (.inr 1826)), (1, .inl t), (2, .inl h), (3, .inl (k3 : Int))]) (st' := [.inl (100 + (k3 : Int)), .inr (.inr 1826)]) rfl ?_
              refine h_cv (i := 350) (j := 169) (b := 1826) (M' := mt_169) (xs := [.inl (100 + (k3 : Int))]) (rest := []) rfl rfl rfl rfl rfl rfl (Nat.le_of_ble_eq_true rfl) (Nat.le_of_ble_eq_true rfl) (by omega) (m_put0 (by omega) (by omega : (4 : Int) ≠ 0)) ?_
              rintro _ _ ⟨rfl, rfl⟩
              refine h_run 0 (pc' := 78) (l' := [(0, .inr (.inr 1826)), (1, .inl t), (2, .inl h), (3, .inl (k3 : Int))]) (st' := []) rfl ?_
              refine h_run 1 (pc' := 79) (l' := [(0, .inr (.inr 1826)), (1, .inl t), (2, .inl h), (3, .inl (k3 : Int))]) (st' := [.inr (.inr 1826)]) rfl ?_
              refine h_cv (i := 293) (j := 158) (b := 1826) (M' := mt_158) (xs := []) (rest := []) rfl rfl rfl rfl rfl rfl (Nat.le_of_ble_eq_true rfl) (Nat.le_of_ble_eq_true rfl) (by omega) (m_good0 (by omega) (by omega : (4 : Int) ≠ 0)) ?_
              rintro _ _ ⟨rfl, rfl⟩
              refine h_run 0 (pc' := 82) (l' := [(0, .inr (.inr 1826)), (1, .inl t), (2, .inl h), (3, .inl (k3 : Int))]) (st' := [.inl 0]) rfl ?_
              refine h_zeq (off := 16) (t := 98) rfl rfl (by decide) (fun _ => ?_) (fun c => absurd c (by decide))
              refine h_run 3 (pc' := 103) (l' := [(0, .inr (.inr 1826)), (1, .inl t), (2, .inl h), (3, .inl (k3 : Int))]) (st' := [.inl (k3 : Int), .inr (.inr 1835)]) rfl ?_
              refine h_ild (c := 1835) (j := k3) (i := (k3 : Int)) rfl rfl (by decide) rfl (by omega) ?_
              refine h_run 0 (pc' := 104) (l' := [(0, .inr (.inr 1826)), (1, .inl t), (2, .inl h), (3, .inl (k3 : Int))]) (st' := [.inl (H.1 1835 k3)]) rfl ?_
              have hct := (pw2 k3 (by omega)).2.1
              refine h_reti (x := (H.1 1835 k3)) rfl rfl ?_
              have g352 : -2147483648 ≤ (H.1 1826 30) ∧ (H.1 1826 30) ≤ 2147483647 := hrg0.1 1826 13 30 _ .int rfl rfl
              have g353 : -2147483648 ≤ (H.1 1826 32) ∧ (H.1 1826 32) ≤ 2147483647 := hrg0.1 1826 13 32 _ .int rfl rfl
              have g354 : -2147483648 ≤ (H.1 1826 29) ∧ (H.1 1826 29) ≤ 2147483647 := hrg0.1 1826 13 29 _ .int rfl rfl
              have g355 : -2147483648 ≤ (H.1 1826 31) ∧ (H.1 1826 31) ≤ 2147483647 := hrg0.1 1826 13 31 _ .int rfl rfl
              have g356 : -2147483648 ≤ (H.1 1826 1) ∧ (H.1 1826 1) ≤ 2147483647 := hrg0.1 1826 13 1 _ .int rfl rfl
              have g357 : -2147483648 ≤ (H.1 1826 39) ∧ (H.1 1826 39) ≤ 2147483647 := hrg0.1 1826 13 39 _ .int rfl rfl
              have g358 : -2147483648 ≤ (H.1 1826 44) ∧ (H.1 1826 44) ≤ 2147483647 := hrg0.1 1826 13 44 _ .int rfl rfl
              exact ⟨⟨(H.1 1835 k3), rfl, by omega, by omega⟩, (fr_o (fr_o (fr_o (fr_rf _ _ _) (by decide)) (by decide)) (by decide)), (by omega : (H.1 1826 30) ≤ (H.1 1826 30) ∧ (H.1 1826 30) ≤ (H.1 1826 29)), (by omega : 0 ≤ (4 : Int) ∧ (4 : Int) ≤ 5), (by omega : 0 ≤ (H.1 1826 32) ∧ (H.1 1826 32) ≤ 1000), (by omega : (4 : Int) = 0 → (H.1 1826 31) = 0 ∨ (H.1 1826 30) < (H.1 1826 30)), (by omega : ((H.1 1826 44) ≠ 2 → (H.1 1826 39) = (H.1 1826 39)) ∧ (H.1 1826 39) ≤ (H.1 1826 39)), (fun (q : (4 : Int) = 0) => absurd q (by omega))⟩
        · refine h_run 2 (pc' := 36) (l' := [(0, .inr (.inr 1826)), (1, .inl t), (2, .inl h), (3, .inl (k3 : Int))]) (st' := [.inl 2, .inr (.inr 1826)]) rfl ?_
          have g359 : -2147483648 ≤ (H.1 1826 35) ∧ (H.1 1826 35) ≤ 2147483647 := hrg0.1 1826 13 35 _ .int rfl rfl
          refine h_cv (i := 278) (j := 159) (b := 1826) (M' := mt_159) (xs := [.inl 2]) (rest := []) rfl rfl rfl rfl rfl rfl (Nat.le_of_ble_eq_true rfl) (Nat.le_of_ble_eq_true rfl) (by omega) (m_bad0 (by omega) (by omega) (by omega : (H.1 1826 35) = 0)) ?_
          rintro _ _ ⟨rfl, rfl⟩
          refine h_run 0 (pc' := 39) (l' := [(0, .inr (.inr 1826)), (1, .inl t), (2, .inl h), (3, .inl (k3 : Int))]) (st' := []) rfl ?_
          refine h_run 1 (pc' := 40) (l' := [(0, .inr (.inr 1826)), (1, .inl t), (2, .inl h), (3, .inl (k3 : Int))]) (st' := [.inr (.inr 1826)]) rfl ?_
          refine h_cv (i := 293) (j := 158) (b := 1826) (M' := mt_158) (xs := []) (rest := []) rfl rfl rfl rfl rfl rfl (Nat.le_of_ble_eq_true rfl) (Nat.le_of_ble_eq_true rfl) (by omega) (m_good0 (by omega) (by omega : (2 : Int) ≠ 0)) ?_
          rintro _ _ ⟨rfl, rfl⟩
          refine h_run 0 (pc' := 43) (l' := [(0, .inr (.inr 1826)), (1, .inl t), (2, .inl h), (3, .inl (k3 : Int))]) (st' := [.inl 0]) rfl ?_
          refine h_zeq (off := 23) (t := 66) rfl rfl (by decide) (fun _ => ?_) (fun c => absurd c (by decide))
          refine h_run 1 (pc' := 67) (l' := [(0, .inr (.inr 1826)), (1, .inl t), (2, .inl h), (3, .inl (k3 : Int))]) (st' := [.inr (.inr 1826)]) rfl ?_
          have g360 : -2147483648 ≤ (H.1 1826 40) ∧ (H.1 1826 40) ≤ 2147483647 := hrg0.1 1826 13 40 _ .int rfl rfl
          refine h_cv (i := 344) (j := 168) (b := 1826) (M' := mt_168) (xs := []) (rest := []) rfl rfl rfl rfl rfl rfl (Nat.le_of_ble_eq_true rfl) (Nat.le_of_ble_eq_true rfl) (by omega) (m_countC (by omega) (by omega : (2 : Int) ≠ 0) (by omega : 0 ≤ (H.1 1826 40) ∧ (H.1 1826 40) ≤ 1000)) ?_
          rintro _ _ ⟨rfl, rfl⟩
          refine h_run 0 (pc' := 70) (l' := [(0, .inr (.inr 1826)), (1, .inl t), (2, .inl h), (3, .inl (k3 : Int))]) (st' := []) rfl ?_
          refine h_run 4 (pc' := 75) (l' := [(0, .inr (.inr 1826)), (1, .inl t), (2, .inl h), (3, .inl (k3 : Int))]) (st' := [.inl (100 + (k3 : Int)), .inr (.inr 1826)]) rfl ?_
          refine h_cv (i := 350) (j := 169) (b := 1826) (M' := mt_169) (xs := [.inl (100 + (k3 : Int))]) (rest := []) rfl rfl rfl rfl rfl rfl (Nat.le_of_ble_eq_true rfl) (Nat.le_of_ble_eq_true rfl) (by omega) (m_put0 (by omega) (by omega : (2 : Int) ≠ 0)) ?_
          rintro _ _ ⟨rfl, rfl⟩
          refine h_run 0 (pc' := 78) (l' := [(0, .inr (.inr 1826)), (1, .inl t), (2, .inl h), (3, .inl (k3 : Int))]) (st' := []) rfl ?_
          refine h_run 1 (pc' := 79) (l' := [(0, .inr (.inr 1826)), (1, .inl t), (2, .inl h), (3, .inl (k3 : Int))]) (st' := [.inr (.inr 1826)]) rfl ?_
          refine h_cv (i := 293) (j := 158) (b := 1826) (M' := mt_158) (xs := []) (rest := []) rfl rfl rfl rfl rfl rfl (Nat.le_of_ble_eq_true rfl) (Nat.le_of_ble_eq_true rfl) (by omega) (m_good0 (by omega) (by omega : (2 : Int) ≠ 0)) ?_
          rintro _ _ ⟨rfl, rfl⟩
          refine h_run 0 (pc' := 82) (l' := [(0, .inr (.inr 1826)), (1, .inl t), (2, .inl h), (3, .inl (k3 : Int))]) (st' := [.inl 0]) rfl ?_
          refine h_zeq (off := 16) (t := 98) rfl rfl (by decide) (fun _ => ?_) (fun c => absurd c (by decide))
          refine h_run 3 (pc' := 103) (l' := [(0, .inr (.inr 1826)), (1, .inl t), (2, .inl h), (3, .inl (k3 : Int))]) (st' := [.inl (k3 : Int), .inr (.inr 1835)]) rfl ?_
          refine h_ild (c := 1835) (j := k3) (i := (k3 : Int)) rfl rfl (by decide) rfl (by omega) ?_
          have g361 : -2147483648 ≤ (H.1 1835 k3) ∧ (H.1 1835 k3) ≤ 2147483647 := hrg0.2 1835 k3 16 .int rfl (by omega)
          refine h_run 0 (pc' := 104) (l' := [(0, .inr (.inr 1826)), (1, .inl t), (2, .inl h), (3, .inl (k3 : Int))]) (st' := [.inl (H.1 1835 k3)]) rfl ?_
          have hct := (pw2 k3 (by omega)).2.1
          refine h_reti (x := (H.1 1835 k3)) rfl rfl ?_
          have g362 : -2147483648 ≤ (H.1 1826 30) ∧ (H.1 1826 30) ≤ 2147483647 := hrg0.1 1826 13 30 _ .int rfl rfl
          have g363 : -2147483648 ≤ (H.1 1826 32) ∧ (H.1 1826 32) ≤ 2147483647 := hrg0.1 1826 13 32 _ .int rfl rfl
          have g364 : -2147483648 ≤ (H.1 1826 29) ∧ (H.1 1826 29) ≤ 2147483647 := hrg0.1 1826 13 29 _ .int rfl rfl
          have g365 : -2147483648 ≤ (H.1 1826 31) ∧ (H.1 1826 31) ≤ 2147483647 := hrg0.1 1826 13 31 _ .int rfl rfl
          have g366 : -2147483648 ≤ (H.1 1826 1) ∧ (H.1 1826 1) ≤ 2147483647 := hrg0.1 1826 13 1 _ .int rfl rfl
          have g367 : -2147483648 ≤ (H.1 1826 39) ∧ (H.1 1826 39) ≤ 2147483647 := hrg0.1 1826 13 39 _ .int rfl rfl
          have g368 : -2147483648 ≤ (H.1 1826 44) ∧ (H.1 1826 44) ≤ 2147483647 := hrg0.1 1826 13 44 _ .int rfl rfl
          exact ⟨⟨(H.1 1835 k3), rfl, by omega, by omega⟩, (fr_o (fr_o (fr_o (fr_rf _ _ _) (by decide)) (by decide)) (by decide)), (by omega : (H.1 1826 30) ≤ (H.1 1826 30) ∧ (H.1 1826 30) ≤ (H.1 1826 29)), (by omega : 0 ≤ (2 : Int) ∧ (2 : Int) ≤ 5), (by omega : 0 ≤ (H.1 1826 32) ∧ (H.1 1826 32) ≤ 1000), (by omega : (2 : Int) = 0 → (H.1 1826 31) = 0 ∨ (H.1 1826 30) < (H.1 1826 30)), (by omega : ((H.1 1826 44) ≠ 2 → (H.1 1826 39) = (H.1 1826 39)) ∧ (H.1 1826 39) ≤ (H.1 1826 39)), (fun (q : (2 : Int) = 0) => absurd q (by omega))⟩
  · refine h_run 0 (pc' := 15) (l' := [(0, .inr (.inr 1826)), (1, .inl t), (2, .inl h)]) (st' := [.inl (-1)]) rfl ?_
    refine h_run 3 (pc' := 18) (l' := [(0, .inr (.inr 1826)), (1, .inl t), (2, .inl h), (3, .inl (-1))]) (st' := [.inl (-1), .inl (-1)]) rfl ?_
    refine h_ieq (off := 87) (t := 105) rfl rfl (by decide) (by decide) (fun _ => ?_) (fun c => absurd c (by decide))
    refine h_run 4 (pc' := 113) (l' := [(0, .inr (.inr 1826)), (1, .inl t), (2, .inl h), (3, .inl (-1))]) (st' := [.inl (H.1 1826 39), .inr (.inr 1849)]) rfl ?_
    have g369 : -2147483648 ≤ (H.1 1826 39) ∧ (H.1 1826 39) ≤ 2147483647 := hrg0.1 1826 13 39 _ .int rfl rfl
    refine h_run 2 (pc' := 117) (l' := [(0, .inr (.inr 1826)), (1, .inl t), (2, .inl h), (3, .inl (-1))]) (st' := [.inr (.inl (H.1 1826 33)), .inl (H.1 1826 39), .inr (.inr 1849)]) rfl ?_
    refine h_cs (i := 309) (j := 167) (M' := mt_167) (xs := [.inr (.inl (H.1 1826 33)), .inl (H.1 1826 39), .inr (.inr 1849)]) (rest := []) rfl rfl rfl rfl rfl (Nat.le_of_ble_eq_true rfl) (Nat.le_of_ble_eq_true rfl) (by omega) (m_find (by omega) (m := 48) rfl (by omega : 0 ≤ (H.1 1826 39) ∧ (H.1 1826 39) ≤ ((48 : Nat) : Int) ∧ 48 ≤ 100) (by omega)) ?_
    rintro _ _ ⟨⟨k370, rfl, f371, f371x⟩ | ⟨rfl, f371⟩, rfl⟩
    · refine h_run 0 (pc' := 120) (l' := [(0, .inr (.inr 1826)), (1, .inl t), (2, .inl h), (3, .inl (-1))]) (st' := [.inl (k370 : Int)]) rfl ?_
      refine h_run 3 (pc' := 126) (l' := [(0, .inr (.inr 1826)), (1, .inl t), (2, .inl h), (3, .inl (-1)), (4, .inl (k370 : Int))]) (st' := [.inl (H.1 1826 44)]) rfl ?_
      have g372 : -2147483648 ≤ (H.1 1826 44) ∧ (H.1 1826 44) ≤ 2147483647 := hrg0.1 1826 13 44 _ .int rfl rfl
      refine h_run 1 (pc' := 127) (l' := [(0, .inr (.inr 1826)), (1, .inl t), (2, .inl h), (3, .inl (-1)), (4, .inl (k370 : Int))]) (st' := [.inl 3, .inl (H.1 1826 44)]) rfl ?_
      refine h_ieq (off := 17) (t := 144) rfl rfl (by omega) (by decide) (fun c373 => ?_) (fun c373 => ?_)
      · refine h_run 2 (pc' := 146) (l' := [(0, .inr (.inr 1826)), (1, .inl t), (2, .inl h), (3, .inl (-1)), (4, .inl (k370 : Int))]) (st' := [.inl 3, .inr (.inr 1826)]) rfl ?_
        have g374 : -2147483648 ≤ (H.1 1826 35) ∧ (H.1 1826 35) ≤ 2147483647 := hrg0.1 1826 13 35 _ .int rfl rfl
        refine h_cv (i := 278) (j := 159) (b := 1826) (M' := mt_159) (xs := [.inl 3]) (rest := []) rfl rfl rfl rfl rfl rfl (Nat.le_of_ble_eq_true rfl) (Nat.le_of_ble_eq_true rfl) (by omega) (m_bad0 (by omega) (by omega) (by omega : (H.1 1826 35) = 0)) ?_
        rintro _ _ ⟨rfl, rfl⟩
        refine h_run 0 (pc' := 149) (l' := [(0, .inr (.inr 1826)), (1, .inl t), (2, .inl h), (3, .inl (-1)), (4, .inl (k370 : Int))]) (st' := []) rfl ?_
        refine h_run 1 (pc' := 150) (l' := [(0, .inr (.inr 1826)), (1, .inl t), (2, .inl h), (3, .inl (-1)), (4, .inl (k370 : Int))]) (st' := [.inl (-1)]) rfl ?_
        refine h_reti (x := (-1)) rfl rfl ?_
        have g375 : -2147483648 ≤ (H.1 1826 30) ∧ (H.1 1826 30) ≤ 2147483647 := hrg0.1 1826 13 30 _ .int rfl rfl
        have g376 : -2147483648 ≤ (H.1 1826 32) ∧ (H.1 1826 32) ≤ 2147483647 := hrg0.1 1826 13 32 _ .int rfl rfl
        have g377 : -2147483648 ≤ (H.1 1826 29) ∧ (H.1 1826 29) ≤ 2147483647 := hrg0.1 1826 13 29 _ .int rfl rfl
        have g378 : -2147483648 ≤ (H.1 1826 31) ∧ (H.1 1826 31) ≤ 2147483647 := hrg0.1 1826 13 31 _ .int rfl rfl
        have g379 : -2147483648 ≤ (H.1 1826 1) ∧ (H.1 1826 1) ≤ 2147483647 := hrg0.1 1826 13 1 _ .int rfl rfl
        exact ⟨⟨(-1), rfl, by omega, by omega⟩, (fr_o (fr_o (fr_rf _ _ _) (by decide)) (by decide)), (by omega : (H.1 1826 30) ≤ (H.1 1826 30) ∧ (H.1 1826 30) ≤ (H.1 1826 29)), (by omega : 0 ≤ (3 : Int) ∧ (3 : Int) ≤ 5), (by omega : 0 ≤ (H.1 1826 32) ∧ (H.1 1826 32) ≤ 1000), (by omega : (3 : Int) = 0 → (H.1 1826 31) = 0 ∨ (H.1 1826 30) < (H.1 1826 30)), (by omega : ((H.1 1826 44) ≠ 2 → (H.1 1826 39) = (H.1 1826 39)) ∧ (H.1 1826 39) ≤ (H.1 1826 39)), (fun (q : (3 : Int) = 0) => absurd q (by omega))⟩
      · refine h_run 2 (pc' := 134) (l' := [(0, .inr (.inr 1826)), (1, .inl t), (2, .inl h), (3, .inl (-1)), (4, .inl (k370 : Int))]) (st' := [.inl (H.1 1826 44)]) rfl ?_
        refine h_run 1 (pc' := 135) (l' := [(0, .inr (.inr 1826)), (1, .inl t), (2, .inl h), (3, .inl (-1)), (4, .inl (k370 : Int))]) (st' := [.inl 1, .inl (H.1 1826 44)]) rfl ?_
        refine h_ine (off := 16) (t := 151) rfl rfl (by omega) (by decide) (fun c380 => ?_) (fun c380 => ?_)
        · refine h_run 1 (pc' := 152) (l' := [(0, .inr (.inr 1826)), (1, .inl t), (2, .inl h), (3, .inl (-1)), (4, .inl (k370 : Int))]) (st' := [.inr (.inr 1826)]) rfl ?_
          have g381 : -2147483648 ≤ (H.1 1826 35) ∧ (H.1 1826 35) ≤ 2147483647 := hrg0.1 1826 13 35 _ .int rfl rfl
          refine h_cv (i := 293) (j := 158) (b := 1826) (M' := mt_158) (xs := []) (rest := []) rfl rfl rfl rfl rfl rfl (Nat.le_of_ble_eq_true rfl) (Nat.le_of_ble_eq_true rfl) (by omega) (m_good1 (by omega) (by omega : (H.1 1826 35) = 0)) ?_
          rintro _ _ ⟨rfl, rfl⟩
          refine h_run 0 (pc' := 155) (l' := [(0, .inr (.inr 1826)), (1, .inl t), (2, .inl h), (3, .inl (-1)), (4, .inl (k370 : Int))]) (st' := [.inl 1]) rfl ?_
          refine h_zeq (off := 13) (t := 168) rfl rfl (by decide) (fun c => absurd c (by decide)) (fun _ => ?_)
          refine h_run 2 (pc' := 160) (l' := [(0, .inr (.inr 1826)), (1, .inl t), (2, .inl h), (3, .inl (-1)), (4, .inl (k370 : Int))]) (st' := [.inl (-1), .inl t]) rfl ?_
          refine h_ine (off := 8) (t := 168) rfl rfl (by omega) (by decide) (fun c382 => ?_) (fun c382 => ?_)
          · refine h_run 1 (pc' := 169) (l' := [(0, .inr (.inr 1826)), (1, .inl t), (2, .inl h), (3, .inl (-1)), (4, .inl (k370 : Int))]) (st' := [.inr (.inr 1826)]) rfl ?_
            refine h_cv (i := 293) (j := 158) (b := 1826) (M' := mt_158) (xs := []) (rest := []) rfl rfl rfl rfl rfl rfl (Nat.le_of_ble_eq_true rfl) (Nat.le_of_ble_eq_true rfl) (by omega) (m_good1 (by omega) (by omega : (H.1 1826 35) = 0)) ?_
            rintro _ _ ⟨rfl, rfl⟩
            refine h_run 0 (pc' := 172) (l' := [(0, .inr (.inr 1826)), (1, .inl t), (2, .inl h), (3, .inl (-1)), (4, .inl (k370 : Int))]) (st' := [.inl 1]) rfl ?_
            refine h_zeq (off := 25) (t := 197) rfl rfl (by decide) (fun c => absurd c (by decide)) (fun _ => ?_)
            refine h_run 2 (pc' := 178) (l' := [(0, .inr (.inr 1826)), (1, .inl t), (2, .inl h), (3, .inl (-1)), (4, .inl (k370 : Int))]) (st' := [.inl (-1), .inl (k370 : Int)]) rfl ?_
            refine h_ieq (off := 19) (t := 197) rfl rfl (by omega) (by decide) (fun c383 => ?_) (fun c383 => ?_)
            · refine h_run 1 (pc' := 198) (l' := [(0, .inr (.inr 1826)), (1, .inl t), (2, .inl h), (3, .inl (-1)), (4, .inl (k370 : Int))]) (st' := [.inr (.inr 1826)]) rfl ?_
              refine h_cv (i := 293) (j := 158) (b := 1826) (M' := mt_158) (xs := []) (rest := []) rfl rfl rfl rfl rfl rfl (Nat.le_of_ble_eq_true rfl) (Nat.le_of_ble_eq_true rfl) (by omega) (m_good1 (by omega) (by omega : (H.1 1826 35) = 0)) ?_
              rintro _ _ ⟨rfl, rfl⟩
              refine h_run 0 (pc' := 201) (l' := [(0, .inr (.inr 1826)), (1, .inl t), (2, .inl h), (3, .inl (-1)), (4, .inl (k370 : Int))]) (st' := [.inl 1]) rfl ?_
              refine h_zeq (off := 23) (t := 224) rfl rfl (by decide) (fun c => absurd c (by decide)) (fun _ => ?_)
              refine h_run 2 (pc' := 207) (l' := [(0, .inr (.inr 1826)), (1, .inl t), (2, .inl h), (3, .inl (-1)), (4, .inl (k370 : Int))]) (st' := [.inl (-1), .inl (k370 : Int)]) rfl ?_
              refine h_ine (off := 17) (t := 224) rfl rfl (by omega) (by decide) (fun c384 => ?_) (fun c384 => ?_)
              · exfalso
                omega
              · refine h_run 2 (pc' := 214) (l' := [(0, .inr (.inr 1826)), (1, .inl t), (2, .inl h), (3, .inl (-1)), (4, .inl (k370 : Int))]) (st' := [.inl (H.1 1826 39)]) rfl ?_
                refine h_run 1 (pc' := 216) (l' := [(0, .inr (.inr 1826)), (1, .inl t), (2, .inl h), (3, .inl (-1)), (4, .inl (k370 : Int))]) (st' := [.inl 6, .inl (H.1 1826 39)]) rfl ?_
                refine h_ine (off := 8) (t := 224) rfl rfl (by omega) (by decide) (fun c385 => ?_) (fun c385 => ?_)
                · refine h_run 1 (pc' := 225) (l' := [(0, .inr (.inr 1826)), (1, .inl t), (2, .inl h), (3, .inl (-1)), (4, .inl (k370 : Int))]) (st' := [.inr (.inr 1826)]) rfl ?_
                  have g386 : -2147483648 ≤ (H.1 1826 40) ∧ (H.1 1826 40) ≤ 2147483647 := hrg0.1 1826 13 40 _ .int rfl rfl
                  by_cases b387 : (H.1 1826 40) = 40
                  · refine h_cv (i := 344) (j := 168) (b := 1826) (M' := mt_168) (xs := []) (rest := []) rfl rfl rfl rfl rfl rfl (Nat.le_of_ble_eq_true rfl) (Nat.le_of_ble_eq_true rfl) (by omega) (m_countB (by omega) (by omega : (H.1 1826 35) = 0) (by omega : (H.1 1826 40) = 40)) ?_
                    rintro _ _ ⟨rfl, rfl⟩
                    refine h_run 0 (pc' := 228) (l' := [(0, .inr (.inr 1826)), (1, .inl t), (2, .inl h), (3, .inl (-1)), (4, .inl (k370 : Int))]) (st' := []) rfl ?_
                    refine h_run 1 (pc' := 229) (l' := [(0, .inr (.inr 1826)), (1, .inl t), (2, .inl h), (3, .inl (-1)), (4, .inl (k370 : Int))]) (st' := [.inr (.inr 1826)]) rfl ?_
                    refine h_cv (i := 293) (j := 158) (b := 1826) (M' := mt_158) (xs := []) (rest := []) rfl rfl rfl rfl rfl rfl (Nat.le_of_ble_eq_true rfl) (Nat.le_of_ble_eq_true rfl) (by omega) (m_good0 (by omega) (by omega : (5 : Int) ≠ 0)) ?_
                    rintro _ _ ⟨rfl, rfl⟩
                    refine h_run 0 (pc' := 232) (l' := [(0, .inr (.inr 1826)), (1, .inl t), (2, .inl h), (3, .inl (-1)), (4, .inl (k370 : Int))]) (st' := [.inl 0]) rfl ?_
                    refine h_zne (off := 5) (t := 237) rfl rfl (by decide) (fun c => absurd c (by decide)) (fun _ => ?_)
                    refine h_run 1 (pc' := 236) (l' := [(0, .inr (.inr 1826)), (1, .inl t), (2, .inl h), (3, .inl (-1)), (4, .inl (k370 : Int))]) (st' := [.inl (-1)]) rfl ?_
                    refine h_reti (x := (-1)) rfl rfl ?_
                    have g388 : -2147483648 ≤ (H.1 1826 30) ∧ (H.1 1826 30) ≤ 2147483647 := hrg0.1 1826 13 30 _ .int rfl rfl
                    have g389 : -2147483648 ≤ (H.1 1826 32) ∧ (H.1 1826 32) ≤ 2147483647 := hrg0.1 1826 13 32 _ .int rfl rfl
                    have g390 : -2147483648 ≤ (H.1 1826 29) ∧ (H.1 1826 29) ≤ 2147483647 := hrg0.1 1826 13 29 _ .int rfl rfl
                    have g391 : -2147483648 ≤ (H.1 1826 31) ∧ (H.1 1826 31) ≤ 2147483647 := hrg0.1 1826 13 31 _ .int rfl rfl
                    have g392 : -2147483648 ≤ (H.1 1826 1) ∧ (H.1 1826 1) ≤ 2147483647 := hrg0.1 1826 13 1 _ .int rfl rfl
                    exact ⟨⟨(-1), rfl, by omega, by omega⟩, (fr_o (fr_o (fr_o (fr_rf _ _ _) (by decide)) (by decide)) (by decide)), (by omega : (H.1 1826 30) ≤ (H.1 1826 30) ∧ (H.1 1826 30) ≤ (H.1 1826 29)), (by omega : 0 ≤ (5 : Int) ∧ (5 : Int) ≤ 5), (by omega : 0 ≤ (H.1 1826 32) ∧ (H.1 1826 32) ≤ 1000), (by omega : (5 : Int) = 0 → (H.1 1826 31) = 0 ∨ (H.1 1826 30) < (H.1 1826 30)), (by omega : ((H.1 1826 44) ≠ 2 → (H.1 1826 39) = (H.1 1826 39)) ∧ (H.1 1826 39) ≤ (H.1 1826 39)), (fun (q : (5 : Int) = 0) => absurd q (by omega))⟩
                  · refine h_cv (i := 344) (j := 168) (b := 1826) (M' := mt_168) (xs := []) (rest := []) rfl rfl rfl rfl rfl rfl (Nat.le_of_ble_eq_true rfl) (Nat.le_of_ble_eq_true rfl) (by omega) (m_countA (by omega) (by omega : (H.1 1826 35) = 0) (by omega : 0 ≤ (H.1 1826 40) ∧ (H.1 1826 40) ≤ 1000) (by omega : (H.1 1826 40) ≠ 40)) ?_
                    rintro _ _ ⟨rfl, rfl⟩
                    refine h_run 0 (pc' := 228) (l' := [(0, .inr (.inr 1826)), (1, .inl t), (2, .inl h), (3, .inl (-1)), (4, .inl (k370 : Int))]) (st' := []) rfl ?_
                    refine h_run 1 (pc' := 229) (l' := [(0, .inr (.inr 1826)), (1, .inl t), (2, .inl h), (3, .inl (-1)), (4, .inl (k370 : Int))]) (st' := [.inr (.inr 1826)]) rfl ?_
                    refine h_cv (i := 293) (j := 158) (b := 1826) (M' := mt_158) (xs := []) (rest := []) rfl rfl rfl rfl rfl rfl (Nat.le_of_ble_eq_true rfl) (Nat.le_of_ble_eq_true rfl) (by omega) (m_good1 (by omega) (by omega : (H.1 1826 35) = 0)) ?_
                    rintro _ _ ⟨rfl, rfl⟩
                    refine h_run 0 (pc' := 232) (l' := [(0, .inr (.inr 1826)), (1, .inl t), (2, .inl h), (3, .inl (-1)), (4, .inl (k370 : Int))]) (st' := [.inl 1]) rfl ?_
                    refine h_zne (off := 5) (t := 237) rfl rfl (by decide) (fun _ => ?_) (fun c => absurd c (by decide))
                    refine h_run 2 (pc' := 240) (l' := [(0, .inr (.inr 1826)), (1, .inl t), (2, .inl h), (3, .inl (-1)), (4, .inl (k370 : Int))]) (st' := [.inl (-1), .inl (k370 : Int)]) rfl ?_
                    refine h_ine (off := 11) (t := 251) rfl rfl (by omega) (by decide) (fun c393 => ?_) (fun c393 => ?_)
                    · exfalso
                      omega
                    · refine h_run 2 (pc' := 245) (l' := [(0, .inr (.inr 1826)), (1, .inl t), (2, .inl h), (3, .inl (-1)), (4, .inl (k370 : Int))]) (st' := [.inl t, .inr (.inr 1826)]) rfl ?_
                      refine h_cv (i := 347) (j := 177) (b := 1826) (M' := mt_177) (xs := [.inl t]) (rest := []) rfl rfl rfl rfl rfl rfl (Nat.le_of_ble_eq_true rfl) (Nat.le_of_ble_eq_true rfl) (by omega) (m_addVariable (by omega) (by omega : 0 ≤ (H.1 1826 39) ∧ (H.1 1826 39) ≤ 47) (by omega)) ?_
                      rintro _ _ ⟨rfl, rfl⟩
                      refine h_run 0 (pc' := 248) (l' := [(0, .inr (.inr 1826)), (1, .inl t), (2, .inl h), (3, .inl (-1)), (4, .inl (k370 : Int))]) (st' := [.inl (((H.1 1826 39) + 1) - 1)]) rfl ?_
                      refine h_run 6 (pc' := 262) (l' := [(0, .inr (.inr 1826)), (1, .inl t), (2, .inl h), (3, .inl (-1)), (4, .inl (((H.1 1826 39) + 1) - 1))]) (st' := [.inl (1000 + (((H.1 1826 39) + 1) - 1)), .inr (.inr 1826)]) rfl ?_
                      have g394 : -2147483648 ≤ (H.1 1826 43) ∧ (H.1 1826 43) ≤ 2147483647 := hrg0.1 1826 13 43 _ .int rfl rfl
                      refine h_cv (i := 350) (j := 169) (b := 1826) (M' := mt_169) (xs := [.inl (1000 + (((H.1 1826 39) + 1) - 1))]) (rest := []) rfl rfl rfl rfl rfl rfl (Nat.le_of_ble_eq_true rfl) (Nat.le_of_ble_eq_true rfl) (by omega) (m_put1 (by omega) (by omega : (H.1 1826 35) = 0) (by omega : 0 ≤ (H.1 1826 43) ∧ (H.1 1826 43) ≤ 47) (by omega)) ?_
                      rintro _ _ ⟨rfl, rfl⟩
                      refine h_run 0 (pc' := 265) (l' := [(0, .inr (.inr 1826)), (1, .inl t), (2, .inl h), (3, .inl (-1)), (4, .inl (((H.1 1826 39) + 1) - 1))]) (st' := []) rfl ?_
                      refine h_run 1 (pc' := 266) (l' := [(0, .inr (.inr 1826)), (1, .inl t), (2, .inl h), (3, .inl (-1)), (4, .inl (((H.1 1826 39) + 1) - 1))]) (st' := [.inr (.inr 1826)]) rfl ?_
                      have g395 : -2147483648 ≤ (H.1 1826 30) ∧ (H.1 1826 30) ≤ 2147483647 := hrg0.1 1826 13 30 _ .int rfl rfl
                      have g396 : -2147483648 ≤ (H.1 1826 29) ∧ (H.1 1826 29) ≤ 2147483647 := hrg0.1 1826 13 29 _ .int rfl rfl
                      have g397 : -2147483648 ≤ (H.1 1826 32) ∧ (H.1 1826 32) ≤ 2147483647 := hrg0.1 1826 13 32 _ .int rfl rfl
                      refine h_cv (i := 297) (j := 165) (b := 1826) (M' := mt_165) (xs := []) (rest := []) rfl rfl rfl rfl rfl rfl (Nat.le_of_ble_eq_true rfl) (Nat.le_of_ble_eq_true rfl) (by omega) (m_next (by omega) (by omega : 0 ≤ (H.1 1826 30) ∧ (H.1 1826 30) ≤ (H.1 1826 29) ∧ (H.1 1826 29) ≤ 1000) (by omega : 0 ≤ (H.1 1826 35) ∧ (H.1 1826 35) ≤ 5) (by omega : 0 ≤ (H.1 1826 32) ∧ (H.1 1826 32) ≤ 1000)) ?_
                      rintro _ H398 ⟨rfl, hx398f, hx398a, hx398b, hx398c, -, hx398e, hx398g⟩
                      refine h_rng (fun hrg399 => ?_)
                      have hf400 : fr [30, 31, 32, 33, 35, 36, 39, 40, 41, 43, 47] [1849, 1850, 1851, 1852, 1853, 1854] H H398 := fr_t (fr_o (fr_a (fr_o (fr_a (fr_a (fr_o (fr_rf _ _ _) (by decide)) (by decide)) (by decide)) (by decide)) (by decide)) (by decide)) hx398f (by decide) (by decide)
                      replace hx398a : (H.1 1826 30) ≤ (H398.1 1826 30) := hx398a
                      replace hx398b : (H398.1 1826 30) ≤ (H.1 1826 29) := hx398b
                      replace hx398g : (H398.1 1826 35) = 0 → ((H398.1 1826 31) = 0 ∨ (H.1 1826 30) < (H398.1 1826 30)) := hx398g
                      refine h_run 0 (pc' := 269) (l' := [(0, .inr (.inr 1826)), (1, .inl t), (2, .inl h), (3, .inl (-1)), (4, .inl (((H.1 1826 39) + 1) - 1))]) (st' := []) rfl ?_
                      refine h_run 1 (pc' := 270) (l' := [(0, .inr (.inr 1826)), (1, .inl t), (2, .inl h), (3, .inl (-1)), (4, .inl (((H.1 1826 39) + 1) - 1))]) (st' := [.inl t]) rfl ?_
                      refine h_reti (x := t) rfl rfl ?_
                      have g401 : -2147483648 ≤ (H398.1 1826 30) ∧ (H398.1 1826 30) ≤ 2147483647 := hrg399.1 1826 13 30 _ .int rfl rfl
                      have g402 : -2147483648 ≤ (H398.1 1826 35) ∧ (H398.1 1826 35) ≤ 2147483647 := hrg399.1 1826 13 35 _ .int rfl rfl
                      have g403 : -2147483648 ≤ (H398.1 1826 32) ∧ (H398.1 1826 32) ≤ 2147483647 := hrg399.1 1826 13 32 _ .int rfl rfl
                      have g404 : -2147483648 ≤ (H398.1 1826 29) ∧ (H398.1 1826 29) ≤ 2147483647 := hrg399.1 1826 13 29 _ .int rfl rfl
                      have e405 : (H398.1 1826 29) = (H.1 1826 29) := hx398f.2.2 29 (by decide)
                      have g406 : -2147483648 ≤ (H398.1 1826 31) ∧ (H398.1 1826 31) ≤ 2147483647 := hrg399.1 1826 13 31 _ .int rfl rfl
                      have g407 : -2147483648 ≤ (H398.1 1826 1) ∧ (H398.1 1826 1) ≤ 2147483647 := hrg399.1 1826 13 1 _ .int rfl rfl
                      have e408 : (H398.1 1826 1) = (H.1 1826 1) := hx398f.2.2 1 (by decide)
                      have g409 : -2147483648 ≤ (H398.1 1826 39) ∧ (H398.1 1826 39) ≤ 2147483647 := hrg399.1 1826 13 39 _ .int rfl rfl
                      have e410 : (H398.1 1826 39) = ((H.1 1826 39) + 1) := hx398f.2.2 39 (by decide)
                      have g411 : -2147483648 ≤ (H398.1 1826 44) ∧ (H398.1 1826 44) ≤ 2147483647 := hrg399.1 1826 13 44 _ .int rfl rfl
                      have e412 : (H398.1 1826 44) = (H.1 1826 44) := hx398f.2.2 44 (by decide)
                      exact ⟨⟨t, rfl, by omega, by omega⟩, hf400, (by omega : (H.1 1826 30) ≤ (H398.1 1826 30) ∧ (H398.1 1826 30) ≤ (H.1 1826 29)), (by omega : 0 ≤ (H398.1 1826 35) ∧ (H398.1 1826 35) ≤ 5), (by omega : 0 ≤ (H398.1 1826 32) ∧ (H398.1 1826 32) ≤ 1000), (by omega : (H398.1 1826 35) = 0 → (H398.1 1826 31) = 0 ∨ (H.1 1826 30) < (H398.1 1826 30)), (by omega : ((H.1 1826 44) ≠ 2 → (H398.1 1826 39) = (H.1 1826 39)) ∧ (H.1 1826 39) ≤ (H398.1 1826 39)), fun _ => TT_sign (s := (1000 + (((H.1 1826 39) + 1) - 1))) (q := 0) hP hTT ⟨⟨(hx398f.2.2 1 (by decide)), (hx398f.2.2 3 (by decide)), (hx398f.2.2 8 (by decide)), (hx398f.2.2 44 (by decide))⟩, (hx398f.2.1 1833 (by decide) (by decide)), (hx398f.2.1 1830 (by decide) (by decide))⟩ (by show m_sg (H.1 1826 3) (H.1 1826 8) (H398.1 1826 39) (1000 + (((H.1 1826 39) + 1) - 1)); rw [show (H398.1 1826 39) = _ from (hx398f.2.2 39 (by decide))]; exact Or.inr (Or.inr (Or.inr (by show 1000 ≤ (1000 + (((H.1 1826 39) + 1) - 1)) ∧ (1000 + (((H.1 1826 39) + 1) - 1)) < 1000 + ((H.1 1826 39) + 1); omega)))) (ma_0 (by omega)) (by omega) (by omega) ⟨(hx398f.2.2 40 (by decide)), (hx398f.2.2 43 (by decide)), (hx398f.2.2 41 (by decide))⟩ (hx398f.2.1 1851 (by decide) (by decide)) (Or.inr ⟨by omega, by omega, (hx398f.2.2 39 (by decide)), t, (hx398f.2.1 1850 (by decide) (by decide)), by omega, by omega⟩) (Or.inl ⟨rfl, (hx398f.2.2 47 (by decide)), (hx398f.2.1 1852 (by decide) (by decide)), (hx398f.2.1 1853 (by decide) (by decide)), (hx398f.2.1 1854 (by decide) (by decide))⟩)⟩
                · refine h_run 2 (pc' := 221) (l' := [(0, .inr (.inr 1826)), (1, .inl t), (2, .inl h), (3, .inl (-1)), (4, .inl (k370 : Int))]) (st' := [.inl 5, .inr (.inr 1826)]) rfl ?_
                  refine h_cv (i := 278) (j := 159) (b := 1826) (M' := mt_159) (xs := [.inl 5]) (rest := []) rfl rfl rfl rfl rfl rfl (Nat.le_of_ble_eq_true rfl) (Nat.le_of_ble_eq_true rfl) (by omega) (m_bad0 (by omega) (by omega) (by omega : (H.1 1826 35) = 0)) ?_
                  rintro _ _ ⟨rfl, rfl⟩
                  refine h_run 0 (pc' := 224) (l' := [(0, .inr (.inr 1826)), (1, .inl t), (2, .inl h), (3, .inl (-1)), (4, .inl (k370 : Int))]) (st' := []) rfl ?_
                  refine h_run 1 (pc' := 225) (l' := [(0, .inr (.inr 1826)), (1, .inl t), (2, .inl h), (3, .inl (-1)), (4, .inl (k370 : Int))]) (st' := [.inr (.inr 1826)]) rfl ?_
                  have g413 : -2147483648 ≤ (H.1 1826 40) ∧ (H.1 1826 40) ≤ 2147483647 := hrg0.1 1826 13 40 _ .int rfl rfl
                  refine h_cv (i := 344) (j := 168) (b := 1826) (M' := mt_168) (xs := []) (rest := []) rfl rfl rfl rfl rfl rfl (Nat.le_of_ble_eq_true rfl) (Nat.le_of_ble_eq_true rfl) (by omega) (m_countC (by omega) (by omega : (5 : Int) ≠ 0) (by omega : 0 ≤ (H.1 1826 40) ∧ (H.1 1826 40) ≤ 1000)) ?_
                  rintro _ _ ⟨rfl, rfl⟩
                  refine h_run 0 (pc' := 228) (l' := [(0, .inr (.inr 1826)), (1, .inl t), (2, .inl h), (3, .inl (-1)), (4, .inl (k370 : Int))]) (st' := []) rfl ?_
                  refine h_run 1 (pc' := 229) (l' := [(0, .inr (.inr 1826)), (1, .inl t), (2, .inl h), (3, .inl (-1)), (4, .inl (k370 : Int))]) (st' := [.inr (.inr 1826)]) rfl ?_
                  refine h_cv (i := 293) (j := 158) (b := 1826) (M' := mt_158) (xs := []) (rest := []) rfl rfl rfl rfl rfl rfl (Nat.le_of_ble_eq_true rfl) (Nat.le_of_ble_eq_true rfl) (by omega) (m_good0 (by omega) (by omega : (5 : Int) ≠ 0)) ?_
                  rintro _ _ ⟨rfl, rfl⟩
                  refine h_run 0 (pc' := 232) (l' := [(0, .inr (.inr 1826)), (1, .inl t), (2, .inl h), (3, .inl (-1)), (4, .inl (k370 : Int))]) (st' := [.inl 0]) rfl ?_
                  refine h_zne (off := 5) (t := 237) rfl rfl (by decide) (fun c => absurd c (by decide)) (fun _ => ?_)
                  refine h_run 1 (pc' := 236) (l' := [(0, .inr (.inr 1826)), (1, .inl t), (2, .inl h), (3, .inl (-1)), (4, .inl (k370 : Int))]) (st' := [.inl (-1)]) rfl ?_
                  refine h_reti (x := (-1)) rfl rfl ?_
                  have g414 : -2147483648 ≤ (H.1 1826 30) ∧ (H.1 1826 30) ≤ 2147483647 := hrg0.1 1826 13 30 _ .int rfl rfl
                  have g415 : -2147483648 ≤ (H.1 1826 32) ∧ (H.1 1826 32) ≤ 2147483647 := hrg0.1 1826 13 32 _ .int rfl rfl
                  have g416 : -2147483648 ≤ (H.1 1826 29) ∧ (H.1 1826 29) ≤ 2147483647 := hrg0.1 1826 13 29 _ .int rfl rfl
                  have g417 : -2147483648 ≤ (H.1 1826 31) ∧ (H.1 1826 31) ≤ 2147483647 := hrg0.1 1826 13 31 _ .int rfl rfl
                  have g418 : -2147483648 ≤ (H.1 1826 1) ∧ (H.1 1826 1) ≤ 2147483647 := hrg0.1 1826 13 1 _ .int rfl rfl
                  exact ⟨⟨(-1), rfl, by omega, by omega⟩, (fr_o (fr_o (fr_o (fr_rf _ _ _) (by decide)) (by decide)) (by decide)), (by omega : (H.1 1826 30) ≤ (H.1 1826 30) ∧ (H.1 1826 30) ≤ (H.1 1826 29)), (by omega : 0 ≤ (5 : Int) ∧ (5 : Int) ≤ 5), (by omega : 0 ≤ (H.1 1826 32) ∧ (H.1 1826 32) ≤ 1000), (by omega : (5 : Int) = 0 → (H.1 1826 31) = 0 ∨ (H.1 1826 30) < (H.1 1826 30)), (by omega : ((H.1 1826 44) ≠ 2 → (H.1 1826 39) = (H.1 1826 39)) ∧ (H.1 1826 39) ≤ (H.1 1826 39)), (fun (q : (5 : Int) = 0) => absurd q (by omega))⟩
            · refine h_run 3 (pc' := 187) (l' := [(0, .inr (.inr 1826)), (1, .inl t), (2, .inl h), (3, .inl (-1)), (4, .inl (k370 : Int))]) (st' := [.inl (k370 : Int), .inr (.inr 1850)]) rfl ?_
              refine h_ild (c := 1850) (j := k370) (i := (k370 : Int)) rfl rfl (by decide) rfl (by omega) ?_
              have g419 : -2147483648 ≤ (H.1 1850 k370) ∧ (H.1 1850 k370) ≤ 2147483647 := hrg0.2 1850 k370 48 .int rfl (by omega)
              refine h_run 0 (pc' := 188) (l' := [(0, .inr (.inr 1826)), (1, .inl t), (2, .inl h), (3, .inl (-1)), (4, .inl (k370 : Int))]) (st' := [.inl (H.1 1850 k370)]) rfl ?_
              refine h_run 1 (pc' := 189) (l' := [(0, .inr (.inr 1826)), (1, .inl t), (2, .inl h), (3, .inl (-1)), (4, .inl (k370 : Int))]) (st' := [.inl t, .inl (H.1 1850 k370)]) rfl ?_
              refine h_ieq (off := 8) (t := 197) rfl rfl (by omega) (by omega) (fun c420 => ?_) (fun c420 => ?_)
              · refine h_run 1 (pc' := 198) (l' := [(0, .inr (.inr 1826)), (1, .inl t), (2, .inl h), (3, .inl (-1)), (4, .inl (k370 : Int))]) (st' := [.inr (.inr 1826)]) rfl ?_
                refine h_cv (i := 293) (j := 158) (b := 1826) (M' := mt_158) (xs := []) (rest := []) rfl rfl rfl rfl rfl rfl (Nat.le_of_ble_eq_true rfl) (Nat.le_of_ble_eq_true rfl) (by omega) (m_good1 (by omega) (by omega : (H.1 1826 35) = 0)) ?_
                rintro _ _ ⟨rfl, rfl⟩
                refine h_run 0 (pc' := 201) (l' := [(0, .inr (.inr 1826)), (1, .inl t), (2, .inl h), (3, .inl (-1)), (4, .inl (k370 : Int))]) (st' := [.inl 1]) rfl ?_
                refine h_zeq (off := 23) (t := 224) rfl rfl (by decide) (fun c => absurd c (by decide)) (fun _ => ?_)
                refine h_run 2 (pc' := 207) (l' := [(0, .inr (.inr 1826)), (1, .inl t), (2, .inl h), (3, .inl (-1)), (4, .inl (k370 : Int))]) (st' := [.inl (-1), .inl (k370 : Int)]) rfl ?_
                refine h_ine (off := 17) (t := 224) rfl rfl (by omega) (by decide) (fun c421 => ?_) (fun c421 => ?_)
                · refine h_run 1 (pc' := 225) (l' := [(0, .inr (.inr 1826)), (1, .inl t), (2, .inl h), (3, .inl (-1)), (4, .inl (k370 : Int))]) (st' := [.inr (.inr 1826)]) rfl ?_
                  have g422 : -2147483648 ≤ (H.1 1826 40) ∧ (H.1 1826 40) ≤ 2147483647 := hrg0.1 1826 13 40 _ .int rfl rfl
                  by_cases b423 : (H.1 1826 40) = 40
                  · refine h_cv (i := 344) (j := 168) (b := 1826) (M' := mt_168) (xs := []) (rest := []) rfl rfl rfl rfl rfl rfl (Nat.le_of_ble_eq_true rfl) (Nat.le_of_ble_eq_true rfl) (by omega) (m_countB (by omega) (by omega : (H.1 1826 35) = 0) (by omega : (H.1 1826 40) = 40)) ?_
                    rintro _ _ ⟨rfl, rfl⟩
                    refine h_run 0 (pc' := 228) (l' := [(0, .inr (.inr 1826)), (1, .inl t), (2, .inl h), (3, .inl (-1)), (4, .inl (k370 : Int))]) (st' := []) rfl ?_
                    refine h_run 1 (pc' := 229) (l' := [(0, .inr (.inr 1826)), (1, .inl t), (2, .inl h), (3, .inl (-1)), (4, .inl (k370 : Int))]) (st' := [.inr (.inr 1826)]) rfl ?_
                    refine h_cv (i := 293) (j := 158) (b := 1826) (M' := mt_158) (xs := []) (rest := []) rfl rfl rfl rfl rfl rfl (Nat.le_of_ble_eq_true rfl) (Nat.le_of_ble_eq_true rfl) (by omega) (m_good0 (by omega) (by omega : (5 : Int) ≠ 0)) ?_
                    rintro _ _ ⟨rfl, rfl⟩
                    refine h_run 0 (pc' := 232) (l' := [(0, .inr (.inr 1826)), (1, .inl t), (2, .inl h), (3, .inl (-1)), (4, .inl (k370 : Int))]) (st' := [.inl 0]) rfl ?_
                    refine h_zne (off := 5) (t := 237) rfl rfl (by decide) (fun c => absurd c (by decide)) (fun _ => ?_)
                    refine h_run 1 (pc' := 236) (l' := [(0, .inr (.inr 1826)), (1, .inl t), (2, .inl h), (3, .inl (-1)), (4, .inl (k370 : Int))]) (st' := [.inl (-1)]) rfl ?_
                    refine h_reti (x := (-1)) rfl rfl ?_
                    have g424 : -2147483648 ≤ (H.1 1826 30) ∧ (H.1 1826 30) ≤ 2147483647 := hrg0.1 1826 13 30 _ .int rfl rfl
                    have g425 : -2147483648 ≤ (H.1 1826 32) ∧ (H.1 1826 32) ≤ 2147483647 := hrg0.1 1826 13 32 _ .int rfl rfl
                    have g426 : -2147483648 ≤ (H.1 1826 29) ∧ (H.1 1826 29) ≤ 2147483647 := hrg0.1 1826 13 29 _ .int rfl rfl
                    have g427 : -2147483648 ≤ (H.1 1826 31) ∧ (H.1 1826 31) ≤ 2147483647 := hrg0.1 1826 13 31 _ .int rfl rfl
                    have g428 : -2147483648 ≤ (H.1 1826 1) ∧ (H.1 1826 1) ≤ 2147483647 := hrg0.1 1826 13 1 _ .int rfl rfl
                    exact ⟨⟨(-1), rfl, by omega, by omega⟩, (fr_o (fr_o (fr_o (fr_rf _ _ _) (by decide)) (by decide)) (by decide)), (by omega : (H.1 1826 30) ≤ (H.1 1826 30) ∧ (H.1 1826 30) ≤ (H.1 1826 29)), (by omega : 0 ≤ (5 : Int) ∧ (5 : Int) ≤ 5), (by omega : 0 ≤ (H.1 1826 32) ∧ (H.1 1826 32) ≤ 1000), (by omega : (5 : Int) = 0 → (H.1 1826 31) = 0 ∨ (H.1 1826 30) < (H.1 1826 30)), (by omega : ((H.1 1826 44) ≠ 2 → (H.1 1826 39) = (H.1 1826 39)) ∧ (H.1 1826 39) ≤ (H.1 1826 39)), (fun (q : (5 : Int) = 0) => absurd q (by omega))⟩
                  · refine h_cv (i := 344) (j := 168) (b := 1826) (M' := mt_168) (xs := []) (rest := []) rfl rfl rfl rfl rfl rfl (Nat.le_of_ble_eq_true rfl) (Nat.le_of_ble_eq_true rfl) (by omega) (m_countA (by omega) (by omega : (H.1 1826 35) = 0) (by omega : 0 ≤ (H.1 1826 40) ∧ (H.1 1826 40) ≤ 1000) (by omega : (H.1 1826 40) ≠ 40)) ?_
                    rintro _ _ ⟨rfl, rfl⟩
                    refine h_run 0 (pc' := 228) (l' := [(0, .inr (.inr 1826)), (1, .inl t), (2, .inl h), (3, .inl (-1)), (4, .inl (k370 : Int))]) (st' := []) rfl ?_
                    refine h_run 1 (pc' := 229) (l' := [(0, .inr (.inr 1826)), (1, .inl t), (2, .inl h), (3, .inl (-1)), (4, .inl (k370 : Int))]) (st' := [.inr (.inr 1826)]) rfl ?_
                    refine h_cv (i := 293) (j := 158) (b := 1826) (M' := mt_158) (xs := []) (rest := []) rfl rfl rfl rfl rfl rfl (Nat.le_of_ble_eq_true rfl) (Nat.le_of_ble_eq_true rfl) (by omega) (m_good1 (by omega) (by omega : (H.1 1826 35) = 0)) ?_
                    rintro _ _ ⟨rfl, rfl⟩
                    refine h_run 0 (pc' := 232) (l' := [(0, .inr (.inr 1826)), (1, .inl t), (2, .inl h), (3, .inl (-1)), (4, .inl (k370 : Int))]) (st' := [.inl 1]) rfl ?_
                    refine h_zne (off := 5) (t := 237) rfl rfl (by decide) (fun _ => ?_) (fun c => absurd c (by decide))
                    refine h_run 2 (pc' := 240) (l' := [(0, .inr (.inr 1826)), (1, .inl t), (2, .inl h), (3, .inl (-1)), (4, .inl (k370 : Int))]) (st' := [.inl (-1), .inl (k370 : Int)]) rfl ?_
                    refine h_ine (off := 11) (t := 251) rfl rfl (by omega) (by decide) (fun c429 => ?_) (fun c429 => ?_)
                    · refine h_run 6 (pc' := 262) (l' := [(0, .inr (.inr 1826)), (1, .inl t), (2, .inl h), (3, .inl (-1)), (4, .inl (k370 : Int))]) (st' := [.inl (1000 + (k370 : Int)), .inr (.inr 1826)]) rfl ?_
                      have g430 : -2147483648 ≤ (H.1 1826 43) ∧ (H.1 1826 43) ≤ 2147483647 := hrg0.1 1826 13 43 _ .int rfl rfl
                      refine h_cv (i := 350) (j := 169) (b := 1826) (M' := mt_169) (xs := [.inl (1000 + (k370 : Int))]) (rest := []) rfl rfl rfl rfl rfl rfl (Nat.le_of_ble_eq_true rfl) (Nat.le_of_ble_eq_true rfl) (by omega) (m_put1 (by omega) (by omega : (H.1 1826 35) = 0) (by omega : 0 ≤ (H.1 1826 43) ∧ (H.1 1826 43) ≤ 47) (by omega)) ?_
                      rintro _ _ ⟨rfl, rfl⟩
                      refine h_run 0 (pc' := 265) (l' := [(0, .inr (.inr 1826)), (1, .inl t), (2, .inl h), (3, .inl (-1)), (4, .inl (k370 : Int))]) (st' := []) rfl ?_
                      refine h_run 1 (pc' := 266) (l' := [(0, .inr (.inr 1826)), (1, .inl t), (2, .inl h), (3, .inl (-1)), (4, .inl (k370 : Int))]) (st' := [.inr (.inr 1826)]) rfl ?_
                      have g431 : -2147483648 ≤ (H.1 1826 30) ∧ (H.1 1826 30) ≤ 2147483647 := hrg0.1 1826 13 30 _ .int rfl rfl
                      have g432 : -2147483648 ≤ (H.1 1826 29) ∧ (H.1 1826 29) ≤ 2147483647 := hrg0.1 1826 13 29 _ .int rfl rfl
                      have g433 : -2147483648 ≤ (H.1 1826 32) ∧ (H.1 1826 32) ≤ 2147483647 := hrg0.1 1826 13 32 _ .int rfl rfl
                      refine h_cv (i := 297) (j := 165) (b := 1826) (M' := mt_165) (xs := []) (rest := []) rfl rfl rfl rfl rfl rfl (Nat.le_of_ble_eq_true rfl) (Nat.le_of_ble_eq_true rfl) (by omega) (m_next (by omega) (by omega : 0 ≤ (H.1 1826 30) ∧ (H.1 1826 30) ≤ (H.1 1826 29) ∧ (H.1 1826 29) ≤ 1000) (by omega : 0 ≤ (H.1 1826 35) ∧ (H.1 1826 35) ≤ 5) (by omega : 0 ≤ (H.1 1826 32) ∧ (H.1 1826 32) ≤ 1000)) ?_
                      rintro _ H434 ⟨rfl, hx434f, hx434a, hx434b, hx434c, -, hx434e, hx434g⟩
                      refine h_rng (fun hrg435 => ?_)
                      have hf436 : fr [30, 31, 32, 33, 35, 36, 39, 40, 41, 43, 47] [1849, 1850, 1851, 1852, 1853, 1854] H H434 := fr_t (fr_o (fr_a (fr_o (fr_rf _ _ _) (by decide)) (by decide)) (by decide)) hx434f (by decide) (by decide)
                      replace hx434a : (H.1 1826 30) ≤ (H434.1 1826 30) := hx434a
                      replace hx434b : (H434.1 1826 30) ≤ (H.1 1826 29) := hx434b
                      replace hx434g : (H434.1 1826 35) = 0 → ((H434.1 1826 31) = 0 ∨ (H.1 1826 30) < (H434.1 1826 30)) := hx434g
                      refine h_run 0 (pc' := 269) (l' := [(0, .inr (.inr 1826)), (1, .inl t), (2, .inl h), (3, .inl (-1)), (4, .inl (k370 : Int))]) (st' := []) rfl ?_
                      refine h_run 1 (pc' := 270) (l' := [(0, .inr (.inr 1826)), (1, .inl t), (2, .inl h), (3, .inl (-1)), (4, .inl (k370 : Int))]) (st' := [.inl t]) rfl ?_
                      refine h_reti (x := t) rfl rfl ?_
                      have g437 : -2147483648 ≤ (H434.1 1826 30) ∧ (H434.1 1826 30) ≤ 2147483647 := hrg435.1 1826 13 30 _ .int rfl rfl
                      have g438 : -2147483648 ≤ (H434.1 1826 35) ∧ (H434.1 1826 35) ≤ 2147483647 := hrg435.1 1826 13 35 _ .int rfl rfl
                      have g439 : -2147483648 ≤ (H434.1 1826 32) ∧ (H434.1 1826 32) ≤ 2147483647 := hrg435.1 1826 13 32 _ .int rfl rfl
                      have g440 : -2147483648 ≤ (H434.1 1826 29) ∧ (H434.1 1826 29) ≤ 2147483647 := hrg435.1 1826 13 29 _ .int rfl rfl
                      have e441 : (H434.1 1826 29) = (H.1 1826 29) := hx434f.2.2 29 (by decide)
                      have g442 : -2147483648 ≤ (H434.1 1826 31) ∧ (H434.1 1826 31) ≤ 2147483647 := hrg435.1 1826 13 31 _ .int rfl rfl
                      have g443 : -2147483648 ≤ (H434.1 1826 1) ∧ (H434.1 1826 1) ≤ 2147483647 := hrg435.1 1826 13 1 _ .int rfl rfl
                      have e444 : (H434.1 1826 1) = (H.1 1826 1) := hx434f.2.2 1 (by decide)
                      have g445 : -2147483648 ≤ (H434.1 1826 39) ∧ (H434.1 1826 39) ≤ 2147483647 := hrg435.1 1826 13 39 _ .int rfl rfl
                      have e446 : (H434.1 1826 39) = (H.1 1826 39) := hx434f.2.2 39 (by decide)
                      have g447 : -2147483648 ≤ (H434.1 1826 44) ∧ (H434.1 1826 44) ≤ 2147483647 := hrg435.1 1826 13 44 _ .int rfl rfl
                      have e448 : (H434.1 1826 44) = (H.1 1826 44) := hx434f.2.2 44 (by decide)
                      exact ⟨⟨t, rfl, by omega, by omega⟩, hf436, (by omega : (H.1 1826 30) ≤ (H434.1 1826 30) ∧ (H434.1 1826 30) ≤ (H.1 1826 29)), (by omega : 0 ≤ (H434.1 1826 35) ∧ (H434.1 1826 35) ≤ 5), (by omega : 0 ≤ (H434.1 1826 32) ∧ (H434.1 1826 32) ≤ 1000), (by omega : (H434.1 1826 35) = 0 → (H434.1 1826 31) = 0 ∨ (H.1 1826 30) < (H434.1 1826 30)), (by omega : ((H.1 1826 44) ≠ 2 → (H434.1 1826 39) = (H.1 1826 39)) ∧ (H.1 1826 39) ≤ (H434.1 1826 39)), fun _ => TT_sign (s := (1000 + (k370 : Int))) (q := 0) hP hTT ⟨⟨(hx434f.2.2 1 (by decide)), (hx434f.2.2 3 (by decide)), (hx434f.2.2 8 (by decide)), (hx434f.2.2 44 (by decide))⟩, (hx434f.2.1 1833 (by decide) (by decide)), (hx434f.2.1 1830 (by decide) (by decide))⟩ (by show m_sg (H.1 1826 3) (H.1 1826 8) (H434.1 1826 39) (1000 + (k370 : Int)); rw [show (H434.1 1826 39) = _ from (hx434f.2.2 39 (by decide))]; exact Or.inr (Or.inr (Or.inr (by show 1000 ≤ (1000 + (k370 : Int)) ∧ (1000 + (k370 : Int)) < 1000 + (H.1 1826 39); omega)))) (ma_0 (by omega)) (by omega) (by omega) ⟨(hx434f.2.2 40 (by decide)), (hx434f.2.2 43 (by decide)), (hx434f.2.2 41 (by decide))⟩ (hx434f.2.1 1851 (by decide) (by decide)) (Or.inl ⟨(hx434f.2.2 39 (by decide)), (hx434f.2.1 1850 (by decide) (by decide))⟩) (Or.inl ⟨rfl, (hx434f.2.2 47 (by decide)), (hx434f.2.1 1852 (by decide) (by decide)), (hx434f.2.1 1853 (by decide) (by decide)), (hx434f.2.1 1854 (by decide) (by decide))⟩)⟩
                    · exfalso
                      omega
                · exfalso
                  omega
              · refine h_run 2 (pc' := 194) (l' := [(0, .inr (.inr 1826)), (1, .inl t), (2, .inl h), (3, .inl (-1)), (4, .inl (k370 : Int))]) (st' := [.inl 4, .inr (.inr 1826)]) rfl ?_
                refine h_cv (i := 278) (j := 159) (b := 1826) (M' := mt_159) (xs := [.inl 4]) (rest := []) rfl rfl rfl rfl rfl rfl (Nat.le_of_ble_eq_true rfl) (Nat.le_of_ble_eq_true rfl) (by omega) (m_bad0 (by omega) (by omega) (by omega : (H.1 1826 35) = 0)) ?_
                rintro _ _ ⟨rfl, rfl⟩
                refine h_run 0 (pc' := 197) (l' := [(0, .inr (.inr 1826)), (1, .inl t), (2, .inl h), (3, .inl (-1)), (4, .inl (k370 : Int))]) (st' := []) rfl ?_
                refine h_run 1 (pc' := 198) (l' := [(0, .inr (.inr 1826)), (1, .inl t), (2, .inl h), (3, .inl (-1)), (4, .inl (k370 : Int))]) (st' := [.inr (.inr 1826)]) rfl ?_
                refine h_cv (i := 293) (j := 158) (b := 1826) (M' := mt_158) (xs := []) (rest := []) rfl rfl rfl rfl rfl rfl (Nat.le_of_ble_eq_true rfl) (Nat.le_of_ble_eq_true rfl) (by omega) (m_good0 (by omega) (by omega : (4 : Int) ≠ 0)) ?_
                rintro _ _ ⟨rfl, rfl⟩
                refine h_run 0 (pc' := 201) (l' := [(0, .inr (.inr 1826)), (1, .inl t), (2, .inl h), (3, .inl (-1)), (4, .inl (k370 : Int))]) (st' := [.inl 0]) rfl ?_
                refine h_zeq (off := 23) (t := 224) rfl rfl (by decide) (fun _ => ?_) (fun c => absurd c (by decide))
                refine h_run 1 (pc' := 225) (l' := [(0, .inr (.inr 1826)), (1, .inl t), (2, .inl h), (3, .inl (-1)), (4, .inl (k370 : Int))]) (st' := [.inr (.inr 1826)]) rfl ?_
                have g449 : -2147483648 ≤ (H.1 1826 40) ∧ (H.1 1826 40) ≤ 2147483647 := hrg0.1 1826 13 40 _ .int rfl rfl
                refine h_cv (i := 344) (j := 168) (b := 1826) (M' := mt_168) (xs := []) (rest := []) rfl rfl rfl rfl rfl rfl (Nat.le_of_ble_eq_true rfl) (Nat.le_of_ble_eq_true rfl) (by omega) (m_countC (by omega) (by omega : (4 : Int) ≠ 0) (by omega : 0 ≤ (H.1 1826 40) ∧ (H.1 1826 40) ≤ 1000)) ?_
                rintro _ _ ⟨rfl, rfl⟩
                refine h_run 0 (pc' := 228) (l' := [(0, .inr (.inr 1826)), (1, .inl t), (2, .inl h), (3, .inl (-1)), (4, .inl (k370 : Int))]) (st' := []) rfl ?_
                refine h_run 1 (pc' := 229) (l' := [(0, .inr (.inr 1826)), (1, .inl t), (2, .inl h), (3, .inl (-1)), (4, .inl (k370 : Int))]) (st' := [.inr (.inr 1826)]) rfl ?_
                refine h_cv (i := 293) (j := 158) (b := 1826) (M' := mt_158) (xs := []) (rest := []) rfl rfl rfl rfl rfl rfl (Nat.le_of_ble_eq_true rfl) (Nat.le_of_ble_eq_true rfl) (by omega) (m_good0 (by omega) (by omega : (4 : Int) ≠ 0)) ?_
                rintro _ _ ⟨rfl, rfl⟩
                refine h_run 0 (pc' := 232) (l' := [(0, .inr (.inr 1826)), (1, .inl t), (2, .inl h), (3, .inl (-1)), (4, .inl (k370 : Int))]) (st' := [.inl 0]) rfl ?_
                refine h_zne (off := 5) (t := 237) rfl rfl (by decide) (fun c => absurd c (by decide)) (fun _ => ?_)
                refine h_run 1 (pc' := 236) (l' := [(0, .inr (.inr 1826)), (1, .inl t), (2, .inl h), (3, .inl (-1)), (4, .inl (k370 : Int))]) (st' := [.inl (-1)]) rfl ?_
                refine h_reti (x := (-1)) rfl rfl ?_
                have g450 : -2147483648 ≤ (H.1 1826 30) ∧ (H.1 1826 30) ≤ 2147483647 := hrg0.1 1826 13 30 _ .int rfl rfl
                have g451 : -2147483648 ≤ (H.1 1826 32) ∧ (H.1 1826 32) ≤ 2147483647 := hrg0.1 1826 13 32 _ .int rfl rfl
                have g452 : -2147483648 ≤ (H.1 1826 29) ∧ (H.1 1826 29) ≤ 2147483647 := hrg0.1 1826 13 29 _ .int rfl rfl
                have g453 : -2147483648 ≤ (H.1 1826 31) ∧ (H.1 1826 31) ≤ 2147483647 := hrg0.1 1826 13 31 _ .int rfl rfl
                have g454 : -2147483648 ≤ (H.1 1826 1) ∧ (H.1 1826 1) ≤ 2147483647 := hrg0.1 1826 13 1 _ .int rfl rfl
                exact ⟨⟨(-1), rfl, by omega, by omega⟩, (fr_o (fr_o (fr_o (fr_rf _ _ _) (by decide)) (by decide)) (by decide)), (by omega : (H.1 1826 30) ≤ (H.1 1826 30) ∧ (H.1 1826 30) ≤ (H.1 1826 29)), (by omega : 0 ≤ (4 : Int) ∧ (4 : Int) ≤ 5), (by omega : 0 ≤ (H.1 1826 32) ∧ (H.1 1826 32) ≤ 1000), (by omega : (4 : Int) = 0 → (H.1 1826 31) = 0 ∨ (H.1 1826 30) < (H.1 1826 30)), (by omega : ((H.1 1826 44) ≠ 2 → (H.1 1826 39) = (H.1 1826 39)) ∧ (H.1 1826 39) ≤ (H.1 1826 39)), (fun (q : (4 : Int) = 0) => absurd q (by omega))⟩
          · refine h_run 2 (pc' := 165) (l' := [(0, .inr (.inr 1826)), (1, .inl t), (2, .inl h), (3, .inl (-1)), (4, .inl (k370 : Int))]) (st' := [.inl 2, .inr (.inr 1826)]) rfl ?_
            refine h_cv (i := 278) (j := 159) (b := 1826) (M' := mt_159) (xs := [.inl 2]) (rest := []) rfl rfl rfl rfl rfl rfl (Nat.le_of_ble_eq_true rfl) (Nat.le_of_ble_eq_true rfl) (by omega) (m_bad0 (by omega) (by omega) (by omega : (H.1 1826 35) = 0)) ?_
            rintro _ _ ⟨rfl, rfl⟩
            refine h_run 0 (pc' := 168) (l' := [(0, .inr (.inr 1826)), (1, .inl t), (2, .inl h), (3, .inl (-1)), (4, .inl (k370 : Int))]) (st' := []) rfl ?_
            refine h_run 1 (pc' := 169) (l' := [(0, .inr (.inr 1826)), (1, .inl t), (2, .inl h), (3, .inl (-1)), (4, .inl (k370 : Int))]) (st' := [.inr (.inr 1826)]) rfl ?_
            refine h_cv (i := 293) (j := 158) (b := 1826) (M' := mt_158) (xs := []) (rest := []) rfl rfl rfl rfl rfl rfl (Nat.le_of_ble_eq_true rfl) (Nat.le_of_ble_eq_true rfl) (by omega) (m_good0 (by omega) (by omega : (2 : Int) ≠ 0)) ?_
            rintro _ _ ⟨rfl, rfl⟩
            refine h_run 0 (pc' := 172) (l' := [(0, .inr (.inr 1826)), (1, .inl t), (2, .inl h), (3, .inl (-1)), (4, .inl (k370 : Int))]) (st' := [.inl 0]) rfl ?_
            refine h_zeq (off := 25) (t := 197) rfl rfl (by decide) (fun _ => ?_) (fun c => absurd c (by decide))
            refine h_run 1 (pc' := 198) (l' := [(0, .inr (.inr 1826)), (1, .inl t), (2, .inl h), (3, .inl (-1)), (4, .inl (k370 : Int))]) (st' := [.inr (.inr 1826)]) rfl ?_
            refine h_cv (i := 293) (j := 158) (b := 1826) (M' := mt_158) (xs := []) (rest := []) rfl rfl rfl rfl rfl rfl (Nat.le_of_ble_eq_true rfl) (Nat.le_of_ble_eq_true rfl) (by omega) (m_good0 (by omega) (by omega : (2 : Int) ≠ 0)) ?_
            rintro _ _ ⟨rfl, rfl⟩
            refine h_run 0 (pc' := 201) (l' := [(0, .inr (.inr 1826)), (1, .inl t), (2, .inl h), (3, .inl (-1)), (4, .inl (k370 : Int))]) (st' := [.inl 0]) rfl ?_
            refine h_zeq (off := 23) (t := 224) rfl rfl (by decide) (fun _ => ?_) (fun c => absurd c (by decide))
            refine h_run 1 (pc' := 225) (l' := [(0, .inr (.inr 1826)), (1, .inl t), (2, .inl h), (3, .inl (-1)), (4, .inl (k370 : Int))]) (st' := [.inr (.inr 1826)]) rfl ?_
            have g455 : -2147483648 ≤ (H.1 1826 40) ∧ (H.1 1826 40) ≤ 2147483647 := hrg0.1 1826 13 40 _ .int rfl rfl
            refine h_cv (i := 344) (j := 168) (b := 1826) (M' := mt_168) (xs := []) (rest := []) rfl rfl rfl rfl rfl rfl (Nat.le_of_ble_eq_true rfl) (Nat.le_of_ble_eq_true rfl) (by omega) (m_countC (by omega) (by omega : (2 : Int) ≠ 0) (by omega : 0 ≤ (H.1 1826 40) ∧ (H.1 1826 40) ≤ 1000)) ?_
            rintro _ _ ⟨rfl, rfl⟩
            refine h_run 0 (pc' := 228) (l' := [(0, .inr (.inr 1826)), (1, .inl t), (2, .inl h), (3, .inl (-1)), (4, .inl (k370 : Int))]) (st' := []) rfl ?_
            refine h_run 1 (pc' := 229) (l' := [(0, .inr (.inr 1826)), (1, .inl t), (2, .inl h), (3, .inl (-1)), (4, .inl (k370 : Int))]) (st' := [.inr (.inr 1826)]) rfl ?_
            refine h_cv (i := 293) (j := 158) (b := 1826) (M' := mt_158) (xs := []) (rest := []) rfl rfl rfl rfl rfl rfl (Nat.le_of_ble_eq_true rfl) (Nat.le_of_ble_eq_true rfl) (by omega) (m_good0 (by omega) (by omega : (2 : Int) ≠ 0)) ?_
            rintro _ _ ⟨rfl, rfl⟩
            refine h_run 0 (pc' := 232) (l' := [(0, .inr (.inr 1826)), (1, .inl t), (2, .inl h), (3, .inl (-1)), (4, .inl (k370 : Int))]) (st' := [.inl 0]) rfl ?_
            refine h_zne (off := 5) (t := 237) rfl rfl (by decide) (fun c => absurd c (by decide)) (fun _ => ?_)
            refine h_run 1 (pc' := 236) (l' := [(0, .inr (.inr 1826)), (1, .inl t), (2, .inl h), (3, .inl (-1)), (4, .inl (k370 : Int))]) (st' := [.inl (-1)]) rfl ?_
            refine h_reti (x := (-1)) rfl rfl ?_
            have g456 : -2147483648 ≤ (H.1 1826 30) ∧ (H.1 1826 30) ≤ 2147483647 := hrg0.1 1826 13 30 _ .int rfl rfl
            have g457 : -2147483648 ≤ (H.1 1826 32) ∧ (H.1 1826 32) ≤ 2147483647 := hrg0.1 1826 13 32 _ .int rfl rfl
            have g458 : -2147483648 ≤ (H.1 1826 29) ∧ (H.1 1826 29) ≤ 2147483647 := hrg0.1 1826 13 29 _ .int rfl rfl
            have g459 : -2147483648 ≤ (H.1 1826 31) ∧ (H.1 1826 31) ≤ 2147483647 := hrg0.1 1826 13 31 _ .int rfl rfl
            have g460 : -2147483648 ≤ (H.1 1826 1) ∧ (H.1 1826 1) ≤ 2147483647 := hrg0.1 1826 13 1 _ .int rfl rfl
            exact ⟨⟨(-1), rfl, by omega, by omega⟩, (fr_o (fr_o (fr_o (fr_rf _ _ _) (by decide)) (by decide)) (by decide)), (by omega : (H.1 1826 30) ≤ (H.1 1826 30) ∧ (H.1 1826 30) ≤ (H.1 1826 29)), (by omega : 0 ≤ (2 : Int) ∧ (2 : Int) ≤ 5), (by omega : 0 ≤ (H.1 1826 32) ∧ (H.1 1826 32) ≤ 1000), (by omega : (2 : Int) = 0 → (H.1 1826 31) = 0 ∨ (H.1 1826 30) < (H.1 1826 30)), (by omega : ((H.1 1826 44) ≠ 2 → (H.1 1826 39) = (H.1 1826 39)) ∧ (H.1 1826 39) ≤ (H.1 1826 39)), (fun (q : (2 : Int) = 0) => absurd q (by omega))⟩
        · refine h_run 2 (pc' := 141) (l' := [(0, .inr (.inr 1826)), (1, .inl t), (2, .inl h), (3, .inl (-1)), (4, .inl (k370 : Int))]) (st' := [.inl (-1), .inl (k370 : Int)]) rfl ?_
          refine h_ine (off := 10) (t := 151) rfl rfl (by omega) (by decide) (fun c461 => ?_) (fun c461 => ?_)
          · refine h_run 1 (pc' := 152) (l' := [(0, .inr (.inr 1826)), (1, .inl t), (2, .inl h), (3, .inl (-1)), (4, .inl (k370 : Int))]) (st' := [.inr (.inr 1826)]) rfl ?_
            have g462 : -2147483648 ≤ (H.1 1826 35) ∧ (H.1 1826 35) ≤ 2147483647 := hrg0.1 1826 13 35 _ .int rfl rfl
            refine h_cv (i := 293) (j := 158) (b := 1826) (M' := mt_158) (xs := []) (rest := []) rfl rfl rfl rfl rfl rfl (Nat.le_of_ble_eq_true rfl) (Nat.le_of_ble_eq_true rfl) (by omega) (m_good1 (by omega) (by omega : (H.1 1826 35) = 0)) ?_
            rintro _ _ ⟨rfl, rfl⟩
            refine h_run 0 (pc' := 155) (l' := [(0, .inr (.inr 1826)), (1, .inl t), (2, .inl h), (3, .inl (-1)), (4, .inl (k370 : Int))]) (st' := [.inl 1]) rfl ?_
            refine h_zeq (off := 13) (t := 168) rfl rfl (by decide) (fun c => absurd c (by decide)) (fun _ => ?_)
            refine h_run 2 (pc' := 160) (l' := [(0, .inr (.inr 1826)), (1, .inl t), (2, .inl h), (3, .inl (-1)), (4, .inl (k370 : Int))]) (st' := [.inl (-1), .inl t]) rfl ?_
            refine h_ine (off := 8) (t := 168) rfl rfl (by omega) (by decide) (fun c463 => ?_) (fun c463 => ?_)
            · refine h_run 1 (pc' := 169) (l' := [(0, .inr (.inr 1826)), (1, .inl t), (2, .inl h), (3, .inl (-1)), (4, .inl (k370 : Int))]) (st' := [.inr (.inr 1826)]) rfl ?_
              refine h_cv (i := 293) (j := 158) (b := 1826) (M' := mt_158) (xs := []) (rest := []) rfl rfl rfl rfl rfl rfl (Nat.le_of_ble_eq_true rfl) (Nat.le_of_ble_eq_true rfl) (by omega) (m_good1 (by omega) (by omega : (H.1 1826 35) = 0)) ?_
              rintro _ _ ⟨rfl, rfl⟩
              refine h_run 0 (pc' := 172) (l' := [(0, .inr (.inr 1826)), (1, .inl t), (2, .inl h), (3, .inl (-1)), (4, .inl (k370 : Int))]) (st' := [.inl 1]) rfl ?_
              refine h_zeq (off := 25) (t := 197) rfl rfl (by decide) (fun c => absurd c (by decide)) (fun _ => ?_)
              refine h_run 2 (pc' := 178) (l' := [(0, .inr (.inr 1826)), (1, .inl t), (2, .inl h), (3, .inl (-1)), (4, .inl (k370 : Int))]) (st' := [.inl (-1), .inl (k370 : Int)]) rfl ?_
              refine h_ieq (off := 19) (t := 197) rfl rfl (by omega) (by decide) (fun c464 => ?_) (fun c464 => ?_)
              · exfalso
                omega
              · refine h_run 3 (pc' := 187) (l' := [(0, .inr (.inr 1826)), (1, .inl t), (2, .inl h), (3, .inl (-1)), (4, .inl (k370 : Int))]) (st' := [.inl (k370 : Int), .inr (.inr 1850)]) rfl ?_
                refine h_ild (c := 1850) (j := k370) (i := (k370 : Int)) rfl rfl (by decide) rfl (by omega) ?_
                have g465 : -2147483648 ≤ (H.1 1850 k370) ∧ (H.1 1850 k370) ≤ 2147483647 := hrg0.2 1850 k370 48 .int rfl (by omega)
                refine h_run 0 (pc' := 188) (l' := [(0, .inr (.inr 1826)), (1, .inl t), (2, .inl h), (3, .inl (-1)), (4, .inl (k370 : Int))]) (st' := [.inl (H.1 1850 k370)]) rfl ?_
                refine h_run 1 (pc' := 189) (l' := [(0, .inr (.inr 1826)), (1, .inl t), (2, .inl h), (3, .inl (-1)), (4, .inl (k370 : Int))]) (st' := [.inl t, .inl (H.1 1850 k370)]) rfl ?_
                refine h_ieq (off := 8) (t := 197) rfl rfl (by omega) (by omega) (fun c466 => ?_) (fun c466 => ?_)
                · refine h_run 1 (pc' := 198) (l' := [(0, .inr (.inr 1826)), (1, .inl t), (2, .inl h), (3, .inl (-1)), (4, .inl (k370 : Int))]) (st' := [.inr (.inr 1826)]) rfl ?_
                  refine h_cv (i := 293) (j := 158) (b := 1826) (M' := mt_158) (xs := []) (rest := []) rfl rfl rfl rfl rfl rfl (Nat.le_of_ble_eq_true rfl) (Nat.le_of_ble_eq_true rfl) (by omega) (m_good1 (by omega) (by omega : (H.1 1826 35) = 0)) ?_
                  rintro _ _ ⟨rfl, rfl⟩
                  refine h_run 0 (pc' := 201) (l' := [(0, .inr (.inr 1826)), (1, .inl t), (2, .inl h), (3, .inl (-1)), (4, .inl (k370 : Int))]) (st' := [.inl 1]) rfl ?_
                  refine h_zeq (off := 23) (t := 224) rfl rfl (by decide) (fun c => absurd c (by decide)) (fun _ => ?_)
                  refine h_run 2 (pc' := 207) (l' := [(0, .inr (.inr 1826)), (1, .inl t), (2, .inl h), (3, .inl (-1)), (4, .inl (k370 : Int))]) (st' := [.inl (-1), .inl (k370 : Int)]) rfl ?_
                  refine h_ine (off := 17) (t := 224) rfl rfl (by omega) (by decide) (fun c467 => ?_) (fun c467 => ?_)
                  · refine h_run 1 (pc' := 225) (l' := [(0, .inr (.inr 1826)), (1, .inl t), (2, .inl h), (3, .inl (-1)), (4, .inl (k370 : Int))]) (st' := [.inr (.inr 1826)]) rfl ?_
                    have g468 : -2147483648 ≤ (H.1 1826 40) ∧ (H.1 1826 40) ≤ 2147483647 := hrg0.1 1826 13 40 _ .int rfl rfl
                    by_cases b469 : (H.1 1826 40) = 40
                    · refine h_cv (i := 344) (j := 168) (b := 1826) (M' := mt_168) (xs := []) (rest := []) rfl rfl rfl rfl rfl rfl (Nat.le_of_ble_eq_true rfl) (Nat.le_of_ble_eq_true rfl) (by omega) (m_countB (by omega) (by omega : (H.1 1826 35) = 0) (by omega : (H.1 1826 40) = 40)) ?_
                      rintro _ _ ⟨rfl, rfl⟩
                      refine h_run 0 (pc' := 228) (l' := [(0, .inr (.inr 1826)), (1, .inl t), (2, .inl h), (3, .inl (-1)), (4, .inl (k370 : Int))]) (st' := []) rfl ?_
                      refine h_run 1 (pc' := 229) (l' := [(0, .inr (.inr 1826)), (1, .inl t), (2, .inl h), (3, .inl (-1)), (4, .inl (k370 : Int))]) (st' := [.inr (.inr 1826)]) rfl ?_
                      refine h_cv (i := 293) (j := 158) (b := 1826) (M' := mt_158) (xs := []) (rest := []) rfl rfl rfl rfl rfl rfl (Nat.le_of_ble_eq_true rfl) (Nat.le_of_ble_eq_true rfl) (by omega) (m_good0 (by omega) (by omega : (5 : Int) ≠ 0)) ?_
                      rintro _ _ ⟨rfl, rfl⟩
                      refine h_run 0 (pc' := 232) (l' := [(0, .inr (.inr 1826)), (1, .inl t), (2, .inl h), (3, .inl (-1)), (4, .inl (k370 : Int))]) (st' := [.inl 0]) rfl ?_
                      refine h_zne (off := 5) (t := 237) rfl rfl (by decide) (fun c => absurd c (by decide)) (fun _ => ?_)
                      refine h_run 1 (pc' := 236) (l' := [(0, .inr (.inr 1826)), (1, .inl t), (2, .inl h), (3, .inl (-1)), (4, .inl (k370 : Int))]) (st' := [.inl (-1)]) rfl ?_
                      refine h_reti (x := (-1)) rfl rfl ?_
                      have g470 : -2147483648 ≤ (H.1 1826 30) ∧ (H.1 1826 30) ≤ 2147483647 := hrg0.1 1826 13 30 _ .int rfl rfl
                      have g471 : -2147483648 ≤ (H.1 1826 32) ∧ (H.1 1826 32) ≤ 2147483647 := hrg0.1 1826 13 32 _ .int rfl rfl
                      have g472 : -2147483648 ≤ (H.1 1826 29) ∧ (H.1 1826 29) ≤ 2147483647 := hrg0.1 1826 13 29 _ .int rfl rfl
                      have g473 : -2147483648 ≤ (H.1 1826 31) ∧ (H.1 1826 31) ≤ 2147483647 := hrg0.1 1826 13 31 _ .int rfl rfl
                      have g474 : -2147483648 ≤ (H.1 1826 1) ∧ (H.1 1826 1) ≤ 2147483647 := hrg0.1 1826 13 1 _ .int rfl rfl
                      exact ⟨⟨(-1), rfl, by omega, by omega⟩, (fr_o (fr_o (fr_o (fr_rf _ _ _) (by decide)) (by decide)) (by decide)), (by omega : (H.1 1826 30) ≤ (H.1 1826 30) ∧ (H.1 1826 30) ≤ (H.1 1826 29)), (by omega : 0 ≤ (5 : Int) ∧ (5 : Int) ≤ 5), (by omega : 0 ≤ (H.1 1826 32) ∧ (H.1 1826 32) ≤ 1000), (by omega : (5 : Int) = 0 → (H.1 1826 31) = 0 ∨ (H.1 1826 30) < (H.1 1826 30)), (by omega : ((H.1 1826 44) ≠ 2 → (H.1 1826 39) = (H.1 1826 39)) ∧ (H.1 1826 39) ≤ (H.1 1826 39)), (fun (q : (5 : Int) = 0) => absurd q (by omega))⟩
                    · refine h_cv (i := 344) (j := 168) (b := 1826) (M' := mt_168) (xs := []) (rest := []) rfl rfl rfl rfl rfl rfl (Nat.le_of_ble_eq_true rfl) (Nat.le_of_ble_eq_true rfl) (by omega) (m_countA (by omega) (by omega : (H.1 1826 35) = 0) (by omega : 0 ≤ (H.1 1826 40) ∧ (H.1 1826 40) ≤ 1000) (by omega : (H.1 1826 40) ≠ 40)) ?_
                      rintro _ _ ⟨rfl, rfl⟩
                      refine h_run 0 (pc' := 228) (l' := [(0, .inr (.inr 1826)), (1, .inl t), (2, .inl h), (3, .inl (-1)), (4, .inl (k370 : Int))]) (st' := []) rfl ?_
                      refine h_run 1 (pc' := 229) (l' := [(0, .inr (.inr 1826)), (1, .inl t), (2, .inl h), (3, .inl (-1)), (4, .inl (k370 : Int))]) (st' := [.inr (.inr 1826)]) rfl ?_
                      refine h_cv (i := 293) (j := 158) (b := 1826) (M' := mt_158) (xs := []) (rest := []) rfl rfl rfl rfl rfl rfl (Nat.le_of_ble_eq_true rfl) (Nat.le_of_ble_eq_true rfl) (by omega) (m_good1 (by omega) (by omega : (H.1 1826 35) = 0)) ?_
                      rintro _ _ ⟨rfl, rfl⟩
                      refine h_run 0 (pc' := 232) (l' := [(0, .inr (.inr 1826)), (1, .inl t), (2, .inl h), (3, .inl (-1)), (4, .inl (k370 : Int))]) (st' := [.inl 1]) rfl ?_
                      refine h_zne (off := 5) (t := 237) rfl rfl (by decide) (fun _ => ?_) (fun c => absurd c (by decide))
                      refine h_run 2 (pc' := 240) (l' := [(0, .inr (.inr 1826)), (1, .inl t), (2, .inl h), (3, .inl (-1)), (4, .inl (k370 : Int))]) (st' := [.inl (-1), .inl (k370 : Int)]) rfl ?_
                      refine h_ine (off := 11) (t := 251) rfl rfl (by omega) (by decide) (fun c475 => ?_) (fun c475 => ?_)
                      · refine h_run 6 (pc' := 262) (l' := [(0, .inr (.inr 1826)), (1, .inl t), (2, .inl h), (3, .inl (-1)), (4, .inl (k370 : Int))]) (st' := [.inl (1000 + (k370 : Int)), .inr (.inr 1826)]) rfl ?_
                        have g476 : -2147483648 ≤ (H.1 1826 43) ∧ (H.1 1826 43) ≤ 2147483647 := hrg0.1 1826 13 43 _ .int rfl rfl
                        refine h_cv (i := 350) (j := 169) (b := 1826) (M' := mt_169) (xs := [.inl (1000 + (k370 : Int))]) (rest := []) rfl rfl rfl rfl rfl rfl (Nat.le_of_ble_eq_true rfl) (Nat.le_of_ble_eq_true rfl) (by omega) (m_put1 (by omega) (by omega : (H.1 1826 35) = 0) (by omega : 0 ≤ (H.1 1826 43) ∧ (H.1 1826 43) ≤ 47) (by omega)) ?_
                        rintro _ _ ⟨rfl, rfl⟩
                        refine h_run 0 (pc' := 265) (l' := [(0, .inr (.inr 1826)), (1, .inl t), (2, .inl h), (3, .inl (-1)), (4, .inl (k370 : Int))]) (st' := []) rfl ?_
                        refine h_run 1 (pc' := 266) (l' := [(0, .inr (.inr 1826)), (1, .inl t), (2, .inl h), (3, .inl (-1)), (4, .inl (k370 : Int))]) (st' := [.inr (.inr 1826)]) rfl ?_
                        have g477 : -2147483648 ≤ (H.1 1826 30) ∧ (H.1 1826 30) ≤ 2147483647 := hrg0.1 1826 13 30 _ .int rfl rfl
                        have g478 : -2147483648 ≤ (H.1 1826 29) ∧ (H.1 1826 29) ≤ 2147483647 := hrg0.1 1826 13 29 _ .int rfl rfl
                        have g479 : -2147483648 ≤ (H.1 1826 32) ∧ (H.1 1826 32) ≤ 2147483647 := hrg0.1 1826 13 32 _ .int rfl rfl
                        refine h_cv (i := 297) (j := 165) (b := 1826) (M' := mt_165) (xs := []) (rest := []) rfl rfl rfl rfl rfl rfl (Nat.le_of_ble_eq_true rfl) (Nat.le_of_ble_eq_true rfl) (by omega) (m_next (by omega) (by omega : 0 ≤ (H.1 1826 30) ∧ (H.1 1826 30) ≤ (H.1 1826 29) ∧ (H.1 1826 29) ≤ 1000) (by omega : 0 ≤ (H.1 1826 35) ∧ (H.1 1826 35) ≤ 5) (by omega : 0 ≤ (H.1 1826 32) ∧ (H.1 1826 32) ≤ 1000)) ?_
                        rintro _ H480 ⟨rfl, hx480f, hx480a, hx480b, hx480c, -, hx480e, hx480g⟩
                        refine h_rng (fun hrg481 => ?_)
                        have hf482 : fr [30, 31, 32, 33, 35, 36, 39, 40, 41, 43, 47] [1849, 1850, 1851, 1852, 1853, 1854] H H480 := fr_t (fr_o (fr_a (fr_o (fr_rf _ _ _) (by decide)) (by decide)) (by decide)) hx480f (by decide) (by decide)
                        replace hx480a : (H.1 1826 30) ≤ (H480.1 1826 30) := hx480a
                        replace hx480b : (H480.1 1826 30) ≤ (H.1 1826 29) := hx480b
                        replace hx480g : (H480.1 1826 35) = 0 → ((H480.1 1826 31) = 0 ∨ (H.1 1826 30) < (H480.1 1826 30)) := hx480g
                        refine h_run 0 (pc' := 269) (l' := [(0, .inr (.inr 1826)), (1, .inl t), (2, .inl h), (3, .inl (-1)), (4, .inl (k370 : Int))]) (st' := []) rfl ?_
                        refine h_run 1 (pc' := 270) (l' := [(0, .inr (.inr 1826)), (1, .inl t), (2, .inl h), (3, .inl (-1)), (4, .inl (k370 : Int))]) (st' := [.inl t]) rfl ?_
                        refine h_reti (x := t) rfl rfl ?_
                        have g483 : -2147483648 ≤ (H480.1 1826 30) ∧ (H480.1 1826 30) ≤ 2147483647 := hrg481.1 1826 13 30 _ .int rfl rfl
                        have g484 : -2147483648 ≤ (H480.1 1826 35) ∧ (H480.1 1826 35) ≤ 2147483647 := hrg481.1 1826 13 35 _ .int rfl rfl
                        have g485 : -2147483648 ≤ (H480.1 1826 32) ∧ (H480.1 1826 32) ≤ 2147483647 := hrg481.1 1826 13 32 _ .int rfl rfl
                        have g486 : -2147483648 ≤ (H480.1 1826 29) ∧ (H480.1 1826 29) ≤ 2147483647 := hrg481.1 1826 13 29 _ .int rfl rfl
                        have e487 : (H480.1 1826 29) = (H.1 1826 29) := hx480f.2.2 29 (by decide)
                        have g488 : -2147483648 ≤ (H480.1 1826 31) ∧ (H480.1 1826 31) ≤ 2147483647 := hrg481.1 1826 13 31 _ .int rfl rfl
                        have g489 : -2147483648 ≤ (H480.1 1826 1) ∧ (H480.1 1826 1) ≤ 2147483647 := hrg481.1 1826 13 1 _ .int rfl rfl
                        have e490 : (H480.1 1826 1) = (H.1 1826 1) := hx480f.2.2 1 (by decide)
                        have g491 : -2147483648 ≤ (H480.1 1826 39) ∧ (H480.1 1826 39) ≤ 2147483647 := hrg481.1 1826 13 39 _ .int rfl rfl
                        have e492 : (H480.1 1826 39) = (H.1 1826 39) := hx480f.2.2 39 (by decide)
                        have g493 : -2147483648 ≤ (H480.1 1826 44) ∧ (H480.1 1826 44) ≤ 2147483647 := hrg481.1 1826 13 44 _ .int rfl rfl
                        have e494 : (H480.1 1826 44) = (H.1 1826 44) := hx480f.2.2 44 (by decide)
                        exact ⟨⟨t, rfl, by omega, by omega⟩, hf482, (by omega : (H.1 1826 30) ≤ (H480.1 1826 30) ∧ (H480.1 1826 30) ≤ (H.1 1826 29)), (by omega : 0 ≤ (H480.1 1826 35) ∧ (H480.1 1826 35) ≤ 5), (by omega : 0 ≤ (H480.1 1826 32) ∧ (H480.1 1826 32) ≤ 1000), (by omega : (H480.1 1826 35) = 0 → (H480.1 1826 31) = 0 ∨ (H.1 1826 30) < (H480.1 1826 30)), (by omega : ((H.1 1826 44) ≠ 2 → (H480.1 1826 39) = (H.1 1826 39)) ∧ (H.1 1826 39) ≤ (H480.1 1826 39)), fun _ => TT_sign (s := (1000 + (k370 : Int))) (q := 0) hP hTT ⟨⟨(hx480f.2.2 1 (by decide)), (hx480f.2.2 3 (by decide)), (hx480f.2.2 8 (by decide)), (hx480f.2.2 44 (by decide))⟩, (hx480f.2.1 1833 (by decide) (by decide)), (hx480f.2.1 1830 (by decide) (by decide))⟩ (by show m_sg (H.1 1826 3) (H.1 1826 8) (H480.1 1826 39) (1000 + (k370 : Int)); rw [show (H480.1 1826 39) = _ from (hx480f.2.2 39 (by decide))]; exact Or.inr (Or.inr (Or.inr (by show 1000 ≤ (1000 + (k370 : Int)) ∧ (1000 + (k370 : Int)) < 1000 + (H.1 1826 39); omega)))) (ma_0 (by omega)) (by omega) (by omega) ⟨(hx480f.2.2 40 (by decide)), (hx480f.2.2 43 (by decide)), (hx480f.2.2 41 (by decide))⟩ (hx480f.2.1 1851 (by decide) (by decide)) (Or.inl ⟨(hx480f.2.2 39 (by decide)), (hx480f.2.1 1850 (by decide) (by decide))⟩) (Or.inl ⟨rfl, (hx480f.2.2 47 (by decide)), (hx480f.2.1 1852 (by decide) (by decide)), (hx480f.2.1 1853 (by decide) (by decide)), (hx480f.2.1 1854 (by decide) (by decide))⟩)⟩
                      · exfalso
                        omega
                  · exfalso
                    omega
                · refine h_run 2 (pc' := 194) (l' := [(0, .inr (.inr 1826)), (1, .inl t), (2, .inl h), (3, .inl (-1)), (4, .inl (k370 : Int))]) (st' := [.inl 4, .inr (.inr 1826)]) rfl ?_
                  refine h_cv (i := 278) (j := 159) (b := 1826) (M' := mt_159) (xs := [.inl 4]) (rest := []) rfl rfl rfl rfl rfl rfl (Nat.le_of_ble_eq_true rfl) (Nat.le_of_ble_eq_true rfl) (by omega) (m_bad0 (by omega) (by omega) (by omega : (H.1 1826 35) = 0)) ?_
                  rintro _ _ ⟨rfl, rfl⟩
                  refine h_run 0 (pc' := 197) (l' := [(0, .inr (.inr 1826)), (1, .inl t), (2, .inl h), (3, .inl (-1)), (4, .inl (k370 : Int))]) (st' := []) rfl ?_
                  refine h_run 1 (pc' := 198) (l' := [(0, .inr (.inr 1826)), (1, .inl t), (2, .inl h), (3, .inl (-1)), (4, .inl (k370 : Int))]) (st' := [.inr (.inr 1826)]) rfl ?_
                  refine h_cv (i := 293) (j := 158) (b := 1826) (M' := mt_158) (xs := []) (rest := []) rfl rfl rfl rfl rfl rfl (Nat.le_of_ble_eq_true rfl) (Nat.le_of_ble_eq_true rfl) (by omega) (m_good0 (by omega) (by omega : (4 : Int) ≠ 0)) ?_
                  rintro _ _ ⟨rfl, rfl⟩
                  refine h_run 0 (pc' := 201) (l' := [(0, .inr (.inr 1826)), (1, .inl t), (2, .inl h), (3, .inl (-1)), (4, .inl (k370 : Int))]) (st' := [.inl 0]) rfl ?_
                  refine h_zeq (off := 23) (t := 224) rfl rfl (by decide) (fun _ => ?_) (fun c => absurd c (by decide))
                  refine h_run 1 (pc' := 225) (l' := [(0, .inr (.inr 1826)), (1, .inl t), (2, .inl h), (3, .inl (-1)), (4, .inl (k370 : Int))]) (st' := [.inr (.inr 1826)]) rfl ?_
                  have g495 : -2147483648 ≤ (H.1 1826 40) ∧ (H.1 1826 40) ≤ 2147483647 := hrg0.1 1826 13 40 _ .int rfl rfl
                  refine h_cv (i := 344) (j := 168) (b := 1826) (M' := mt_168) (xs := []) (rest := []) rfl rfl rfl rfl rfl rfl (Nat.le_of_ble_eq_true rfl) (Nat.le_of_ble_eq_true rfl) (by omega) (m_countC (by omega) (by omega : (4 : Int) ≠ 0) (by omega : 0 ≤ (H.1 1826 40) ∧ (H.1 1826 40) ≤ 1000)) ?_
                  rintro _ _ ⟨rfl, rfl⟩
                  refine h_run 0 (pc' := 228) (l' := [(0, .inr (.inr 1826)), (1, .inl t), (2, .inl h), (3, .inl (-1)), (4, .inl (k370 : Int))]) (st' := []) rfl ?_
                  refine h_run 1 (pc' := 229) (l' := [(0, .inr (.inr 1826)), (1, .inl t), (2, .inl h), (3, .inl (-1)), (4, .inl (k370 : Int))]) (st' := [.inr (.inr 1826)]) rfl ?_
                  refine h_cv (i := 293) (j := 158) (b := 1826) (M' := mt_158) (xs := []) (rest := []) rfl rfl rfl rfl rfl rfl (Nat.le_of_ble_eq_true rfl) (Nat.le_of_ble_eq_true rfl) (by omega) (m_good0 (by omega) (by omega : (4 : Int) ≠ 0)) ?_
                  rintro _ _ ⟨rfl, rfl⟩
                  refine h_run 0 (pc' := 232) (l' := [(0, .inr (.inr 1826)), (1, .inl t), (2, .inl h), (3, .inl (-1)), (4, .inl (k370 : Int))]) (st' := [.inl 0]) rfl ?_
                  refine h_zne (off := 5) (t := 237) rfl rfl (by decide) (fun c => absurd c (by decide)) (fun _ => ?_)
                  refine h_run 1 (pc' := 236) (l' := [(0, .inr (.inr 1826)), (1, .inl t), (2, .inl h), (3, .inl (-1)), (4, .inl (k370 : Int))]) (st' := [.inl (-1)]) rfl ?_
                  refine h_reti (x := (-1)) rfl rfl ?_
                  have g496 : -2147483648 ≤ (H.1 1826 30) ∧ (H.1 1826 30) ≤ 2147483647 := hrg0.1 1826 13 30 _ .int rfl rfl
                  have g497 : -2147483648 ≤ (H.1 1826 32) ∧ (H.1 1826 32) ≤ 2147483647 := hrg0.1 1826 13 32 _ .int rfl rfl
                  have g498 : -2147483648 ≤ (H.1 1826 29) ∧ (H.1 1826 29) ≤ 2147483647 := hrg0.1 1826 13 29 _ .int rfl rfl
                  have g499 : -2147483648 ≤ (H.1 1826 31) ∧ (H.1 1826 31) ≤ 2147483647 := hrg0.1 1826 13 31 _ .int rfl rfl
                  have g500 : -2147483648 ≤ (H.1 1826 1) ∧ (H.1 1826 1) ≤ 2147483647 := hrg0.1 1826 13 1 _ .int rfl rfl
                  exact ⟨⟨(-1), rfl, by omega, by omega⟩, (fr_o (fr_o (fr_o (fr_rf _ _ _) (by decide)) (by decide)) (by decide)), (by omega : (H.1 1826 30) ≤ (H.1 1826 30) ∧ (H.1 1826 30) ≤ (H.1 1826 29)), (by omega : 0 ≤ (4 : Int) ∧ (4 : Int) ≤ 5), (by omega : 0 ≤ (H.1 1826 32) ∧ (H.1 1826 32) ≤ 1000), (by omega : (4 : Int) = 0 → (H.1 1826 31) = 0 ∨ (H.1 1826 30) < (H.1 1826 30)), (by omega : ((H.1 1826 44) ≠ 2 → (H.1 1826 39) = (H.1 1826 39)) ∧ (H.1 1826 39) ≤ (H.1 1826 39)), (fun (q : (4 : Int) = 0) => absurd q (by omega))⟩
            · refine h_run 2 (pc' := 165) (l' := [(0, .inr (.inr 1826)), (1, .inl t), (2, .inl h), (3, .inl (-1)), (4, .inl (k370 : Int))]) (st' := [.inl 2, .inr (.inr 1826)]) rfl ?_
              refine h_cv (i := 278) (j := 159) (b := 1826) (M' := mt_159) (xs := [.inl 2]) (rest := []) rfl rfl rfl rfl rfl rfl (Nat.le_of_ble_eq_true rfl) (Nat.le_of_ble_eq_true rfl) (by omega) (m_bad0 (by omega) (by omega) (by omega : (H.1 1826 35) = 0)) ?_
              rintro _ _ ⟨rfl, rfl⟩
              refine h_run 0 (pc' := 168) (l' := [(0, .inr (.inr 1826)), (1, .inl t), (2, .inl h), (3, .inl (-1)), (4, .inl (k370 : Int))]) (st' := []) rfl ?_
              refine h_run 1 (pc' := 169) (l' := [(0, .inr (.inr 1826)), (1, .inl t), (2, .inl h), (3, .inl (-1)), (4, .inl (k370 : Int))]) (st' := [.inr (.inr 1826)]) rfl ?_
              refine h_cv (i := 293) (j := 158) (b := 1826) (M' := mt_158) (xs := []) (rest := []) rfl rfl rfl rfl rfl rfl (Nat.le_of_ble_eq_true rfl) (Nat.le_of_ble_eq_true rfl) (by omega) (m_good0 (by omega) (by omega : (2 : Int) ≠ 0)) ?_
              rintro _ _ ⟨rfl, rfl⟩
              refine h_run 0 (pc' := 172) (l' := [(0, .inr (.inr 1826)), (1, .inl t), (2, .inl h), (3, .inl (-1)), (4, .inl (k370 : Int))]) (st' := [.inl 0]) rfl ?_
              refine h_zeq (off := 25) (t := 197) rfl rfl (by decide) (fun _ => ?_) (fun c => absurd c (by decide))
              refine h_run 1 (pc' := 198) (l' := [(0, .inr (.inr 1826)), (1, .inl t), (2, .inl h), (3, .inl (-1)), (4, .inl (k370 : Int))]) (st' := [.inr (.inr 1826)]) rfl ?_
              refine h_cv (i := 293) (j := 158) (b := 1826) (M' := mt_158) (xs := []) (rest := []) rfl rfl rfl rfl rfl rfl (Nat.le_of_ble_eq_true rfl) (Nat.le_of_ble_eq_true rfl) (by omega) (m_good0 (by omega) (by omega : (2 : Int) ≠ 0)) ?_
              rintro _ _ ⟨rfl, rfl⟩
              refine h_run 0 (pc' := 201) (l' := [(0, .inr (.inr 1826)), (1, .inl t), (2, .inl h), (3, .inl (-1)), (4, .inl (k370 : Int))]) (st' := [.inl 0]) rfl ?_
              refine h_zeq (off := 23) (t := 224) rfl rfl (by decide) (fun _ => ?_) (fun c => absurd c (by decide))
              refine h_run 1 (pc' := 225) (l' := [(0, .inr (.inr 1826)), (1, .inl t), (2, .inl h), (3, .inl (-1)), (4, .inl (k370 : Int))]) (st' := [.inr (.inr 1826)]) rfl ?_
              have g501 : -2147483648 ≤ (H.1 1826 40) ∧ (H.1 1826 40) ≤ 2147483647 := hrg0.1 1826 13 40 _ .int rfl rfl
              refine h_cv (i := 344) (j := 168) (b := 1826) (M' := mt_168) (xs := []) (rest := []) rfl rfl rfl rfl rfl rfl (Nat.le_of_ble_eq_true rfl) (Nat.le_of_ble_eq_true rfl) (by omega) (m_countC (by omega) (by omega : (2 : Int) ≠ 0) (by omega : 0 ≤ (H.1 1826 40) ∧ (H.1 1826 40) ≤ 1000)) ?_
              rintro _ _ ⟨rfl, rfl⟩
              refine h_run 0 (pc' := 228) (l' := [(0, .inr (.inr 1826)), (1, .inl t), (2, .inl h), (3, .inl (-1)), (4, .inl (k370 : Int))]) (st' := []) rfl ?_
              refine h_run 1 (pc' := 229) (l' := [(0, .inr (.inr 1826)), (1, .inl t), (2, .inl h), (3, .inl (-1)), (4, .inl (k370 : Int))]) (st' := [.inr (.inr 1826)]) rfl ?_
              refine h_cv (i := 293) (j := 158) (b := 1826) (M' := mt_158) (xs := []) (rest := []) rfl rfl rfl rfl rfl rfl (Nat.le_of_ble_eq_true rfl) (Nat.le_of_ble_eq_true rfl) (by omega) (m_good0 (by omega) (by omega : (2 : Int) ≠ 0)) ?_
              rintro _ _ ⟨rfl, rfl⟩
              refine h_run 0 (pc' := 232) (l' := [(0, .inr (.inr 1826)), (1, .inl t), (2, .inl h), (3, .inl (-1)), (4, .inl (k370 : Int))]) (st' := [.inl 0]) rfl ?_
              refine h_zne (off := 5) (t := 237) rfl rfl (by decide) (fun c => absurd c (by decide)) (fun _ => ?_)
              refine h_run 1 (pc' := 236) (l' := [(0, .inr (.inr 1826)), (1, .inl t), (2, .inl h), (3, .inl (-1)), (4, .inl (k370 : Int))]) (st' := [.inl (-1)]) rfl ?_
              refine h_reti (x := (-1)) rfl rfl ?_
              have g502 : -2147483648 ≤ (H.1 1826 30) ∧ (H.1 1826 30) ≤ 2147483647 := hrg0.1 1826 13 30 _ .int rfl rfl
              have g503 : -2147483648 ≤ (H.1 1826 32) ∧ (H.1 1826 32) ≤ 2147483647 := hrg0.1 1826 13 32 _ .int rfl rfl
              have g504 : -2147483648 ≤ (H.1 1826 29) ∧ (H.1 1826 29) ≤ 2147483647 := hrg0.1 1826 13 29 _ .int rfl rfl
              have g505 : -2147483648 ≤ (H.1 1826 31) ∧ (H.1 1826 31) ≤ 2147483647 := hrg0.1 1826 13 31 _ .int rfl rfl
              have g506 : -2147483648 ≤ (H.1 1826 1) ∧ (H.1 1826 1) ≤ 2147483647 := hrg0.1 1826 13 1 _ .int rfl rfl
              exact ⟨⟨(-1), rfl, by omega, by omega⟩, (fr_o (fr_o (fr_o (fr_rf _ _ _) (by decide)) (by decide)) (by decide)), (by omega : (H.1 1826 30) ≤ (H.1 1826 30) ∧ (H.1 1826 30) ≤ (H.1 1826 29)), (by omega : 0 ≤ (2 : Int) ∧ (2 : Int) ≤ 5), (by omega : 0 ≤ (H.1 1826 32) ∧ (H.1 1826 32) ≤ 1000), (by omega : (2 : Int) = 0 → (H.1 1826 31) = 0 ∨ (H.1 1826 30) < (H.1 1826 30)), (by omega : ((H.1 1826 44) ≠ 2 → (H.1 1826 39) = (H.1 1826 39)) ∧ (H.1 1826 39) ≤ (H.1 1826 39)), (fun (q : (2 : Int) = 0) => absurd q (by omega))⟩
          · refine h_run 2 (pc' := 146) (l' := [(0, .inr (.inr 1826)), (1, .inl t), (2, .inl h), (3, .inl (-1)), (4, .inl (k370 : Int))]) (st' := [.inl 3, .inr (.inr 1826)]) rfl ?_
            have g507 : -2147483648 ≤ (H.1 1826 35) ∧ (H.1 1826 35) ≤ 2147483647 := hrg0.1 1826 13 35 _ .int rfl rfl
            refine h_cv (i := 278) (j := 159) (b := 1826) (M' := mt_159) (xs := [.inl 3]) (rest := []) rfl rfl rfl rfl rfl rfl (Nat.le_of_ble_eq_true rfl) (Nat.le_of_ble_eq_true rfl) (by omega) (m_bad0 (by omega) (by omega) (by omega : (H.1 1826 35) = 0)) ?_
            rintro _ _ ⟨rfl, rfl⟩
            refine h_run 0 (pc' := 149) (l' := [(0, .inr (.inr 1826)), (1, .inl t), (2, .inl h), (3, .inl (-1)), (4, .inl (k370 : Int))]) (st' := []) rfl ?_
            refine h_run 1 (pc' := 150) (l' := [(0, .inr (.inr 1826)), (1, .inl t), (2, .inl h), (3, .inl (-1)), (4, .inl (k370 : Int))]) (st' := [.inl (-1)]) rfl ?_
            refine h_reti (x := (-1)) rfl rfl ?_
            have g508 : -2147483648 ≤ (H.1 1826 30) ∧ (H.1 1826 30) ≤ 2147483647 := hrg0.1 1826 13 30 _ .int rfl rfl
            have g509 : -2147483648 ≤ (H.1 1826 32) ∧ (H.1 1826 32) ≤ 2147483647 := hrg0.1 1826 13 32 _ .int rfl rfl
            have g510 : -2147483648 ≤ (H.1 1826 29) ∧ (H.1 1826 29) ≤ 2147483647 := hrg0.1 1826 13 29 _ .int rfl rfl
            have g511 : -2147483648 ≤ (H.1 1826 31) ∧ (H.1 1826 31) ≤ 2147483647 := hrg0.1 1826 13 31 _ .int rfl rfl
            have g512 : -2147483648 ≤ (H.1 1826 1) ∧ (H.1 1826 1) ≤ 2147483647 := hrg0.1 1826 13 1 _ .int rfl rfl
            exact ⟨⟨(-1), rfl, by omega, by omega⟩, (fr_o (fr_o (fr_rf _ _ _) (by decide)) (by decide)), (by omega : (H.1 1826 30) ≤ (H.1 1826 30) ∧ (H.1 1826 30) ≤ (H.1 1826 29)), (by omega : 0 ≤ (3 : Int) ∧ (3 : Int) ≤ 5), (by omega : 0 ≤ (H.1 1826 32) ∧ (H.1 1826 32) ≤ 1000), (by omega : (3 : Int) = 0 → (H.1 1826 31) = 0 ∨ (H.1 1826 30) < (H.1 1826 30)), (by omega : ((H.1 1826 44) ≠ 2 → (H.1 1826 39) = (H.1 1826 39)) ∧ (H.1 1826 39) ≤ (H.1 1826 39)), (fun (q : (3 : Int) = 0) => absurd q (by omega))⟩
    · refine h_run 0 (pc' := 120) (l' := [(0, .inr (.inr 1826)), (1, .inl t), (2, .inl h), (3, .inl (-1))]) (st' := [.inl (-1)]) rfl ?_
      refine h_run 3 (pc' := 126) (l' := [(0, .inr (.inr 1826)), (1, .inl t), (2, .inl h), (3, .inl (-1)), (4, .inl (-1))]) (st' := [.inl (H.1 1826 44)]) rfl ?_
      have g513 : -2147483648 ≤ (H.1 1826 44) ∧ (H.1 1826 44) ≤ 2147483647 := hrg0.1 1826 13 44 _ .int rfl rfl
      refine h_run 1 (pc' := 127) (l' := [(0, .inr (.inr 1826)), (1, .inl t), (2, .inl h), (3, .inl (-1)), (4, .inl (-1))]) (st' := [.inl 3, .inl (H.1 1826 44)]) rfl ?_
      refine h_ieq (off := 17) (t := 144) rfl rfl (by omega) (by decide) (fun c514 => ?_) (fun c514 => ?_)
      · refine h_run 2 (pc' := 146) (l' := [(0, .inr (.inr 1826)), (1, .inl t), (2, .inl h), (3, .inl (-1)), (4, .inl (-1))]) (st' := [.inl 3, .inr (.inr 1826)]) rfl ?_
        have g515 : -2147483648 ≤ (H.1 1826 35) ∧ (H.1 1826 35) ≤ 2147483647 := hrg0.1 1826 13 35 _ .int rfl rfl
        refine h_cv (i := 278) (j := 159) (b := 1826) (M' := mt_159) (xs := [.inl 3]) (rest := []) rfl rfl rfl rfl rfl rfl (Nat.le_of_ble_eq_true rfl) (Nat.le_of_ble_eq_true rfl) (by omega) (m_bad0 (by omega) (by omega) (by omega : (H.1 1826 35) = 0)) ?_
        rintro _ _ ⟨rfl, rfl⟩
        refine h_run 0 (pc' := 149) (l' := [(0, .inr (.inr 1826)), (1, .inl t), (2, .inl h), (3, .inl (-1)), (4, .inl (-1))]) (st' := []) rfl ?_
        refine h_run 1 (pc' := 150) (l' := [(0, .inr (.inr 1826)), (1, .inl t), (2, .inl h), (3, .inl (-1)), (4, .inl (-1))]) (st' := [.inl (-1)]) rfl ?_
        refine h_reti (x := (-1)) rfl rfl ?_
        have g516 : -2147483648 ≤ (H.1 1826 30) ∧ (H.1 1826 30) ≤ 2147483647 := hrg0.1 1826 13 30 _ .int rfl rfl
        have g517 : -2147483648 ≤ (H.1 1826 32) ∧ (H.1 1826 32) ≤ 2147483647 := hrg0.1 1826 13 32 _ .int rfl rfl
        have g518 : -2147483648 ≤ (H.1 1826 29) ∧ (H.1 1826 29) ≤ 2147483647 := hrg0.1 1826 13 29 _ .int rfl rfl
        have g519 : -2147483648 ≤ (H.1 1826 31) ∧ (H.1 1826 31) ≤ 2147483647 := hrg0.1 1826 13 31 _ .int rfl rfl
        have g520 : -2147483648 ≤ (H.1 1826 1) ∧ (H.1 1826 1) ≤ 2147483647 := hrg0.1 1826 13 1 _ .int rfl rfl
        exact ⟨⟨(-1), rfl, by omega, by omega⟩, (fr_o (fr_o (fr_rf _ _ _) (by decide)) (by decide)), (by omega : (H.1 1826 30) ≤ (H.1 1826 30) ∧ (H.1 1826 30) ≤ (H.1 1826 29)), (by omega : 0 ≤ (3 : Int) ∧ (3 : Int) ≤ 5), (by omega : 0 ≤ (H.1 1826 32) ∧ (H.1 1826 32) ≤ 1000), (by omega : (3 : Int) = 0 → (H.1 1826 31) = 0 ∨ (H.1 1826 30) < (H.1 1826 30)), (by omega : ((H.1 1826 44) ≠ 2 → (H.1 1826 39) = (H.1 1826 39)) ∧ (H.1 1826 39) ≤ (H.1 1826 39)), (fun (q : (3 : Int) = 0) => absurd q (by omega))⟩
      · refine h_run 2 (pc' := 134) (l' := [(0, .inr (.inr 1826)), (1, .inl t), (2, .inl h), (3, .inl (-1)), (4, .inl (-1))]) (st' := [.inl (H.1 1826 44)]) rfl ?_
        refine h_run 1 (pc' := 135) (l' := [(0, .inr (.inr 1826)), (1, .inl t), (2, .inl h), (3, .inl (-1)), (4, .inl (-1))]) (st' := [.inl 1, .inl (H.1 1826 44)]) rfl ?_
        refine h_ine (off := 16) (t := 151) rfl rfl (by omega) (by decide) (fun c521 => ?_) (fun c521 => ?_)
        · refine h_run 1 (pc' := 152) (l' := [(0, .inr (.inr 1826)), (1, .inl t), (2, .inl h), (3, .inl (-1)), (4, .inl (-1))]) (st' := [.inr (.inr 1826)]) rfl ?_
          have g522 : -2147483648 ≤ (H.1 1826 35) ∧ (H.1 1826 35) ≤ 2147483647 := hrg0.1 1826 13 35 _ .int rfl rfl
          refine h_cv (i := 293) (j := 158) (b := 1826) (M' := mt_158) (xs := []) (rest := []) rfl rfl rfl rfl rfl rfl (Nat.le_of_ble_eq_true rfl) (Nat.le_of_ble_eq_true rfl) (by omega) (m_good1 (by omega) (by omega : (H.1 1826 35) = 0)) ?_
          rintro _ _ ⟨rfl, rfl⟩
          refine h_run 0 (pc' := 155) (l' := [(0, .inr (.inr 1826)), (1, .inl t), (2, .inl h), (3, .inl (-1)), (4, .inl (-1))]) (st' := [.inl 1]) rfl ?_
          refine h_zeq (off := 13) (t := 168) rfl rfl (by decide) (fun c => absurd c (by decide)) (fun _ => ?_)
          refine h_run 2 (pc' := 160) (l' := [(0, .inr (.inr 1826)), (1, .inl t), (2, .inl h), (3, .inl (-1)), (4, .inl (-1))]) (st' := [.inl (-1), .inl t]) rfl ?_
          refine h_ine (off := 8) (t := 168) rfl rfl (by omega) (by decide) (fun c523 => ?_) (fun c523 => ?_)
          · refine h_run 1 (pc' := 169) (l' := [(0, .inr (.inr 1826)), (1, .inl t), (2, .inl h), (3, .inl (-1)), (4, .inl (-1))]) (st' := [.inr (.inr 1826)]) rfl ?_
            refine h_cv (i := 293) (j := 158) (b := 1826) (M' := mt_158) (xs := []) (rest := []) rfl rfl rfl rfl rfl rfl (Nat.le_of_ble_eq_true rfl) (Nat.le_of_ble_eq_true rfl) (by omega) (m_good1 (by omega) (by omega : (H.1 1826 35) = 0)) ?_
            rintro _ _ ⟨rfl, rfl⟩
            refine h_run 0 (pc' := 172) (l' := [(0, .inr (.inr 1826)), (1, .inl t), (2, .inl h), (3, .inl (-1)), (4, .inl (-1))]) (st' := [.inl 1]) rfl ?_
            refine h_zeq (off := 25) (t := 197) rfl rfl (by decide) (fun c => absurd c (by decide)) (fun _ => ?_)
            refine h_run 2 (pc' := 178) (l' := [(0, .inr (.inr 1826)), (1, .inl t), (2, .inl h), (3, .inl (-1)), (4, .inl (-1))]) (st' := [.inl (-1), .inl (-1)]) rfl ?_
            refine h_ieq (off := 19) (t := 197) rfl rfl (by decide) (by decide) (fun _ => ?_) (fun c => absurd c (by decide))
            refine h_run 1 (pc' := 198) (l' := [(0, .inr (.inr 1826)), (1, .inl t), (2, .inl h), (3, .inl (-1)), (4, .inl (-1))]) (st' := [.inr (.inr 1826)]) rfl ?_
            refine h_cv (i := 293) (j := 158) (b := 1826) (M' := mt_158) (xs := []) (rest := []) rfl rfl rfl rfl rfl rfl (Nat.le_of_ble_eq_true rfl) (Nat.le_of_ble_eq_true rfl) (by omega) (m_good1 (by omega) (by omega : (H.1 1826 35) = 0)) ?_
            rintro _ _ ⟨rfl, rfl⟩
            refine h_run 0 (pc' := 201) (l' := [(0, .inr (.inr 1826)), (1, .inl t), (2, .inl h), (3, .inl (-1)), (4, .inl (-1))]) (st' := [.inl 1]) rfl ?_
            refine h_zeq (off := 23) (t := 224) rfl rfl (by decide) (fun c => absurd c (by decide)) (fun _ => ?_)
            refine h_run 2 (pc' := 207) (l' := [(0, .inr (.inr 1826)), (1, .inl t), (2, .inl h), (3, .inl (-1)), (4, .inl (-1))]) (st' := [.inl (-1), .inl (-1)]) rfl ?_
            refine h_ine (off := 17) (t := 224) rfl rfl (by decide) (by decide) (fun c => absurd c (by decide)) (fun _ => ?_)
            refine h_run 2 (pc' := 214) (l' := [(0, .inr (.inr 1826)), (1, .inl t), (2, .inl h), (3, .inl (-1)), (4, .inl (-1))]) (st' := [.inl (H.1 1826 39)]) rfl ?_
            refine h_run 1 (pc' := 216) (l' := [(0, .inr (.inr 1826)), (1, .inl t), (2, .inl h), (3, .inl (-1)), (4, .inl (-1))]) (st' := [.inl 6, .inl (H.1 1826 39)]) rfl ?_
            refine h_ine (off := 8) (t := 224) rfl rfl (by omega) (by decide) (fun c524 => ?_) (fun c524 => ?_)
            · refine h_run 1 (pc' := 225) (l' := [(0, .inr (.inr 1826)), (1, .inl t), (2, .inl h), (3, .inl (-1)), (4, .inl (-1))]) (st' := [.inr (.inr 1826)]) rfl ?_
              have g525 : -2147483648 ≤ (H.1 1826 40) ∧ (H.1 1826 40) ≤ 2147483647 := hrg0.1 1826 13 40 _ .int rfl rfl
              by_cases b526 : (H.1 1826 40) = 40
              · refine h_cv (i := 344) (j := 168) (b := 1826) (M' := mt_168) (xs := []) (rest := []) rfl rfl rfl rfl rfl rfl (Nat.le_of_ble_eq_true rfl) (Nat.le_of_ble_eq_true rfl) (by omega) (m_countB (by omega) (by omega : (H.1 1826 35) = 0) (by omega : (H.1 1826 40) = 40)) ?_
                rintro _ _ ⟨rfl, rfl⟩
                refine h_run 0 (pc' := 228) (l' := [(0, .inr (.inr 1826)), (1, .inl t), (2, .inl h), (3, .inl (-1)), (4, .inl (-1))]) (st' := []) rfl ?_
                refine h_run 1 (pc' := 229) (l' := [(0, .inr (.inr 1826)), (1, .inl t), (2, .inl h), (3, .inl (-1)), (4, .inl (-1))]) (st' := [.inr (.inr 1826)]) rfl ?_
                refine h_cv (i := 293) (j := 158) (b := 1826) (M' := mt_158) (xs := []) (rest := []) rfl rfl rfl rfl rfl rfl (Nat.le_of_ble_eq_true rfl) (Nat.le_of_ble_eq_true rfl) (by omega) (m_good0 (by omega) (by omega : (5 : Int) ≠ 0)) ?_
                rintro _ _ ⟨rfl, rfl⟩
                refine h_run 0 (pc' := 232) (l' := [(0, .inr (.inr 1826)), (1, .inl t), (2, .inl h), (3, .inl (-1)), (4, .inl (-1))]) (st' := [.inl 0]) rfl ?_
                refine h_zne (off := 5) (t := 237) rfl rfl (by decide) (fun c => absurd c (by decide)) (fun _ => ?_)
                refine h_run 1 (pc' := 236) (l' := [(0, .inr (.inr 1826)), (1, .inl t), (2, .inl h), (3, .inl (-1)), (4, .inl (-1))]) (st' := [.inl (-1)]) rfl ?_
                refine h_reti (x := (-1)) rfl rfl ?_
                have g527 : -2147483648 ≤ (H.1 1826 30) ∧ (H.1 1826 30) ≤ 2147483647 := hrg0.1 1826 13 30 _ .int rfl rfl
                have g528 : -2147483648 ≤ (H.1 1826 32) ∧ (H.1 1826 32) ≤ 2147483647 := hrg0.1 1826 13 32 _ .int rfl rfl
                have g529 : -2147483648 ≤ (H.1 1826 29) ∧ (H.1 1826 29) ≤ 2147483647 := hrg0.1 1826 13 29 _ .int rfl rfl
                have g530 : -2147483648 ≤ (H.1 1826 31) ∧ (H.1 1826 31) ≤ 2147483647 := hrg0.1 1826 13 31 _ .int rfl rfl
                have g531 : -2147483648 ≤ (H.1 1826 1) ∧ (H.1 1826 1) ≤ 2147483647 := hrg0.1 1826 13 1 _ .int rfl rfl
                exact ⟨⟨(-1), rfl, by omega, by omega⟩, (fr_o (fr_o (fr_o (fr_rf _ _ _) (by decide)) (by decide)) (by decide)), (by omega : (H.1 1826 30) ≤ (H.1 1826 30) ∧ (H.1 1826 30) ≤ (H.1 1826 29)), (by omega : 0 ≤ (5 : Int) ∧ (5 : Int) ≤ 5), (by omega : 0 ≤ (H.1 1826 32) ∧ (H.1 1826 32) ≤ 1000), (by omega : (5 : Int) = 0 → (H.1 1826 31) = 0 ∨ (H.1 1826 30) < (H.1 1826 30)), (by omega : ((H.1 1826 44) ≠ 2 → (H.1 1826 39) = (H.1 1826 39)) ∧ (H.1 1826 39) ≤ (H.1 1826 39)), (fun (q : (5 : Int) = 0) => absurd q (by omega))⟩
              · refine h_cv (i := 344) (j := 168) (b := 1826) (M' := mt_168) (xs := []) (rest := []) rfl rfl rfl rfl rfl rfl (Nat.le_of_ble_eq_true rfl) (Nat.le_of_ble_eq_true rfl) (by omega) (m_countA (by omega) (by omega : (H.1 1826 35) = 0) (by omega : 0 ≤ (H.1 1826 40) ∧ (H.1 1826 40) ≤ 1000) (by omega : (H.1 1826 40) ≠ 40)) ?_
                rintro _ _ ⟨rfl, rfl⟩
                refine h_run 0 (pc' := 228) (l' := [(0, .inr (.inr 1826)), (1, .inl t), (2, .inl h), (3, .inl (-1)), (4, .inl (-1))]) (st' := []) rfl ?_
                refine h_run 1 (pc' := 229) (l' := [(0, .inr (.inr 1826)), (1, .inl t), (2, .inl h), (3, .inl (-1)), (4, .inl (-1))]) (st' := [.inr (.inr 1826)]) rfl ?_
                refine h_cv (i := 293) (j := 158) (b := 1826) (M' := mt_158) (xs := []) (rest := []) rfl rfl rfl rfl rfl rfl (Nat.le_of_ble_eq_true rfl) (Nat.le_of_ble_eq_true rfl) (by omega) (m_good1 (by omega) (by omega : (H.1 1826 35) = 0)) ?_
                rintro _ _ ⟨rfl, rfl⟩
                refine h_run 0 (pc' := 232) (l' := [(0, .inr (.inr 1826)), (1, .inl t), (2, .inl h), (3, .inl (-1)), (4, .inl (-1))]) (st' := [.inl 1]) rfl ?_
                refine h_zne (off := 5) (t := 237) rfl rfl (by decide) (fun _ => ?_) (fun c => absurd c (by decide))
                refine h_run 2 (pc' := 240) (l' := [(0, .inr (.inr 1826)), (1, .inl t), (2, .inl h), (3, .inl (-1)), (4, .inl (-1))]) (st' := [.inl (-1), .inl (-1)]) rfl ?_
                refine h_ine (off := 11) (t := 251) rfl rfl (by decide) (by decide) (fun c => absurd c (by decide)) (fun _ => ?_)
                refine h_run 2 (pc' := 245) (l' := [(0, .inr (.inr 1826)), (1, .inl t), (2, .inl h), (3, .inl (-1)), (4, .inl (-1))]) (st' := [.inl t, .inr (.inr 1826)]) rfl ?_
                refine h_cv (i := 347) (j := 177) (b := 1826) (M' := mt_177) (xs := [.inl t]) (rest := []) rfl rfl rfl rfl rfl rfl (Nat.le_of_ble_eq_true rfl) (Nat.le_of_ble_eq_true rfl) (by omega) (m_addVariable (by omega) (by omega : 0 ≤ (H.1 1826 39) ∧ (H.1 1826 39) ≤ 47) (by omega)) ?_
                rintro _ _ ⟨rfl, rfl⟩
                refine h_run 0 (pc' := 248) (l' := [(0, .inr (.inr 1826)), (1, .inl t), (2, .inl h), (3, .inl (-1)), (4, .inl (-1))]) (st' := [.inl (((H.1 1826 39) + 1) - 1)]) rfl ?_
                refine h_run 6 (pc' := 262) (l' := [(0, .inr (.inr 1826)), (1, .inl t), (2, .inl h), (3, .inl (-1)), (4, .inl (((H.1 1826 39) + 1) - 1))]) (st' := [.inl (1000 + (((H.1 1826 39) + 1) - 1)), .inr (.inr 1826)]) rfl ?_
                have g532 : -2147483648 ≤ (H.1 1826 43) ∧ (H.1 1826 43) ≤ 2147483647 := hrg0.1 1826 13 43 _ .int rfl rfl
                refine h_cv (i := 350) (j := 169) (b := 1826) (M' := mt_169) (xs := [.inl (1000 + (((H.1 1826 39) + 1) - 1))]) (rest := []) rfl rfl rfl rfl rfl rfl (Nat.le_of_ble_eq_true rfl) (Nat.le_of_ble_eq_true rfl) (by omega) (m_put1 (by omega) (by omega : (H.1 1826 35) = 0) (by omega : 0 ≤ (H.1 1826 43) ∧ (H.1 1826 43) ≤ 47) (by omega)) ?_
                rintro _ _ ⟨rfl, rfl⟩
                refine h_run 0 (pc' := 265) (l' := [(0, .inr (.inr 1826)), (1, .inl t), (2, .inl h), (3, .inl (-1)), (4, .inl (((H.1 1826 39) + 1) - 1))]) (st' := []) rfl ?_
                refine h_run 1 (pc' := 266) (l' := [(0, .inr (.inr 1826)), (1, .inl t), (2, .inl h), (3, .inl (-1)), (4, .inl (((H.1 1826 39) + 1) - 1))]) (st' := [.inr (.inr 1826)]) rfl ?_
                have g533 : -2147483648 ≤ (H.1 1826 30) ∧ (H.1 1826 30) ≤ 2147483647 := hrg0.1 1826 13 30 _ .int rfl rfl
                have g534 : -2147483648 ≤ (H.1 1826 29) ∧ (H.1 1826 29) ≤ 2147483647 := hrg0.1 1826 13 29 _ .int rfl rfl
                have g535 : -2147483648 ≤ (H.1 1826 32) ∧ (H.1 1826 32) ≤ 2147483647 := hrg0.1 1826 13 32 _ .int rfl rfl
                refine h_cv (i := 297) (j := 165) (b := 1826) (M' := mt_165) (xs := []) (rest := []) rfl rfl rfl rfl rfl rfl (Nat.le_of_ble_eq_true rfl) (Nat.le_of_ble_eq_true rfl) (by omega) (m_next (by omega) (by omega : 0 ≤ (H.1 1826 30) ∧ (H.1 1826 30) ≤ (H.1 1826 29) ∧ (H.1 1826 29) ≤ 1000) (by omega : 0 ≤ (H.1 1826 35) ∧ (H.1 1826 35) ≤ 5) (by omega : 0 ≤ (H.1 1826 32) ∧ (H.1 1826 32) ≤ 1000)) ?_
                rintro _ H536 ⟨rfl, hx536f, hx536a, hx536b, hx536c, -, hx536e, hx536g⟩
                refine h_rng (fun hrg537 => ?_)
                have hf538 : fr [30, 31, 32, 33, 35, 36, 39, 40, 41, 43, 47] [1849, 1850, 1851, 1852, 1853, 1854] H H536 := fr_t (fr_o (fr_a (fr_o (fr_a (fr_a (fr_o (fr_rf _ _ _) (by decide)) (by decide)) (by decide)) (by decide)) (by decide)) (by decide)) hx536f (by decide) (by decide)
                replace hx536a : (H.1 1826 30) ≤ (H536.1 1826 30) := hx536a
                replace hx536b : (H536.1 1826 30) ≤ (H.1 1826 29) := hx536b
                replace hx536g : (H536.1 1826 35) = 0 → ((H536.1 1826 31) = 0 ∨ (H.1 1826 30) < (H536.1 1826 30)) := hx536g
                refine h_run 0 (pc' := 269) (l' := [(0, .inr (.inr 1826)), (1, .inl t), (2, .inl h), (3, .inl (-1)), (4, .inl (((H.1 1826 39) + 1) - 1))]) (st' := []) rfl ?_
                refine h_run 1 (pc' := 270) (l' := [(0, .inr (.inr 1826)), (1, .inl t), (2, .inl h), (3, .inl (-1)), (4, .inl (((H.1 1826 39) + 1) - 1))]) (st' := [.inl t]) rfl ?_
                refine h_reti (x := t) rfl rfl ?_
                have g539 : -2147483648 ≤ (H536.1 1826 30) ∧ (H536.1 1826 30) ≤ 2147483647 := hrg537.1 1826 13 30 _ .int rfl rfl
                have g540 : -2147483648 ≤ (H536.1 1826 35) ∧ (H536.1 1826 35) ≤ 2147483647 := hrg537.1 1826 13 35 _ .int rfl rfl
                have g541 : -2147483648 ≤ (H536.1 1826 32) ∧ (H536.1 1826 32) ≤ 2147483647 := hrg537.1 1826 13 32 _ .int rfl rfl
                have g542 : -2147483648 ≤ (H536.1 1826 29) ∧ (H536.1 1826 29) ≤ 2147483647 := hrg537.1 1826 13 29 _ .int rfl rfl
                have e543 : (H536.1 1826 29) = (H.1 1826 29) := hx536f.2.2 29 (by decide)
                have g544 : -2147483648 ≤ (H536.1 1826 31) ∧ (H536.1 1826 31) ≤ 2147483647 := hrg537.1 1826 13 31 _ .int rfl rfl
                have g545 : -2147483648 ≤ (H536.1 1826 1) ∧ (H536.1 1826 1) ≤ 2147483647 := hrg537.1 1826 13 1 _ .int rfl rfl
                have e546 : (H536.1 1826 1) = (H.1 1826 1) := hx536f.2.2 1 (by decide)
                have g547 : -2147483648 ≤ (H536.1 1826 39) ∧ (H536.1 1826 39) ≤ 2147483647 := hrg537.1 1826 13 39 _ .int rfl rfl
                have e548 : (H536.1 1826 39) = ((H.1 1826 39) + 1) := hx536f.2.2 39 (by decide)
                have g549 : -2147483648 ≤ (H536.1 1826 44) ∧ (H536.1 1826 44) ≤ 2147483647 := hrg537.1 1826 13 44 _ .int rfl rfl
                have e550 : (H536.1 1826 44) = (H.1 1826 44) := hx536f.2.2 44 (by decide)
                exact ⟨⟨t, rfl, by omega, by omega⟩, hf538, (by omega : (H.1 1826 30) ≤ (H536.1 1826 30) ∧ (H536.1 1826 30) ≤ (H.1 1826 29)), (by omega : 0 ≤ (H536.1 1826 35) ∧ (H536.1 1826 35) ≤ 5), (by omega : 0 ≤ (H536.1 1826 32) ∧ (H536.1 1826 32) ≤ 1000), (by omega : (H536.1 1826 35) = 0 → (H536.1 1826 31) = 0 ∨ (H.1 1826 30) < (H536.1 1826 30)), (by omega : ((H.1 1826 44) ≠ 2 → (H536.1 1826 39) = (H.1 1826 39)) ∧ (H.1 1826 39) ≤ (H536.1 1826 39)), fun _ => TT_sign (s := (1000 + (((H.1 1826 39) + 1) - 1))) (q := 0) hP hTT ⟨⟨(hx536f.2.2 1 (by decide)), (hx536f.2.2 3 (by decide)), (hx536f.2.2 8 (by decide)), (hx536f.2.2 44 (by decide))⟩, (hx536f.2.1 1833 (by decide) (by decide)), (hx536f.2.1 1830 (by decide) (by decide))⟩ (by show m_sg (H.1 1826 3) (H.1 1826 8) (H536.1 1826 39) (1000 + (((H.1 1826 39) + 1) - 1)); rw [show (H536.1 1826 39) = _ from (hx536f.2.2 39 (by decide))]; exact Or.inr (Or.inr (Or.inr (by show 1000 ≤ (1000 + (((H.1 1826 39) + 1) - 1)) ∧ (1000 + (((H.1 1826 39) + 1) - 1)) < 1000 + ((H.1 1826 39) + 1); omega)))) (ma_0 (by omega)) (by omega) (by omega) ⟨(hx536f.2.2 40 (by decide)), (hx536f.2.2 43 (by decide)), (hx536f.2.2 41 (by decide))⟩ (hx536f.2.1 1851 (by decide) (by decide)) (Or.inr ⟨by omega, by omega, (hx536f.2.2 39 (by decide)), t, (hx536f.2.1 1850 (by decide) (by decide)), by omega, by omega⟩) (Or.inl ⟨rfl, (hx536f.2.2 47 (by decide)), (hx536f.2.1 1852 (by decide) (by decide)), (hx536f.2.1 1853 (by decide) (by decide)), (hx536f.2.1 1854 (by decide) (by decide))⟩)⟩
            · refine h_run 2 (pc' := 221) (l' := [(0, .inr (.inr 1826)), (1, .inl t), (2, .inl h), (3, .inl (-1)), (4, .inl (-1))]) (st' := [.inl 5, .inr (.inr 1826)]) rfl ?_
              refine h_cv (i := 278) (j := 159) (b := 1826) (M' := mt_159) (xs := [.inl 5]) (rest := []) rfl rfl rfl rfl rfl rfl (Nat.le_of_ble_eq_true rfl) (Nat.le_of_ble_eq_true rfl) (by omega) (m_bad0 (by omega) (by omega) (by omega : (H.1 1826 35) = 0)) ?_
              rintro _ _ ⟨rfl, rfl⟩
              refine h_run 0 (pc' := 224) (l' := [(0, .inr (.inr 1826)), (1, .inl t), (2, .inl h), (3, .inl (-1)), (4, .inl (-1))]) (st' := []) rfl ?_
              refine h_run 1 (pc' := 225) (l' := [(0, .inr (.inr 1826)), (1, .inl t), (2, .inl h), (3, .inl (-1)), (4, .inl (-1))]) (st' := [.inr (.inr 1826)]) rfl ?_
              have g551 : -2147483648 ≤ (H.1 1826 40) ∧ (H.1 1826 40) ≤ 2147483647 := hrg0.1 1826 13 40 _ .int rfl rfl
              refine h_cv (i := 344) (j := 168) (b := 1826) (M' := mt_168) (xs := []) (rest := []) rfl rfl rfl rfl rfl rfl (Nat.le_of_ble_eq_true rfl) (Nat.le_of_ble_eq_true rfl) (by omega) (m_countC (by omega) (by omega : (5 : Int) ≠ 0) (by omega : 0 ≤ (H.1 1826 40) ∧ (H.1 1826 40) ≤ 1000)) ?_
              rintro _ _ ⟨rfl, rfl⟩
              refine h_run 0 (pc' := 228) (l' := [(0, .inr (.inr 1826)), (1, .inl t), (2, .inl h), (3, .inl (-1)), (4, .inl (-1))]) (st' := []) rfl ?_
              refine h_run 1 (pc' := 229) (l' := [(0, .inr (.inr 1826)), (1, .inl t), (2, .inl h), (3, .inl (-1)), (4, .inl (-1))]) (st' := [.inr (.inr 1826)]) rfl ?_
              refine h_cv (i := 293) (j := 158) (b := 1826) (M' := mt_158) (xs := []) (rest := []) rfl rfl rfl rfl rfl rfl (Nat.le_of_ble_eq_true rfl) (Nat.le_of_ble_eq_true rfl) (by omega) (m_good0 (by omega) (by omega : (5 : Int) ≠ 0)) ?_
              rintro _ _ ⟨rfl, rfl⟩
              refine h_run 0 (pc' := 232) (l' := [(0, .inr (.inr 1826)), (1, .inl t), (2, .inl h), (3, .inl (-1)), (4, .inl (-1))]) (st' := [.inl 0]) rfl ?_
              refine h_zne (off := 5) (t := 237) rfl rfl (by decide) (fun c => absurd c (by decide)) (fun _ => ?_)
              refine h_run 1 (pc' := 236) (l' := [(0, .inr (.inr 1826)), (1, .inl t), (2, .inl h), (3, .inl (-1)), (4, .inl (-1))]) (st' := [.inl (-1)]) rfl ?_
              refine h_reti (x := (-1)) rfl rfl ?_
              have g552 : -2147483648 ≤ (H.1 1826 30) ∧ (H.1 1826 30) ≤ 2147483647 := hrg0.1 1826 13 30 _ .int rfl rfl
              have g553 : -2147483648 ≤ (H.1 1826 32) ∧ (H.1 1826 32) ≤ 2147483647 := hrg0.1 1826 13 32 _ .int rfl rfl
              have g554 : -2147483648 ≤ (H.1 1826 29) ∧ (H.1 1826 29) ≤ 2147483647 := hrg0.1 1826 13 29 _ .int rfl rfl
              have g555 : -2147483648 ≤ (H.1 1826 31) ∧ (H.1 1826 31) ≤ 2147483647 := hrg0.1 1826 13 31 _ .int rfl rfl
              have g556 : -2147483648 ≤ (H.1 1826 1) ∧ (H.1 1826 1) ≤ 2147483647 := hrg0.1 1826 13 1 _ .int rfl rfl
              exact ⟨⟨(-1), rfl, by omega, by omega⟩, (fr_o (fr_o (fr_o (fr_rf _ _ _) (by decide)) (by decide)) (by decide)), (by omega : (H.1 1826 30) ≤ (H.1 1826 30) ∧ (H.1 1826 30) ≤ (H.1 1826 29)), (by omega : 0 ≤ (5 : Int) ∧ (5 : Int) ≤ 5), (by omega : 0 ≤ (H.1 1826 32) ∧ (H.1 1826 32) ≤ 1000), (by omega : (5 : Int) = 0 → (H.1 1826 31) = 0 ∨ (H.1 1826 30) < (H.1 1826 30)), (by omega : ((H.1 1826 44) ≠ 2 → (H.1 1826 39) = (H.1 1826 39)) ∧ (H.1 1826 39) ≤ (H.1 1826 39)), (fun (q : (5 : Int) = 0) => absurd q (by omega))⟩
          · refine h_run 2 (pc' := 165) (l' := [(0, .inr (.inr 1826)), (1, .inl t), (2, .inl h), (3, .inl (-1)), (4, .inl (-1))]) (st' := [.inl 2, .inr (.inr 1826)]) rfl ?_
            refine h_cv (i := 278) (j := 159) (b := 1826) (M' := mt_159) (xs := [.inl 2]) (rest := []) rfl rfl rfl rfl rfl rfl (Nat.le_of_ble_eq_true rfl) (Nat.le_of_ble_eq_true rfl) (by omega) (m_bad0 (by omega) (by omega) (by omega : (H.1 1826 35) = 0)) ?_
            rintro _ _ ⟨rfl, rfl⟩
            refine h_run 0 (pc' := 168) (l' := [(0, .inr (.inr 1826)), (1, .inl t), (2, .inl h), (3, .inl (-1)), (4, .inl (-1))]) (st' := []) rfl ?_
            refine h_run 1 (pc' := 169) (l' := [(0, .inr (.inr 1826)), (1, .inl t), (2, .inl h), (3, .inl (-1)), (4, .inl (-1))]) (st' := [.inr (.inr 1826)]) rfl ?_
            refine h_cv (i := 293) (j := 158) (b := 1826) (M' := mt_158) (xs := []) (rest := []) rfl rfl rfl rfl rfl rfl (Nat.le_of_ble_eq_true rfl) (Nat.le_of_ble_eq_true rfl) (by omega) (m_good0 (by omega) (by omega : (2 : Int) ≠ 0)) ?_
            rintro _ _ ⟨rfl, rfl⟩
            refine h_run 0 (pc' := 172) (l' := [(0, .inr (.inr 1826)), (1, .inl t), (2, .inl h), (3, .inl (-1)), (4, .inl (-1))]) (st' := [.inl 0]) rfl ?_
            refine h_zeq (off := 25) (t := 197) rfl rfl (by decide) (fun _ => ?_) (fun c => absurd c (by decide))
            refine h_run 1 (pc' := 198) (l' := [(0, .inr (.inr 1826)), (1, .inl t), (2, .inl h), (3, .inl (-1)), (4, .inl (-1))]) (st' := [.inr (.inr 1826)]) rfl ?_
            refine h_cv (i := 293) (j := 158) (b := 1826) (M' := mt_158) (xs := []) (rest := []) rfl rfl rfl rfl rfl rfl (Nat.le_of_ble_eq_true rfl) (Nat.le_of_ble_eq_true rfl) (by omega) (m_good0 (by omega) (by omega : (2 : Int) ≠ 0)) ?_
            rintro _ _ ⟨rfl, rfl⟩
            refine h_run 0 (pc' := 201) (l' := [(0, .inr (.inr 1826)), (1, .inl t), (2, .inl h), (3, .inl (-1)), (4, .inl (-1))]) (st' := [.inl 0]) rfl ?_
            refine h_zeq (off := 23) (t := 224) rfl rfl (by decide) (fun _ => ?_) (fun c => absurd c (by decide))
            refine h_run 1 (pc' := 225) (l' := [(0, .inr (.inr 1826)), (1, .inl t), (2, .inl h), (3, .inl (-1)), (4, .inl (-1))]) (st' := [.inr (.inr 1826)]) rfl ?_
            have g557 : -2147483648 ≤ (H.1 1826 40) ∧ (H.1 1826 40) ≤ 2147483647 := hrg0.1 1826 13 40 _ .int rfl rfl
            refine h_cv (i := 344) (j := 168) (b := 1826) (M' := mt_168) (xs := []) (rest := []) rfl rfl rfl rfl rfl rfl (Nat.le_of_ble_eq_true rfl) (Nat.le_of_ble_eq_true rfl) (by omega) (m_countC (by omega) (by omega : (2 : Int) ≠ 0) (by omega : 0 ≤ (H.1 1826 40) ∧ (H.1 1826 40) ≤ 1000)) ?_
            rintro _ _ ⟨rfl, rfl⟩
            refine h_run 0 (pc' := 228) (l' := [(0, .inr (.inr 1826)), (1, .inl t), (2, .inl h), (3, .inl (-1)), (4, .inl (-1))]) (st' := []) rfl ?_
            refine h_run 1 (pc' := 229) (l' := [(0, .inr (.inr 1826)), (1, .inl t), (2, .inl h), (3, .inl (-1)), (4, .inl (-1))]) (st' := [.inr (.inr 1826)]) rfl ?_
            refine h_cv (i := 293) (j := 158) (b := 1826) (M' := mt_158) (xs := []) (rest := []) rfl rfl rfl rfl rfl rfl (Nat.le_of_ble_eq_true rfl) (Nat.le_of_ble_eq_true rfl) (by omega) (m_good0 (by omega) (by omega : (2 : Int) ≠ 0)) ?_
            rintro _ _ ⟨rfl, rfl⟩
            refine h_run 0 (pc' := 232) (l' := [(0, .inr (.inr 1826)), (1, .inl t), (2, .inl h), (3, .inl (-1)), (4, .inl (-1))]) (st' := [.inl 0]) rfl ?_
            refine h_zne (off := 5) (t := 237) rfl rfl (by decide) (fun c => absurd c (by decide)) (fun _ => ?_)
            refine h_run 1 (pc' := 236) (l' := [(0, .inr (.inr 1826)), (1, .inl t), (2, .inl h), (3, .inl (-1)), (4, .inl (-1))]) (st' := [.inl (-1)]) rfl ?_
            refine h_reti (x := (-1)) rfl rfl ?_
            have g558 : -2147483648 ≤ (H.1 1826 30) ∧ (H.1 1826 30) ≤ 2147483647 := hrg0.1 1826 13 30 _ .int rfl rfl
            have g559 : -2147483648 ≤ (H.1 1826 32) ∧ (H.1 1826 32) ≤ 2147483647 := hrg0.1 1826 13 32 _ .int rfl rfl
            have g560 : -2147483648 ≤ (H.1 1826 29) ∧ (H.1 1826 29) ≤ 2147483647 := hrg0.1 1826 13 29 _ .int rfl rfl
            have g561 : -2147483648 ≤ (H.1 1826 31) ∧ (H.1 1826 31) ≤ 2147483647 := hrg0.1 1826 13 31 _ .int rfl rfl
            have g562 : -2147483648 ≤ (H.1 1826 1) ∧ (H.1 1826 1) ≤ 2147483647 := hrg0.1 1826 13 1 _ .int rfl rfl
            exact ⟨⟨(-1), rfl, by omega, by omega⟩, (fr_o (fr_o (fr_o (fr_rf _ _ _) (by decide)) (by decide)) (by decide)), (by omega : (H.1 1826 30) ≤ (H.1 1826 30) ∧ (H.1 1826 30) ≤ (H.1 1826 29)), (by omega : 0 ≤ (2 : Int) ∧ (2 : Int) ≤ 5), (by omega : 0 ≤ (H.1 1826 32) ∧ (H.1 1826 32) ≤ 1000), (by omega : (2 : Int) = 0 → (H.1 1826 31) = 0 ∨ (H.1 1826 30) < (H.1 1826 30)), (by omega : ((H.1 1826 44) ≠ 2 → (H.1 1826 39) = (H.1 1826 39)) ∧ (H.1 1826 39) ≤ (H.1 1826 39)), (fun (q : (2 : Int) = 0) => absurd q (by omega))⟩
        · refine h_run 2 (pc' := 141) (l' := [(0, .inr (.inr 1826)), (1, .inl t), (2, .inl h), (3, .inl (-1)), (4, .inl (-1))]) (st' := [.inl (-1), .inl (-1)]) rfl ?_
          refine h_ine (off := 10) (t := 151) rfl rfl (by decide) (by decide) (fun c => absurd c (by decide)) (fun _ => ?_)
          refine h_run 2 (pc' := 146) (l' := [(0, .inr (.inr 1826)), (1, .inl t), (2, .inl h), (3, .inl (-1)), (4, .inl (-1))]) (st' := [.inl 3, .inr (.inr 1826)]) rfl ?_
          have g563 : -2147483648 ≤ (H.1 1826 35) ∧ (H.1 1826 35) ≤ 2147483647 := hrg0.1 1826 13 35 _ .int rfl rfl
          refine h_cv (i := 278) (j := 159) (b := 1826) (M' := mt_159) (xs := [.inl 3]) (rest := []) rfl rfl rfl rfl rfl rfl (Nat.le_of_ble_eq_true rfl) (Nat.le_of_ble_eq_true rfl) (by omega) (m_bad0 (by omega) (by omega) (by omega : (H.1 1826 35) = 0)) ?_
          rintro _ _ ⟨rfl, rfl⟩
          refine h_run 0 (pc' := 149) (l' := [(0, .inr (.inr 1826)), (1, .inl t), (2, .inl h), (3, .inl (-1)), (4, .inl (-1))]) (st' := []) rfl ?_
          refine h_run 1 (pc' := 150) (l' := [(0, .inr (.inr 1826)), (1, .inl t), (2, .inl h), (3, .inl (-1)), (4, .inl (-1))]) (st' := [.inl (-1)]) rfl ?_
          refine h_reti (x := (-1)) rfl rfl ?_
          have g564 : -2147483648 ≤ (H.1 1826 30) ∧ (H.1 1826 30) ≤ 2147483647 := hrg0.1 1826 13 30 _ .int rfl rfl
          have g565 : -2147483648 ≤ (H.1 1826 32) ∧ (H.1 1826 32) ≤ 2147483647 := hrg0.1 1826 13 32 _ .int rfl rfl
          have g566 : -2147483648 ≤ (H.1 1826 29) ∧ (H.1 1826 29) ≤ 2147483647 := hrg0.1 1826 13 29 _ .int rfl rfl
          have g567 : -2147483648 ≤ (H.1 1826 31) ∧ (H.1 1826 31) ≤ 2147483647 := hrg0.1 1826 13 31 _ .int rfl rfl
          have g568 : -2147483648 ≤ (H.1 1826 1) ∧ (H.1 1826 1) ≤ 2147483647 := hrg0.1 1826 13 1 _ .int rfl rfl
          exact ⟨⟨(-1), rfl, by omega, by omega⟩, (fr_o (fr_o (fr_rf _ _ _) (by decide)) (by decide)), (by omega : (H.1 1826 30) ≤ (H.1 1826 30) ∧ (H.1 1826 30) ≤ (H.1 1826 29)), (by omega : 0 ≤ (3 : Int) ∧ (3 : Int) ≤ 5), (by omega : 0 ≤ (H.1 1826 32) ∧ (H.1 1826 32) ≤ 1000), (by omega : (3 : Int) = 0 → (H.1 1826 31) = 0 ∨ (H.1 1826 30) < (H.1 1826 30)), (by omega : ((H.1 1826 44) ≠ 2 → (H.1 1826 39) = (H.1 1826 39)) ∧ (H.1 1826 39) ≤ (H.1 1826 39)), (fun (q : (3 : Int) = 0) => absurd q (by omega))⟩
