/-! the reference: the values, level by level -/
def GR (tn : Int) (vz vc vz1 vc1 : Nat → Int) (n : Nat) : Prop := ∀ u : Nat, (u : Int) < tn → vc u ≤ vc1 u ∧ (∀ i : Nat, (i : Int) < vc u → vz1 (2001 * u + i) = vz (2001 * u + i)) ∧ (vc u ≤ 0 → 0 < vc1 u → vz1 (2001 * u) = (n : Int))
theorem GR_rf {tn : Int} {vz vc : Nat → Int} {n : Nat} : GR tn vz vc vz vc n := fun u _ => ⟨Int.le_refl _, fun _ _ => rfl, fun h1 h2 => absurd h2 (by omega)⟩
theorem GR_VG {tn : Int} {vz vc vz1 vc1 vz2 vc2 : Nat → Int} {t n : Nat} (h : GR tn vz vc vz1 vc1 n) (g : VG tn vz1 vc1 vz2 vc2 t n) : GR tn vz vc vz2 vc2 n := by
  intro u hu
  obtain ⟨h1, h2, h3⟩ := h u hu
  have g0 := VG_le g u
  refine ⟨by omega, fun i hi => by rw [← h2 i hi]; exact g.2.2.1 u i hu (by omega), fun a b => ?_⟩
  by_cases e : vc1 u ≤ 0
  · by_cases e2 : u = t
    · subst e2; exact g.2.2.2 e b
    · rw [g.1 u e2] at b; omega
  · rw [← h3 a (by omega)]
    exact g.2.2.1 u 0 hu (by omega)
def CF (vz vc cA cG : Nat → Int) (c s : Nat) : Prop := (cA c = 0 ∧ s = 1) ∨ (cA c = 1 ∧ 0 < vc (cG (3 * c)).toNat ∧ sz vz cG c 0 0 + 1 = (s : Int)) ∨ (cA c = 2 ∧ 0 < vc (cG (3 * c)).toNat ∧ 0 < vc (cG (3 * c + 1)).toNat ∧ sz vz cG c 0 0 + sz vz cG c 1 0 + 1 = (s : Int)) ∨ (cA c = 3 ∧ 0 < vc (cG (3 * c)).toNat ∧ 0 < vc (cG (3 * c + 1)).toNat ∧ 0 < vc (cG (3 * c + 2)).toNat ∧ sz vz cG c 0 0 + sz vz cG c 1 0 + sz vz cG c 2 0 + 1 = (s : Int))
def FE (tn : Int) (fo vc : Nat → Int) (n : Nat) : Prop := ∀ u : Nat, (u : Int) < tn → fo (8 * u + n) = vc u ∧ 0 ≤ vc u
def LV (tn cn al : Int) (cT cA cG vz vc : Nat → Int) (n : Nat) : Prop := (∀ u : Nat, (u : Int) < tn → 0 < vc u → 1 ≤ vz (2001 * u) ∧ vz (2001 * u) < (n : Int)) ∧ (al = 1 → 2 ≤ n → ∀ u : Nat, (u : Int) < tn → 0 < vc u ∧ vz (2001 * u) = 1) ∧ ∀ c s : Nat, (c : Int) < cn → CF vz vc cA cG c s → s < n → 0 < vc (cT c).toNat ∧ vz (2001 * (cT c).toNat) ≤ (s : Int)
def DN (cn : Int) (cT cA cG vz vc vc1 : Nat → Int) (n t c : Nat) : Prop := ∀ x : Nat, (x : Int) < cn → (cT x < (t : Int) ∨ (cT x = (t : Int) ∧ x < c)) → CF vz vc cA cG x n → 0 < vc1 (cT x).toNat
def AL (al : Int) (vc1 : Nat → Int) (n t : Nat) : Prop := n = 1 → al = 1 → ∀ u : Nat, u < t → 0 < vc1 u
theorem GR_sz {tn : Int} {vz vc vz1 vc1 cG : Nat → Int} {c k n : Nat} (h : GR tn vz vc vz1 vc1 n) (hg : 0 ≤ cG (3 * c + k) ∧ cG (3 * c + k) < tn) (h0 : 0 < vc (cG (3 * c + k)).toNat) : sz vz1 cG c k 0 = sz vz cG c k 0 := by
  have h1 := (h (cG (3 * c + k)).toNat (by omega)).2.1 0 (by omega)
  unfold sz
  rw [show (2001 * cG (3 * c + k) + ((0 : Nat) : Int)).toNat = 2001 * (cG (3 * c + k)).toNat + 0 by omega]
  exact h1
theorem CF_HT {tn cn : Int} {cT cA cG vz vc vz1 vc1 fo : Nat → Int} {c n : Nat} (hm : m_con tn cn cT cA cG) (hc : (c : Int) < cn) (h : GR tn vz vc vz1 vc1 n) (hF : FE tn fo vc n) (g : CF vz vc cA cG c n) : HT vz1 fo cA cG c n := by
  obtain ⟨-, -, hg⟩ := hm c hc
  have key : ∀ k : Nat, (k : Int) < cA c → 0 < vc (cG (3 * c + k)).toNat → sz vz1 cG c k 0 = sz vz cG c k 0 ∧ 0 < fo (8 * cG (3 * c + k) + (n : Int)).toNat := by
    intro k hk h0
    have h1 := hg k hk
    refine ⟨GR_sz h h1 h0, ?_⟩
    rw [show (8 * cG (3 * c + k) + (n : Int)).toNat = 8 * (cG (3 * c + k)).toNat + n by omega, (hF _ (by omega)).1]
    exact h0
  rcases g with h | ⟨h1, h2, h3⟩ | ⟨h1, h2, h3, h4⟩ | ⟨h1, h2, h3, h4, h5⟩
  · exact Or.inl h
  · have k0 := key 0 (by omega) h2
    exact Or.inr (Or.inl ⟨h1, k0.2, by rw [k0.1]; exact h3⟩)
  · have k0 := key 0 (by omega) h2
    have k1 := key 1 (by omega) h3
    exact Or.inr (Or.inr (Or.inl ⟨h1, k0.2, k1.2, by rw [k0.1, k1.1]; exact h4⟩))
  · have k0 := key 0 (by omega) h2
    have k1 := key 1 (by omega) h3
    have k2 := key 2 (by omega) h4
    exact Or.inr (Or.inr (Or.inr ⟨h1, k0.2, k1.2, k2.2, by rw [k0.1, k1.1, k2.1]; exact h5⟩))
theorem FE_FO {tn : Int} {vz vc vz1 vc1 fo : Nat → Int} {n : Nat} (hF : FE tn fo vc n) (h : GR tn vz vc vz1 vc1 n) : FO tn fo vc1 n := by
  intro u hu
  rw [(hF u hu).1]
  exact ⟨(hF u hu).2, (h u hu).1⟩
theorem LV_0 {tn cn al : Int} {cT cA cG vz vc : Nat → Int} (hm : m_con tn cn cT cA cG) (h0 : ∀ u : Nat, (u : Int) < tn → vc u = 0) : LV tn cn al cT cA cG vz vc 1 := by
  refine ⟨fun u hu h => ?_, fun _ h => absurd h (by omega), fun c s hc h hs => ?_⟩
  · have := h0 u hu; omega
  · obtain ⟨-, -, hg⟩ := hm c hc
    have key : 1 ≤ cA c → vc (cG (3 * c)).toNat = 0 := fun h1 => by
      have g0 : 0 ≤ cG (3 * c) ∧ cG (3 * c) < tn := hg 0 (by omega)
      exact h0 _ (by omega)
    rcases h with ⟨h1, h2⟩ | ⟨h1, h2, h3⟩ | ⟨h1, h2, h3, h4⟩ | ⟨h1, h2, h3, h4, h5⟩ <;> omega
theorem LV_next {tn cn al : Int} {cT cA cG vz vc vz1 vc1 : Nat → Int} {n t : Nat} (hm : m_con tn cn cT cA cG) (h : LV tn cn al cT cA cG vz vc n) (hn : 1 ≤ n) (g : GR tn vz vc vz1 vc1 n) (hD : DN cn cT cA cG vz vc vc1 n t 0) (hA : AL al vc1 n t) (ht : tn ≤ (t : Int)) : LV tn cn al cT cA cG vz1 vc1 (n + 1) := by
  obtain ⟨l1, l2, l3⟩ := h
  have first : ∀ u : Nat, (u : Int) < tn → 0 < vc u → vz1 (2001 * u) = vz (2001 * u) := fun u hu h0 => (g u hu).2.1 0 (by omega)
  have low : ∀ u : Nat, (u : Int) < tn → 0 < vc1 u → 1 ≤ vz1 (2001 * u) ∧ vz1 (2001 * u) < ((n + 1 : Nat) : Int) := by
    intro u hu h0
    by_cases e : 0 < vc u
    · rw [first u hu e]
      have := l1 u hu e
      omega
    · have := (g u hu).2.2 (by omega) h0
      omega
  refine ⟨low, fun ha _ u hu => ?_, fun c s hc hC hs => ?_⟩
  · by_cases e : 2 ≤ n
    · obtain ⟨b1, b2⟩ := l2 ha e u hu
      have b3 := (g u hu).1
      exact ⟨by omega, by rw [first u hu b1]; exact b2⟩
    · have e1 : n = 1 := by omega
      have b1 := hA e1 ha u (by omega)
      refine ⟨b1, ?_⟩
      have := low u hu b1
      omega
  · obtain ⟨-, hT, hg⟩ := hm c hc
    have key : ∀ k : Nat, (k : Int) < cA c → 0 < vc1 (cG (3 * c + k)).toNat → sz vz1 cG c k 0 < (s : Int) → 0 < vc (cG (3 * c + k)).toNat ∧ sz vz cG c k 0 = sz vz1 cG c k 0 := by
      intro k hk h0 hs0
      have h1 := hg k hk
      have h2 : 0 < vc (cG (3 * c + k)).toNat := by
        rcases Int.lt_or_le 0 (vc (cG (3 * c + k)).toNat) with q | q
        · exact q
        · exfalso
          have h3 := (g _ (by omega)).2.2 q h0
          unfold sz at hs0
          rw [show (2001 * cG (3 * c + k) + ((0 : Nat) : Int)).toNat = 2001 * (cG (3 * c + k)).toNat by omega, h3] at hs0
          omega
      exact ⟨h2, (GR_sz g h1 h2).symm⟩
    have pos : ∀ k : Nat, (k : Int) < cA c → 0 < vc1 (cG (3 * c + k)).toNat → 1 ≤ sz vz1 cG c k 0 := by
      intro k hk h0
      have h1 := hg k hk
      have h2 := (low _ (by omega) h0).1
      unfold sz
      rw [show (2001 * cG (3 * c + k) + ((0 : Nat) : Int)).toNat = 2001 * (cG (3 * c + k)).toNat by omega]
      exact h2
    have hC0 : CF vz vc cA cG c s := by
      rcases hC with h | ⟨h1, h2, h3⟩ | ⟨h1, h2, h3, h4⟩ | ⟨h1, h2, h3, h4, h5⟩
      · exact Or.inl h
      · have k0 := key 0 (by omega) h2 (by omega)
        exact Or.inr (Or.inl ⟨h1, k0.1, by rw [k0.2]; exact h3⟩)
      · have p0 := pos 0 (by omega) h2
        have p1 := pos 1 (by omega) h3
        have k0 := key 0 (by omega) h2 (by omega)
        have k1 := key 1 (by omega) h3 (by omega)
        exact Or.inr (Or.inr (Or.inl ⟨h1, k0.1, k1.1, by rw [k0.2, k1.2]; exact h4⟩))
      · have p0 := pos 0 (by omega) h2
        have p1 := pos 1 (by omega) h3
        have p2 := pos 2 (by omega) h4
        have k0 := key 0 (by omega) h2 (by omega)
        have k1 := key 1 (by omega) h3 (by omega)
        have k2 := key 2 (by omega) h4 (by omega)
        exact Or.inr (Or.inr (Or.inr ⟨h1, k0.1, k1.1, k2.1, by rw [k0.2, k1.2, k2.2]; exact h5⟩))
    by_cases e : s < n
    · obtain ⟨b1, b2⟩ := l3 c s hc hC0 e
      have b3 := (g (cT c).toNat (by omega)).1
      exact ⟨by omega, by rw [first _ (by omega) b1]; exact b2⟩
    · obtain rfl : s = n := by omega
      have b1 := hD c hc (by omega) hC0
      have b2 := low _ (by omega) b1
      exact ⟨b1, by omega⟩
theorem LV_am {tn cn al : Int} {cT cA cG vz vc am : Nat → Int} {mo : Nat} (hm : m_con tn cn cT cA cG) (h : LV tn cn al cT cA cG vz vc (mo + 1)) (ha : AW am cT cA cG tn cn al (mo + 1) 0) (hmo : mo ≤ 6) : ∀ b k t : Nat, k < b → 1 ≤ k → k ≤ mo → (t : Int) < tn → 0 < am (8 * t + k) → 0 < vc t ∧ vz (2001 * t) ≤ (k : Int) := by
  intro b
  induction b with
  | zero => intro k t h1; omega
  | succ b ih =>
    intro k t h1 h2 h3 h4 h5
    rcases ha t k h4 h2 (by omega) h5 with ⟨e1, e2⟩ | ⟨c, c1, c2, c3⟩
    · have := h.2.1 e2 (by omega) t h4
      exact ⟨this.1, by omega⟩
    · obtain ⟨-, hT, hg⟩ := hm c c1
      have key : ∀ q i : Nat, (q : Int) < cA c → 1 ≤ i → i < k → 0 < am (8 * cG (3 * c + q) + (i : Int)).toNat → 0 < vc (cG (3 * c + q)).toNat ∧ 1 ≤ sz vz cG c q 0 ∧ sz vz cG c q 0 ≤ (i : Int) := by
        intro q i hq h6 h7 h8
        have h9 := hg q hq
        rw [show (8 * cG (3 * c + q) + (i : Int)).toNat = 8 * (cG (3 * c + q)).toNat + i by omega] at h8
        obtain ⟨x1, x2⟩ := ih i (cG (3 * c + q)).toNat (by omega) h6 (by omega) (by omega) h8
        have x3 := (h.1 _ (by omega) x1).1
        unfold sz
        rw [show (2001 * cG (3 * c + q) + ((0 : Nat) : Int)).toNat = 2001 * (cG (3 * c + q)).toNat by omega]
        exact ⟨x1, x3, x2⟩
      have fin : ∀ s : Nat, CF vz vc cA cG c s → s ≤ k → 0 < vc t ∧ vz (2001 * t) ≤ (k : Int) := by
        intro s hs hk
        obtain ⟨y1, y2⟩ := h.2.2 c s c1 hs (by omega)
        rw [show (cT c).toNat = t by omega] at y1 y2
        exact ⟨y1, by omega⟩
      rcases c3 with ⟨w1, w2⟩ | ⟨w1, i, w2, w3, w4⟩ | ⟨w1, i, j, w2, w3, w4, w5, w6⟩ | ⟨w1, i, j, l, w2, w3, w4, w5, w6, w7, w8⟩
      · exact fin 1 (Or.inl ⟨w1, rfl⟩) (by omega)
      · have k0 := key 0 i (by omega) w2 (by omega) w4
        exact fin (sz vz cG c 0 0 + 1).toNat (Or.inr (Or.inl ⟨w1, k0.1, by omega⟩)) (by omega)
      · have k0 := key 0 i (by omega) w2 (by omega) w5
        have k1 := key 1 j (by omega) w3 (by omega) w6
        exact fin (sz vz cG c 0 0 + sz vz cG c 1 0 + 1).toNat (Or.inr (Or.inr (Or.inl ⟨w1, k0.1, k1.1, by omega⟩))) (by omega)
      · have k0 := key 0 i (by omega) w2 (by omega) w6
        have k1 := key 1 j (by omega) w3 (by omega) w7
        have k2 := key 2 l (by omega) w4 (by omega) w8
        exact fin (sz vz cG c 0 0 + sz vz cG c 1 0 + sz vz cG c 2 0 + 1).toNat (Or.inr (Or.inr (Or.inr ⟨w1, k0.1, k1.1, k2.1, by omega⟩))) (by omega)
theorem DN_0 {tn cn : Int} {cT cA cG vz vc vc1 : Nat → Int} {n : Nat} (hm : m_con tn cn cT cA cG) : DN cn cT cA cG vz vc vc1 n 0 0 := by
  intro x hx h
  have := (hm x hx).2.1
  omega
theorem DN_t {cn : Int} {cT cA cG vz vc vc1 : Nat → Int} {n t c : Nat} (h : DN cn cT cA cG vz vc vc1 n t c) (hc : cn ≤ (c : Int)) : DN cn cT cA cG vz vc vc1 n (t + 1) 0 := fun x hx h1 h2 => h x hx (by omega) h2
theorem DN_c {cn : Int} {cT cA cG vz vc vc1 : Nat → Int} {n t c : Nat} (h : DN cn cT cA cG vz vc vc1 n t c) (hc : cT c ≠ (t : Int)) : DN cn cT cA cG vz vc vc1 n t (c + 1) := by
  intro x hx h1 h2
  by_cases e : x = c
  · subst e; exact h x hx (by omega) h2
  · exact h x hx (by omega) h2
theorem DN_g {cn : Int} {cT cA cG vz vc vc1 vc2 : Nat → Int} {n t c : Nat} (h : DN cn cT cA cG vz vc vc1 n t c) (g : ∀ u, vc1 u ≤ vc2 u) : DN cn cT cA cG vz vc vc2 n t c := fun x hx h1 h2 => by have h3 := h x hx h1 h2; have h4 := g (cT x).toNat; omega
theorem DN_h {cn : Int} {cT cA cG vz vc vc1 : Nat → Int} {n t c : Nat} (h : DN cn cT cA cG vz vc vc1 n t c) (hc : cT c = (t : Int)) (g : CF vz vc cA cG c n → 0 < vc1 t) : DN cn cT cA cG vz vc vc1 n t (c + 1) := by
  intro x hx h1 h2
  by_cases e : x = c
  · subst e
    rw [hc, Int.toNat_natCast]
    exact g h2
  · exact h x hx (by omega) h2
theorem AL_g {al : Int} {vc1 vc2 : Nat → Int} {n t : Nat} (h : AL al vc1 n t) (g : ∀ u, vc1 u ≤ vc2 u) : AL al vc2 n t := fun h1 h2 u hu => by have h3 := h h1 h2 u hu; have h4 := g u; omega
theorem AL_s {al : Int} {vc1 : Nat → Int} {n t : Nat} (h : AL al vc1 n t) (h0 : 0 < vc1 t) : AL al vc1 n (t + 1) := by
  intro h1 h2 u hu
  by_cases e : u = t
  · rw [e]; exact h0
  · exact h h1 h2 u (by omega)
theorem FE_up {vc fo : Nat → Int} {n t : Nat} {y : Int} (h : ∀ u, u < t → fo (8 * u + n) = vc u) (hy : y = vc t) : ∀ u, u < t + 1 → up fo (8 * t + n) y (8 * u + n) = vc u := by
  intro u hu
  by_cases e : u = t
  · rw [e, up_eq, hy]
  · rw [up_ne _ _ (by omega)]; exact h u (by omega)
theorem tm_zero {fA cA md : Nat → Int} {cn fn : Int} (h : md 0 = 0) : tm (ma fA cA) (m_sg cn fn 0) md 1 0 1 := ⟨by decide, Or.inl h, 0, by rw [h]; exact ma_0 (Or.inr rfl), by decide, rfl⟩
theorem VK_0 {tn cn fn : Int} {fA cA va vz vc : Nat → Int} (h0 : ∀ u : Nat, (u : Int) < tn → vc u = 0) : VK tn cn fn fA cA va vz vc := fun t ht => ⟨0, by rw [h0 t ht]; rfl, by decide, fun i hi => absurd hi (Nat.not_lt_zero _)⟩

/-! makeValues -/
set_option maxRecDepth 100000 in
theorem m_makeValues_cut {zC : Nat → Option zsh} {d : Nat} (hd : 10 ≤ d) {H : hp} {mo : Nat} {al : Int} (hP : PWc H) (hm : 1 ≤ mo ∧ mo ≤ 6) (hal : 0 ≤ al ∧ al ≤ 1) : ∀ w : Nat, (∀ (H1 : hp) (t : Nat), (fr [53] [1856, 1861, 1862, 1863, 1865] H H1) → (∀ u : Nat, u < t → (H1.1 1863) u = 0) → (t ≤ 6) → 100000000 - t < w → hG (zs zC) d mt_212 2 [(0, .inr (.inr 1826)), (1, .inl (mo : Int)), (2, .inl al), (3, .inl (t : Int))] [] H1 (fun r9 H2 => r9 = none ∧ fr [53] [1856, 1861, 1862, 1863, 1865] H H2 ∧ VK (H2.1 1826 1) (H2.1 1826 3) (H2.1 1826 8) (H2.1 1833) (H2.1 1830) (H2.1 1861) (H2.1 1862) (H2.1 1863) ∧ LV (H.1 1826 1) (H.1 1826 3) al (H.1 1829) (H.1 1830) (H.1 1831) (H2.1 1862) (H2.1 1863) (mo + 1))) ∧ (∀ (H1 : hp) (n : Nat), (fr [53] [1856, 1861, 1862, 1863, 1865] H H1) → (VK (H1.1 1826 1) (H1.1 1826 3) (H1.1 1826 8) (H1.1 1833) (H1.1 1830) (H1.1 1861) (H1.1 1862) (H1.1 1863)) → (LV (H.1 1826 1) (H.1 1826 3) al (H.1 1829) (H.1 1830) (H.1 1831) (H1.1 1862) (H1.1 1863) n) → (1 ≤ n ∧ n ≤ mo + 1) → 50000000 - 50000 * n < w → hG (zs zC) d mt_212 25 [(0, .inr (.inr 1826)), (1, .inl (mo : Int)), (2, .inl al), (3, .inl (n : Int))] [] H1 (fun r9 H2 => r9 = none ∧ fr [53] [1856, 1861, 1862, 1863, 1865] H H2 ∧ VK (H2.1 1826 1) (H2.1 1826 3) (H2.1 1826 8) (H2.1 1833) (H2.1 1830) (H2.1 1861) (H2.1 1862) (H2.1 1863) ∧ LV (H.1 1826 1) (H.1 1826 3) al (H.1 1829) (H.1 1830) (H.1 1831) (H2.1 1862) (H2.1 1863) (mo + 1))) ∧ (∀ (H1 : hp) (n : Nat) (t : Nat), (fr [53] [1856, 1861, 1862, 1863, 1865] H H1) → (VK (H1.1 1826 1) (H1.1 1826 3) (H1.1 1826 8) (H1.1 1833) (H1.1 1830) (H1.1 1861) (H1.1 1862) (H1.1 1863)) → (LV (H.1 1826 1) (H.1 1826 3) al (H.1 1829) (H.1 1830) (H.1 1831) (H1.1 1862) (H1.1 1863) n) → (1 ≤ n ∧ n ≤ mo) → (t ≤ 6) → (∀ u : Nat, u < t → (H1.1 1865) (8 * u + n) = (H1.1 1863) u) → 50000000 - 50000 * n - 100 - t < w → hG (zs zC) d mt_212 33 [(0, .inr (.inr 1826)), (1, .inl (mo : Int)), (2, .inl al), (3, .inl (n : Int)), (4, .inl (t : Int))] [] H1 (fun r9 H2 => r9 = none ∧ fr [53] [1856, 1861, 1862, 1863, 1865] H H2 ∧ VK (H2.1 1826 1) (H2.1 1826 3) (H2.1 1826 8) (H2.1 1833) (H2.1 1830) (H2.1 1861) (H2.1 1862) (H2.1 1863) ∧ LV (H.1 1826 1) (H.1 1826 3) al (H.1 1829) (H.1 1830) (H.1 1831) (H2.1 1862) (H2.1 1863) (mo + 1))) ∧ (∀ (H1 : hp) (n : Nat) (t : Nat) (vz0 : Nat → Int) (vc0 : Nat → Int), (fr [53] [1856, 1861, 1862, 1863, 1865] H H1) → (VK (H1.1 1826 1) (H1.1 1826 3) (H1.1 1826 8) (H1.1 1833) (H1.1 1830) (H1.1 1861) (H1.1 1862) (H1.1 1863)) → (LV (H.1 1826 1) (H.1 1826 3) al (H.1 1829) (H.1 1830) (H.1 1831) vz0 vc0 n) → (GR (H.1 1826 1) vz0 vc0 (H1.1 1862) (H1.1 1863) n) → (FE (H.1 1826 1) (H1.1 1865) vc0 n) → (DN (H.1 1826 3) (H.1 1829) (H.1 1830) (H.1 1831) vz0 vc0 (H1.1 1863) n t 0) → (AL al (H1.1 1863) n t) → (1 ≤ n ∧ n ≤ mo) → (t ≤ 6) → 50000000 - 50000 * n - 1000 - 100 * t < w → hG (zs zC) d mt_212 70 [(0, .inr (.inr 1826)), (1, .inl (mo : Int)), (2, .inl al), (3, .inl (n : Int)), (4, .inl (t : Int))] [] H1 (fun r9 H2 => r9 = none ∧ fr [53] [1856, 1861, 1862, 1863, 1865] H H2 ∧ VK (H2.1 1826 1) (H2.1 1826 3) (H2.1 1826 8) (H2.1 1833) (H2.1 1830) (H2.1 1861) (H2.1 1862) (H2.1 1863) ∧ LV (H.1 1826 1) (H.1 1826 3) al (H.1 1829) (H.1 1830) (H.1 1831) (H2.1 1862) (H2.1 1863) (mo + 1))) ∧ (∀ (H1 : hp) (n : Nat) (t : Nat) (vz0 : Nat → Int) (vc0 : Nat → Int) (c : Nat), (fr [53] [1856, 1861, 1862, 1863, 1865] H H1) → (VK (H1.1 1826 1) (H1.1 1826 3) (H1.1 1826 8) (H1.1 1833) (H1.1 1830) (H1.1 1861) (H1.1 1862) (H1.1 1863)) → (LV (H.1 1826 1) (H.1 1826 3) al (H.1 1829) (H.1 1830) (H.1 1831) vz0 vc0 n) → (GR (H.1 1826 1) vz0 vc0 (H1.1 1862) (H1.1 1863) n) → (FE (H.1 1826 1) (H1.1 1865) vc0 n) → (DN (H.1 1826 3) (H.1 1829) (H.1 1830) (H.1 1831) vz0 vc0 (H1.1 1863) n t c) → (AL al (H1.1 1863) n (t + 1)) → (1 ≤ n ∧ n ≤ mo) → ((t : Int) < (H.1 1826 1)) → (c ≤ 16) → 50000000 - 50000 * n - 1000 - 100 * t - 10 - c < w → hG (zs zC) d mt_212 105 [(0, .inr (.inr 1826)), (1, .inl (mo : Int)), (2, .inl al), (3, .inl (n : Int)), (4, .inl (t : Int)), (5, .inl (c : Int))] [] H1 (fun r9 H2 => r9 = none ∧ fr [53] [1856, 1861, 1862, 1863, 1865] H H2 ∧ VK (H2.1 1826 1) (H2.1 1826 3) (H2.1 1826 8) (H2.1 1833) (H2.1 1830) (H2.1 1861) (H2.1 1862) (H2.1 1863) ∧ LV (H.1 1826 1) (H.1 1826 3) al (H.1 1829) (H.1 1830) (H.1 1831) (H2.1 1862) (H2.1 1863) (mo + 1))) := by
  intro w
  induction w with
  | zero => exact ⟨fun _ _ _ _ _ h => absurd h (Nat.not_lt_zero _), fun _ _ _ _ _ _ h => absurd h (Nat.not_lt_zero _), fun _ _ _ _ _ _ _ _ _ h => absurd h (Nat.not_lt_zero _), fun _ _ _ _ _ _ _ _ _ _ _ _ _ _ h => absurd h (Nat.not_lt_zero _), fun _ _ _ _ _ _ _ _ _ _ _ _ _ _ _ _ h => absurd h (Nat.not_lt_zero _)⟩
  | succ w ih =>
    refine ⟨?_, ?_, ?_, ?_, ?_⟩
    · intro H1 t hf hz0 ht hw
      refine h_rng (fun hrg1 => ?_)
      obtain ⟨⟨pb1, pb2, pb3, pb4, pb5⟩, pw1, pw2, pw3, pw4⟩ := (id hP : PW H (H.1 1826 1) (H.1 1826 3) (H.1 1826 8) (H.1 1826 13) (H.1 1826 19))
      have hPH1 : PWc H1 := PWc_fr hP hf (by decide) (by decide)
      have cGH1 : (H1.1 1831) = (H.1 1831) := hf.2.1 1831 (by decide) (by decide)
      have cAH1 : (H1.1 1830) = (H.1 1830) := hf.2.1 1830 (by decide) (by decide)
      have fAH1 : (H1.1 1833) = (H.1 1833) := hf.2.1 1833 (by decide) (by decide)
      have tyH1 : (H1.1 1826 1) = (H.1 1826 1) := hf.2.2 1 (by decide)
      have cnH1 : (H1.1 1826 3) = (H.1 1826 3) := hf.2.2 3 (by decide)
      have fnH1 : (H1.1 1826 8) = (H.1 1826 8) := hf.2.2 8 (by decide)
      have cTH1 : (H1.1 1829) = (H.1 1829) := hf.2.1 1829 (by decide) (by decide)
      refine h_run 3 (pc' := 7) (l' := [(0, .inr (.inr 1826)), (1, .inl (mo : Int)), (2, .inl al), (3, .inl (t : Int))]) (st' := [.inl (H1.1 1826 1), .inl (t : Int)]) rfl ?_
      have g2 : -2147483648 ≤ (H1.1 1826 1) ∧ (H1.1 1826 1) ≤ 2147483647 := hrg1.1 1826 13 1 _ .int rfl rfl
      have e3 : (H1.1 1826 1) = (H.1 1826 1) := hf.2.2 1 (by decide)
      refine h_ige (off := 16) (t := 23) rfl rfl (by omega) (by omega) (fun c4 => ?_) (fun c4 => ?_)
      · refine h_run 2 (pc' := 25) (l' := [(0, .inr (.inr 1826)), (1, .inl (mo : Int)), (2, .inl al), (3, .inl 1)]) (st' := []) rfl ?_
        exact ih.2.1 _ 1 hf (VK_0 (fun u9 h9 => hz0 u9 (by omega))) (LV_0 pw1 (fun u9 h9 => hz0 u9 (by omega))) (by omega) (by omega : 50000000 - 50000 * 1 < w)
      · refine h_run 4 (pc' := 16) (l' := [(0, .inr (.inr 1826)), (1, .inl (mo : Int)), (2, .inl al), (3, .inl (t : Int))]) (st' := [.inl 0, .inl (t : Int), .inr (.inr 1863)]) rfl ?_
        refine h_ist (c := 1863) (j := t) (i := (t : Int)) (x := 0) rfl rfl (by decide) (by decide) rfl (by omega) (by decide) ?_
        refine h_run 2 (pc' := 2) (l' := [(0, .inr (.inr 1826)), (1, .inl (mo : Int)), (2, .inl al), (3, .inl ((t : Int) + 1))]) (st' := []) rfl ?_
        rw [show ((t : Int) + 1) = (((t + 1) : Nat) : Int) by omega]
        exact ih.1 _ (t + 1) (fr_a hf (by decide)) (z0_up hz0) (by omega) (by omega : 100000000 - (t + 1) < w)
    · intro H1 n hf hVH1 hLH1 hn hw
      refine h_rng (fun hrg5 => ?_)
      obtain ⟨⟨pb1, pb2, pb3, pb4, pb5⟩, pw1, pw2, pw3, pw4⟩ := (id hP : PW H (H.1 1826 1) (H.1 1826 3) (H.1 1826 8) (H.1 1826 13) (H.1 1826 19))
      have hPH1 : PWc H1 := PWc_fr hP hf (by decide) (by decide)
      have cGH1 : (H1.1 1831) = (H.1 1831) := hf.2.1 1831 (by decide) (by decide)
      have cAH1 : (H1.1 1830) = (H.1 1830) := hf.2.1 1830 (by decide) (by decide)
      have fAH1 : (H1.1 1833) = (H.1 1833) := hf.2.1 1833 (by decide) (by decide)
      have tyH1 : (H1.1 1826 1) = (H.1 1826 1) := hf.2.2 1 (by decide)
      have cnH1 : (H1.1 1826 3) = (H.1 1826 3) := hf.2.2 3 (by decide)
      have fnH1 : (H1.1 1826 8) = (H.1 1826 8) := hf.2.2 8 (by decide)
      have cTH1 : (H1.1 1829) = (H.1 1829) := hf.2.1 1829 (by decide) (by decide)
      refine h_run 2 (pc' := 27) (l' := [(0, .inr (.inr 1826)), (1, .inl (mo : Int)), (2, .inl al), (3, .inl (n : Int))]) (st' := [.inl (mo : Int), .inl (n : Int)]) rfl ?_
      refine h_igt (off := 126) (t := 153) rfl rfl (by omega) (by omega) (fun c6 => ?_) (fun c6 => ?_)
      · refine h_ret rfl rfl ?_
        exact ⟨rfl, hf, hVH1, by rw [show mo + 1 = n by omega]; exact hLH1⟩
      · refine h_run 2 (pc' := 33) (l' := [(0, .inr (.inr 1826)), (1, .inl (mo : Int)), (2, .inl al), (3, .inl (n : Int)), (4, .inl 0)]) (st' := []) rfl ?_
        exact ih.2.2.1 _ n 0 hf hVH1 hLH1 (by omega) (by omega) (fun _ h9 => absurd h9 (Nat.not_lt_zero _)) (by omega : 50000000 - 50000 * n - 100 - 0 < w)
    · intro H1 n t hf hVH1 hLH1 hn ht hfo hw
      refine h_rng (fun hrg7 => ?_)
      obtain ⟨⟨pb1, pb2, pb3, pb4, pb5⟩, pw1, pw2, pw3, pw4⟩ := (id hP : PW H (H.1 1826 1) (H.1 1826 3) (H.1 1826 8) (H.1 1826 13) (H.1 1826 19))
      have hPH1 : PWc H1 := PWc_fr hP hf (by decide) (by decide)
      have cGH1 : (H1.1 1831) = (H.1 1831) := hf.2.1 1831 (by decide) (by decide)
      have cAH1 : (H1.1 1830) = (H.1 1830) := hf.2.1 1830 (by decide) (by decide)
      have fAH1 : (H1.1 1833) = (H.1 1833) := hf.2.1 1833 (by decide) (by decide)
      have tyH1 : (H1.1 1826 1) = (H.1 1826 1) := hf.2.2 1 (by decide)
      have cnH1 : (H1.1 1826 3) = (H.1 1826 3) := hf.2.2 3 (by decide)
      have fnH1 : (H1.1 1826 8) = (H.1 1826 8) := hf.2.2 8 (by decide)
      have cTH1 : (H1.1 1829) = (H.1 1829) := hf.2.1 1829 (by decide) (by decide)
      refine h_run 3 (pc' := 39) (l' := [(0, .inr (.inr 1826)), (1, .inl (mo : Int)), (2, .inl al), (3, .inl (n : Int)), (4, .inl (t : Int))]) (st' := [.inl (H1.1 1826 1), .inl (t : Int)]) rfl ?_
      have g8 : -2147483648 ≤ (H1.1 1826 1) ∧ (H1.1 1826 1) ≤ 2147483647 := hrg7.1 1826 13 1 _ .int rfl rfl
      have e9 : (H1.1 1826 1) = (H.1 1826 1) := hf.2.2 1 (by decide)
      refine h_ige (off := 28) (t := 67) rfl rfl (by omega) (by omega) (fun c10 => ?_) (fun c10 => ?_)
      · refine h_run 2 (pc' := 70) (l' := [(0, .inr (.inr 1826)), (1, .inl (mo : Int)), (2, .inl al), (3, .inl (n : Int)), (4, .inl 0)]) (st' := []) rfl ?_
        exact ih.2.2.2.1 _ n 0 _ _ hf hVH1 hLH1 GR_rf (fun u9 h9 => ⟨hfo u9 (by omega), by obtain ⟨m9, y9, -⟩ := hVH1 u9 (by omega); omega⟩) (DN_0 pw1) (fun _ _ u9 h9 => absurd h9 (Nat.not_lt_zero _)) (by omega) (by omega) (by omega : 50000000 - 50000 * n - 1000 - 100 * 0 < w)
      · refine h_run 10 (pc' := 59) (l' := [(0, .inr (.inr 1826)), (1, .inl (mo : Int)), (2, .inl al), (3, .inl (n : Int)), (4, .inl (t : Int))]) (st' := [.inl (t : Int), .inr (.inr 1863), .inl ((8 * (t : Int)) + (n : Int)), .inr (.inr 1865)]) rfl ?_
        refine h_ild (c := 1863) (j := t) (i := (t : Int)) rfl rfl (by decide) rfl (by omega) ?_
        have g11 : -2147483648 ≤ (H1.1 1863 t) ∧ (H1.1 1863 t) ≤ 2147483647 := hrg7.2 1863 t 6 .int rfl (by omega)
        refine h_run 0 (pc' := 60) (l' := [(0, .inr (.inr 1826)), (1, .inl (mo : Int)), (2, .inl al), (3, .inl (n : Int)), (4, .inl (t : Int))]) (st' := [.inl (H1.1 1863 t), .inl ((8 * (t : Int)) + (n : Int)), .inr (.inr 1865)]) rfl ?_
        refine h_ist (c := 1865) (j := ((8 * t) + n)) (i := ((8 * (t : Int)) + (n : Int))) (x := (H1.1 1863 t)) rfl rfl (by decide) (by decide) (by omega) (by omega) (by omega) ?_
        refine h_run 2 (pc' := 33) (l' := [(0, .inr (.inr 1826)), (1, .inl (mo : Int)), (2, .inl al), (3, .inl (n : Int)), (4, .inl ((t : Int) + 1))]) (st' := []) rfl ?_
        rw [show ((t : Int) + 1) = (((t + 1) : Nat) : Int) by omega]
        exact ih.2.2.1 _ n (t + 1) (fr_a hf (by decide)) hVH1 hLH1 (by omega) (by omega) (FE_up hfo rfl) (by omega : 50000000 - 50000 * n - 100 - (t + 1) < w)
    · intro H1 n t vz0 vc0 hf hVH1 hL0 hGH1 hFH1 hDH1 hAH1 hn ht hw
      refine h_rng (fun hrg12 => ?_)
      obtain ⟨⟨pb1, pb2, pb3, pb4, pb5⟩, pw1, pw2, pw3, pw4⟩ := (id hP : PW H (H.1 1826 1) (H.1 1826 3) (H.1 1826 8) (H.1 1826 13) (H.1 1826 19))
      have hPH1 : PWc H1 := PWc_fr hP hf (by decide) (by decide)
      have cGH1 : (H1.1 1831) = (H.1 1831) := hf.2.1 1831 (by decide) (by decide)
      have cAH1 : (H1.1 1830) = (H.1 1830) := hf.2.1 1830 (by decide) (by decide)
      have fAH1 : (H1.1 1833) = (H.1 1833) := hf.2.1 1833 (by decide) (by decide)
      have tyH1 : (H1.1 1826 1) = (H.1 1826 1) := hf.2.2 1 (by decide)
      have cnH1 : (H1.1 1826 3) = (H.1 1826 3) := hf.2.2 3 (by decide)
      have fnH1 : (H1.1 1826 8) = (H.1 1826 8) := hf.2.2 8 (by decide)
      have cTH1 : (H1.1 1829) = (H.1 1829) := hf.2.1 1829 (by decide) (by decide)
      refine h_run 3 (pc' := 76) (l' := [(0, .inr (.inr 1826)), (1, .inl (mo : Int)), (2, .inl al), (3, .inl (n : Int)), (4, .inl (t : Int))]) (st' := [.inl (H1.1 1826 1), .inl (t : Int)]) rfl ?_
      have g13 : -2147483648 ≤ (H1.1 1826 1) ∧ (H1.1 1826 1) ≤ 2147483647 := hrg12.1 1826 13 1 _ .int rfl rfl
      have e14 : (H1.1 1826 1) = (H.1 1826 1) := hf.2.2 1 (by decide)
      refine h_ige (off := 71) (t := 147) rfl rfl (by omega) (by omega) (fun c15 => ?_) (fun c15 => ?_)
      · refine h_run 2 (pc' := 25) (l' := [(0, .inr (.inr 1826)), (1, .inl (mo : Int)), (2, .inl al), (3, .inl ((n : Int) + 1)), (4, .inl (t : Int))]) (st' := []) rfl ?_
        refine h_loc [0, 1, 2, 3] rfl ?_
        rw [show ((n : Int) + 1) = (((n + 1) : Nat) : Int) by omega]
        exact ih.2.1 _ (n + 1) hf hVH1 (LV_next pw1 hL0 (by omega) hGH1 hDH1 hAH1 (by omega)) (by omega) (by omega : 50000000 - 50000 * (n + 1) < w)
      · refine h_run 2 (pc' := 81) (l' := [(0, .inr (.inr 1826)), (1, .inl (mo : Int)), (2, .inl al), (3, .inl (n : Int)), (4, .inl (t : Int))]) (st' := [.inl 1, .inl (n : Int)]) rfl ?_
        refine h_ine (off := 21) (t := 102) rfl rfl (by omega) (by decide) (fun c16 => ?_) (fun c16 => ?_)
        · refine h_run 2 (pc' := 105) (l' := [(0, .inr (.inr 1826)), (1, .inl (mo : Int)), (2, .inl al), (3, .inl (n : Int)), (4, .inl (t : Int)), (5, .inl 0)]) (st' := []) rfl ?_
          exact ih.2.2.2.2 _ n t _ _ 0 hf hVH1 hL0 hGH1 hFH1 hDH1 (fun h8 h9 => absurd h8 (by omega)) (by omega) (by omega) (by omega) (by omega : 50000000 - 50000 * n - 1000 - 100 * t - 10 - 0 < w)
        · refine h_run 1 (pc' := 85) (l' := [(0, .inr (.inr 1826)), (1, .inl (mo : Int)), (2, .inl al), (3, .inl (n : Int)), (4, .inl (t : Int))]) (st' := [.inl al]) rfl ?_
          refine h_zeq (off := 17) (t := 102) rfl rfl (by omega) (fun c17 => ?_) (fun c17 => ?_)
          · refine h_run 2 (pc' := 105) (l' := [(0, .inr (.inr 1826)), (1, .inl (mo : Int)), (2, .inl al), (3, .inl (n : Int)), (4, .inl (t : Int)), (5, .inl 0)]) (st' := []) rfl ?_
            exact ih.2.2.2.2 _ n t _ _ 0 hf hVH1 hL0 hGH1 hFH1 hDH1 (fun h8 h9 => absurd h9 (by omega)) (by omega) (by omega) (by omega) (by omega : 50000000 - 50000 * n - 1000 - 100 * t - 10 - 0 < w)
          · refine h_run 4 (pc' := 94) (l' := [(0, .inr (.inr 1826)), (1, .inl (mo : Int)), (2, .inl al), (3, .inl (n : Int)), (4, .inl (t : Int))]) (st' := [.inl 0, .inl 0, .inr (.inr 1856)]) rfl ?_
            refine h_ist (c := 1856) (j := 0) (i := 0) (x := 0) rfl rfl (by decide) (by decide) rfl (by omega) (by decide) ?_
            refine h_run 3 (pc' := 99) (l' := [(0, .inr (.inr 1826)), (1, .inl (mo : Int)), (2, .inl al), (3, .inl (n : Int)), (4, .inl (t : Int))]) (st' := [.inl 1, .inl (t : Int), .inr (.inr 1826)]) rfl ?_
            have hP9 : PWc (zu H1 1856 (up (H1.1 1856) 0 0)) := (PWc_a hPH1 (by decide))
            refine h_cv (i := 493) (j := 211) (b := 1826) (M' := mt_211) (xs := [.inl 1, .inl (t : Int)]) (rest := []) rfl rfl rfl rfl rfl rfl (Nat.le_of_ble_eq_true rfl) (Nat.le_of_ble_eq_true rfl) (by omega) (m_addValue (t := t) (n := 1) (by omega) hP9 (by omega : (t : Int) < (H1.1 1826 1)) (by decide) hVH1 (tm_zero (show up (H1.1 1856) 0 0 0 = 0 from up_eq _ _ _))) ?_
            rintro _ H18 ⟨rfl, hfH18, hVH18, hxH18, hnH18⟩
            refine h_rng (fun hrg19 => ?_)
            have hf20 : fr [53] [1856, 1861, 1862, 1863, 1865] H H18 := fr_t (fr_a hf (by decide)) hfH18 (by decide) (by decide)
            have hPH18 : PWc H18 := PWc_fr hP hf20 (by decide) (by decide)
            have cGH18 : (H18.1 1831) = (H.1 1831) := hf20.2.1 1831 (by decide) (by decide)
            have cAH18 : (H18.1 1830) = (H.1 1830) := hf20.2.1 1830 (by decide) (by decide)
            have fAH18 : (H18.1 1833) = (H.1 1833) := hf20.2.1 1833 (by decide) (by decide)
            have tyH18 : (H18.1 1826 1) = (H.1 1826 1) := hf20.2.2 1 (by decide)
            have cnH18 : (H18.1 1826 3) = (H.1 1826 3) := hf20.2.2 3 (by decide)
            have fnH18 : (H18.1 1826 8) = (H.1 1826 8) := hf20.2.2 8 (by decide)
            have cTH18 : (H18.1 1829) = (H.1 1829) := hf20.2.1 1829 (by decide) (by decide)
            have hx9 : VG (H.1 1826 1) (H1.1 1862) (H1.1 1863) (H18.1 1862) (H18.1 1863) t n := by rw [show n = 1 by omega, ← tyH1]; exact hxH18
            have hGH18 : GR (H.1 1826 1) vz0 vc0 (H18.1 1862) (H18.1 1863) n := GR_VG hGH1 hx9
            have hDH18 : DN (H.1 1826 3) (H.1 1829) (H.1 1830) (H.1 1831) vz0 vc0 (H18.1 1863) n t 0 := DN_g hDH1 (VG_le hx9)
            have hAH18 : AL al (H18.1 1863) n (t + 1) := AL_s (AL_g hAH1 (VG_le hx9)) hnH18
            have foH18 : (H18.1 1865) = (H1.1 1865) := hfH18.2.1 1865 (by decide) (by decide)
            have hFH18 : FE (H.1 1826 1) (H18.1 1865) vc0 n := by rw [foH18]; exact hFH1
            refine h_run 0 (pc' := 102) (l' := [(0, .inr (.inr 1826)), (1, .inl (mo : Int)), (2, .inl al), (3, .inl (n : Int)), (4, .inl (t : Int))]) (st' := []) rfl ?_
            refine h_run 2 (pc' := 105) (l' := [(0, .inr (.inr 1826)), (1, .inl (mo : Int)), (2, .inl al), (3, .inl (n : Int)), (4, .inl (t : Int)), (5, .inl 0)]) (st' := []) rfl ?_
            exact ih.2.2.2.2 _ n t _ _ 0 hf20 hVH18 hL0 hGH18 hFH18 hDH18 hAH18 (by omega) (by omega) (by omega) (by omega : 50000000 - 50000 * n - 1000 - 100 * t - 10 - 0 < w)
    · intro H1 n t vz0 vc0 c hf hVH1 hL0 hGH1 hFH1 hDH1 hAH1 hn ht hc hw
      refine h_rng (fun hrg21 => ?_)
      obtain ⟨⟨pb1, pb2, pb3, pb4, pb5⟩, pw1, pw2, pw3, pw4⟩ := (id hP : PW H (H.1 1826 1) (H.1 1826 3) (H.1 1826 8) (H.1 1826 13) (H.1 1826 19))
      have hPH1 : PWc H1 := PWc_fr hP hf (by decide) (by decide)
      have cGH1 : (H1.1 1831) = (H.1 1831) := hf.2.1 1831 (by decide) (by decide)
      have cAH1 : (H1.1 1830) = (H.1 1830) := hf.2.1 1830 (by decide) (by decide)
      have fAH1 : (H1.1 1833) = (H.1 1833) := hf.2.1 1833 (by decide) (by decide)
      have tyH1 : (H1.1 1826 1) = (H.1 1826 1) := hf.2.2 1 (by decide)
      have cnH1 : (H1.1 1826 3) = (H.1 1826 3) := hf.2.2 3 (by decide)
      have fnH1 : (H1.1 1826 8) = (H.1 1826 8) := hf.2.2 8 (by decide)
      have cTH1 : (H1.1 1829) = (H.1 1829) := hf.2.1 1829 (by decide) (by decide)
      refine h_run 3 (pc' := 111) (l' := [(0, .inr (.inr 1826)), (1, .inl (mo : Int)), (2, .inl al), (3, .inl (n : Int)), (4, .inl (t : Int)), (5, .inl (c : Int))]) (st' := [.inl (H1.1 1826 3), .inl (c : Int)]) rfl ?_
      have g22 : -2147483648 ≤ (H1.1 1826 3) ∧ (H1.1 1826 3) ≤ 2147483647 := hrg21.1 1826 13 3 _ .int rfl rfl
      have e23 : (H1.1 1826 3) = (H.1 1826 3) := hf.2.2 3 (by decide)
      refine h_ige (off := 30) (t := 141) rfl rfl (by omega) (by omega) (fun c24 => ?_) (fun c24 => ?_)
      · refine h_run 2 (pc' := 70) (l' := [(0, .inr (.inr 1826)), (1, .inl (mo : Int)), (2, .inl al), (3, .inl (n : Int)), (4, .inl ((t : Int) + 1)), (5, .inl (c : Int))]) (st' := []) rfl ?_
        refine h_loc [0, 1, 2, 3, 4] rfl ?_
        rw [show ((t : Int) + 1) = (((t + 1) : Nat) : Int) by omega]
        exact ih.2.2.2.1 _ n (t + 1) _ _ hf hVH1 hL0 hGH1 hFH1 (DN_t hDH1 (by omega)) hAH1 (by omega) (by omega) (by omega : 50000000 - 50000 * n - 1000 - 100 * (t + 1) < w)
      · have hcc : (c : Int) < (H.1 1826 3) := by omega
        have hcx := pw1 c hcc
        refine h_run 3 (pc' := 120) (l' := [(0, .inr (.inr 1826)), (1, .inl (mo : Int)), (2, .inl al), (3, .inl (n : Int)), (4, .inl (t : Int)), (5, .inl (c : Int))]) (st' := [.inl (c : Int), .inr (.inr 1829)]) rfl ?_
        refine h_ild (c := 1829) (j := c) (i := (c : Int)) rfl rfl (by decide) rfl (by omega) ?_
        have g25 : -2147483648 ≤ (H1.1 1829 c) ∧ (H1.1 1829 c) ≤ 2147483647 := hrg21.2 1829 c 16 .int rfl (by omega)
        have e26 : (H1.1 1829 c) = (H.1 1829 c) := congrFun (hf.2.1 1829 (by decide) (by decide)) c
        refine h_run 0 (pc' := 121) (l' := [(0, .inr (.inr 1826)), (1, .inl (mo : Int)), (2, .inl al), (3, .inl (n : Int)), (4, .inl (t : Int)), (5, .inl (c : Int))]) (st' := [.inl (H1.1 1829 c)]) rfl ?_
        refine h_run 1 (pc' := 123) (l' := [(0, .inr (.inr 1826)), (1, .inl (mo : Int)), (2, .inl al), (3, .inl (n : Int)), (4, .inl (t : Int)), (5, .inl (c : Int))]) (st' := [.inl (t : Int), .inl (H1.1 1829 c)]) rfl ?_
        refine h_ine (off := 12) (t := 135) rfl rfl (by omega) (by omega) (fun c27 => ?_) (fun c27 => ?_)
        · refine h_run 2 (pc' := 105) (l' := [(0, .inr (.inr 1826)), (1, .inl (mo : Int)), (2, .inl al), (3, .inl (n : Int)), (4, .inl (t : Int)), (5, .inl ((c : Int) + 1))]) (st' := []) rfl ?_
          rw [show ((c : Int) + 1) = (((c + 1) : Nat) : Int) by omega]
          exact ih.2.2.2.2 _ n t _ _ (c + 1) hf hVH1 hL0 hGH1 hFH1 (DN_c hDH1 (by have h9 := congrFun cTH1 c; omega)) hAH1 (by omega) (by omega) (by omega) (by omega : 50000000 - 50000 * n - 1000 - 100 * t - 10 - (c + 1) < w)
        · refine h_run 4 (pc' := 132) (l' := [(0, .inr (.inr 1826)), (1, .inl (mo : Int)), (2, .inl al), (3, .inl (n : Int)), (4, .inl (t : Int)), (5, .inl (c : Int))]) (st' := [.inl (n : Int), .inl (c : Int), .inl (t : Int), .inr (.inr 1826)]) rfl ?_
          refine h_cv (i := 496) (j := 215) (b := 1826) (M' := mt_215) (xs := [.inl (n : Int), .inl (c : Int), .inl (t : Int)]) (rest := []) rfl rfl rfl rfl rfl rfl (Nat.le_of_ble_eq_true rfl) (Nat.le_of_ble_eq_true rfl) (by omega) (m_makeCon (t := t) (c := c) (n := n) (by omega) hPH1 (by omega) (by omega) (by omega) hVH1 (by rw [tyH1]; exact FE_FO hFH1 hGH1)) ?_
          rintro _ H28 ⟨rfl, hfH28, hVH28, hxH28, hyH28⟩
          refine h_rng (fun hrg29 => ?_)
          have hf30 : fr [53] [1856, 1861, 1862, 1863, 1865] H H28 := fr_t hf hfH28 (by decide) (by decide)
          have hPH28 : PWc H28 := PWc_fr hP hf30 (by decide) (by decide)
          have cGH28 : (H28.1 1831) = (H.1 1831) := hf30.2.1 1831 (by decide) (by decide)
          have cAH28 : (H28.1 1830) = (H.1 1830) := hf30.2.1 1830 (by decide) (by decide)
          have fAH28 : (H28.1 1833) = (H.1 1833) := hf30.2.1 1833 (by decide) (by decide)
          have tyH28 : (H28.1 1826 1) = (H.1 1826 1) := hf30.2.2 1 (by decide)
          have cnH28 : (H28.1 1826 3) = (H.1 1826 3) := hf30.2.2 3 (by decide)
          have fnH28 : (H28.1 1826 8) = (H.1 1826 8) := hf30.2.2 8 (by decide)
          have cTH28 : (H28.1 1829) = (H.1 1829) := hf30.2.1 1829 (by decide) (by decide)
          have hx9 : VG (H.1 1826 1) (H1.1 1862) (H1.1 1863) (H28.1 1862) (H28.1 1863) t n := by rw [← tyH1]; exact hxH28
          have hGH28 : GR (H.1 1826 1) vz0 vc0 (H28.1 1862) (H28.1 1863) n := GR_VG hGH1 hx9
          have hy9 : CF vz0 vc0 (H.1 1830) (H.1 1831) c n → 0 < (H28.1 1863) t := fun h9 => hyH28 (by rw [cAH1, cGH1]; exact CF_HT pw1 hcc hGH1 hFH1 h9)
          have hDH28 : DN (H.1 1826 3) (H.1 1829) (H.1 1830) (H.1 1831) vz0 vc0 (H28.1 1863) n t (c + 1) := DN_h (DN_g hDH1 (VG_le hx9)) (by have h9 := congrFun cTH1 c; omega) hy9
          have hAH28 : AL al (H28.1 1863) n (t + 1) := AL_g hAH1 (VG_le hx9)
          have foH28 : (H28.1 1865) = (H1.1 1865) := hfH28.2.1 1865 (by decide) (by decide)
          have hFH28 : FE (H.1 1826 1) (H28.1 1865) vc0 n := by rw [foH28]; exact hFH1
          refine h_run 0 (pc' := 135) (l' := [(0, .inr (.inr 1826)), (1, .inl (mo : Int)), (2, .inl al), (3, .inl (n : Int)), (4, .inl (t : Int)), (5, .inl (c : Int))]) (st' := []) rfl ?_
          refine h_run 2 (pc' := 105) (l' := [(0, .inr (.inr 1826)), (1, .inl (mo : Int)), (2, .inl al), (3, .inl (n : Int)), (4, .inl (t : Int)), (5, .inl ((c : Int) + 1))]) (st' := []) rfl ?_
          rw [show ((c : Int) + 1) = (((c + 1) : Nat) : Int) by omega]
          exact ih.2.2.2.2 _ n t _ _ (c + 1) hf30 hVH28 hL0 hGH28 hFH28 hDH28 hAH28 (by omega) (by omega) (by omega) (by omega : 50000000 - 50000 * n - 1000 - 100 * t - 10 - (c + 1) < w)
set_option maxRecDepth 100000 in
theorem m_makeValues {zC : Nat → Option zsh} {d : Nat} (hd : 10 ≤ d) {H : hp} {mo : Nat} {al : Int} (hP : PWc H) (hm : 1 ≤ mo ∧ mo ≤ 6) (hal : 0 ≤ al ∧ al ≤ 1) : hG (zs zC) d mt_212 0 (zargs 0 [.inr (.inr 1826), .inl (mo : Int), .inl al]) [] H (fun r9 H2 => r9 = none ∧ fr [53] [1856, 1861, 1862, 1863, 1865] H H2 ∧ VK (H2.1 1826 1) (H2.1 1826 3) (H2.1 1826 8) (H2.1 1833) (H2.1 1830) (H2.1 1861) (H2.1 1862) (H2.1 1863) ∧ LV (H.1 1826 1) (H.1 1826 3) al (H.1 1829) (H.1 1830) (H.1 1831) (H2.1 1862) (H2.1 1863) (mo + 1)) := by
  refine h_rng (fun hrg0 => ?_)
  refine h_run 0 (pc' := 0) (l' := [(0, .inr (.inr 1826)), (1, .inl (mo : Int)), (2, .inl al)]) (st' := []) rfl ?_
  obtain ⟨⟨pb1, pb2, pb3, pb4, pb5⟩, pw1, pw2, pw3, pw4⟩ := (id hP : PW H (H.1 1826 1) (H.1 1826 3) (H.1 1826 8) (H.1 1826 13) (H.1 1826 19))
  refine h_run 2 (pc' := 2) (l' := [(0, .inr (.inr 1826)), (1, .inl (mo : Int)), (2, .inl al), (3, .inl 0)]) (st' := []) rfl ?_
  exact (m_makeValues_cut hd hP hm hal _).1 _ 0 (fr_rf _ _ _) (fun _ h9 => absurd h9 (Nat.not_lt_zero _)) (by omega) (Nat.lt_succ_self _)
