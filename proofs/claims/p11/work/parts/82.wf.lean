/-! what holds of the reference: all that texts told -/
def m_con (tn cn : Int) (cT cA cG : Nat → Int) : Prop := ∀ c : Nat, (c : Int) < cn → (0 ≤ cA c ∧ cA c ≤ 3) ∧ (0 ≤ cT c ∧ cT c < tn) ∧ ∀ i : Nat, (i : Int) < cA c → 0 ≤ cG (3 * c + i) ∧ cG (3 * c + i) < tn
def m_fun (tn fn : Int) (fA fG fT : Nat → Int) : Prop := ∀ f : Nat, (f : Int) < fn → (0 ≤ fA f ∧ fA f ≤ 4) ∧ (0 ≤ fT f ∧ fT f < tn) ∧ ∀ i : Nat, (i : Int) < fA f → 0 ≤ fG (4 * f + i) ∧ fG (4 * f + i) < tn
/-- signs of a term with vn variables; of a pattern -/
def m_sg (cn fn vn : Int) (s : Int) : Prop := s = 0 ∨ (1 ≤ s ∧ s ≤ cn) ∨ (100 ≤ s ∧ s < 100 + fn) ∨ (1000 ≤ s ∧ s < 1000 + vn)
def m_sp (cn : Int) (s : Int) : Prop := (1 ≤ s ∧ s ≤ cn) ∨ (1000 ≤ s ∧ s < 1040)
def m_rule (cn fn : Int) (fA cA rF rL rM rR rS : Nat → Int) (r : Nat) : Prop := ∃ f kl kr m : Nat, (rF r = f ∧ (f : Int) < fn) ∧ (rM r = kl ∧ kl ≤ 39) ∧ (rS r = kr ∧ kr ≤ 40) ∧ fA f = m ∧ tm (ma fA cA) (m_sp cn) rL kl (48 * r) m ∧ tm (ma fA cA) (m_sg cn fn 40) rR kr (48 * r) 1 ∧ ∀ x, x < kr → 1000 ≤ rR (48 * r + x) → ∃ y, y < kl ∧ rL (48 * r + y) = rR (48 * r + x)
def m_law (tn cn fn : Int) (fA cA lS lZ lV lT : Nat → Int) (l : Nat) : Prop := ∃ v : Nat, (lV l = v ∧ v ≤ 6) ∧ (∀ x, x < v → 0 ≤ lT (6 * l + x) ∧ lT (6 * l + x) < tn) ∧ ∀ s, s < 2 → ∃ k : Nat, (lZ (2 * l + s) = k ∧ k ≤ 40) ∧ tm (ma fA cA) (m_sg cn fn v) lS k (48 * (2 * l + s)) 1
def PW (H : hp) (tn cn fn rn ln : Int) : Prop := ((0 ≤ tn ∧ tn ≤ 6) ∧ (0 ≤ cn ∧ cn ≤ 16) ∧ (0 ≤ fn ∧ fn ≤ 16) ∧ (0 ≤ rn ∧ rn ≤ 40) ∧ (0 ≤ ln ∧ ln ≤ 16)) ∧ m_con tn cn (H.1 1829) (H.1 1830) (H.1 1831) ∧ m_fun tn fn (H.1 1833) (H.1 1834) (H.1 1835) ∧ (∀ r : Nat, (r : Int) < rn → m_rule cn fn (H.1 1833) (H.1 1830) (H.1 1836) (H.1 1837) (H.1 1838) (H.1 1839) (H.1 1840) r) ∧ ∀ l : Nat, (l : Int) < ln → m_law tn cn fn (H.1 1833) (H.1 1830) (H.1 1842) (H.1 1843) (H.1 1845) (H.1 1846) l
def PWc (H : hp) : Prop := PW H (H.1 1826 1) (H.1 1826 3) (H.1 1826 8) (H.1 1826 13) (H.1 1826 19)
/-- what was told stays: K is later than H -/
def agp (H K : hp) : Prop := ((H.1 1826 1) ≤ (K.1 1826 1) ∧ (H.1 1826 3) ≤ (K.1 1826 3) ∧ (H.1 1826 8) ≤ (K.1 1826 8) ∧ (H.1 1826 13) ≤ (K.1 1826 13) ∧ (H.1 1826 19) ≤ (K.1 1826 19)) ∧
  (∀ c : Nat, (c : Int) < (H.1 1826 3) → (K.1 1829) c = (H.1 1829) c ∧ (K.1 1830) c = (H.1 1830) c ∧ ∀ i, i < 3 → (K.1 1831) (3 * c + i) = (H.1 1831) (3 * c + i)) ∧
  (∀ f : Nat, (f : Int) < (H.1 1826 8) → (K.1 1833) f = (H.1 1833) f ∧ (K.1 1835) f = (H.1 1835) f ∧ ∀ i, i < 4 → (K.1 1834) (4 * f + i) = (H.1 1834) (4 * f + i)) ∧
  (∀ r : Nat, (r : Int) < (H.1 1826 13) → (K.1 1836) r = (H.1 1836) r ∧ (K.1 1838) r = (H.1 1838) r ∧ (K.1 1840) r = (H.1 1840) r ∧ ∀ i, i < 48 → (K.1 1837) (48 * r + i) = (H.1 1837) (48 * r + i) ∧ (K.1 1839) (48 * r + i) = (H.1 1839) (48 * r + i)) ∧
  ∀ l : Nat, (l : Int) < (H.1 1826 19) → (K.1 1845) l = (H.1 1845) l ∧ (∀ i, i < 6 → (K.1 1846) (6 * l + i) = (H.1 1846) (6 * l + i)) ∧ (∀ i, i < 2 → (K.1 1843) (2 * l + i) = (H.1 1843) (2 * l + i)) ∧ ∀ i, i < 96 → (K.1 1842) (96 * l + i) = (H.1 1842) (96 * l + i)
theorem agp_rf (H : hp) : agp H H := ⟨⟨Int.le_refl _, Int.le_refl _, Int.le_refl _, Int.le_refl _, Int.le_refl _⟩, fun _ _ => ⟨rfl, rfl, fun _ _ => rfl⟩, fun _ _ => ⟨rfl, rfl, fun _ _ => rfl⟩, fun _ _ => ⟨rfl, rfl, rfl, fun _ _ => ⟨rfl, rfl⟩⟩, fun _ _ => ⟨rfl, fun _ _ => rfl, fun _ _ => rfl, fun _ _ => rfl⟩⟩
theorem agp_tr {H K L : hp} (h1 : agp H K) (h2 : agp K L) : agp H L := by
  obtain ⟨⟨a1, a2, a3, a4, a5⟩, a6, a7, a8, a9⟩ := h1
  obtain ⟨⟨b1, b2, b3, b4, b5⟩, b6, b7, b8, b9⟩ := h2
  refine ⟨⟨Int.le_trans a1 b1, Int.le_trans a2 b2, Int.le_trans a3 b3, Int.le_trans a4 b4, Int.le_trans a5 b5⟩, fun c hc => ?_, fun f hf => ?_, fun r hr => ?_, fun l hl => ?_⟩
  · obtain ⟨x1, x2, x3⟩ := a6 c hc
    obtain ⟨y1, y2, y3⟩ := b6 c (by omega)
    exact ⟨y1.trans x1, y2.trans x2, fun i hi => (y3 i hi).trans (x3 i hi)⟩
  · obtain ⟨x1, x2, x3⟩ := a7 f hf
    obtain ⟨y1, y2, y3⟩ := b7 f (by omega)
    exact ⟨y1.trans x1, y2.trans x2, fun i hi => (y3 i hi).trans (x3 i hi)⟩
  · obtain ⟨x1, x2, x3, x4⟩ := a8 r hr
    obtain ⟨y1, y2, y3, y4⟩ := b8 r (by omega)
    exact ⟨y1.trans x1, y2.trans x2, y3.trans x3, fun i hi => ⟨(y4 i hi).1.trans (x4 i hi).1, (y4 i hi).2.trans (x4 i hi).2⟩⟩
  · obtain ⟨x1, x2, x3, x4⟩ := a9 l hl
    obtain ⟨y1, y2, y3, y4⟩ := b9 l (by omega)
    exact ⟨y1.trans x1, fun i hi => (y2 i hi).trans (x2 i hi), fun i hi => (y3 i hi).trans (x3 i hi), fun i hi => (y4 i hi).trans (x4 i hi)⟩
/-- nothing of it was touched -/
theorem agp_fr {ob ar : List Nat} {H K : hp} (h : fr ob ar H K) (h1 : ∀ c ∈ [1829, 1830, 1831, 1833, 1834, 1835, 1836, 1837, 1838, 1839, 1840, 1842, 1843, 1845, 1846], c ∉ ar) (h2 : ∀ j ∈ [1, 3, 8, 13, 19], j ∉ ob) : agp H K := by
  have e : ∀ c ∈ [1829, 1830, 1831, 1833, 1834, 1835, 1836, 1837, 1838, 1839, 1840, 1842, 1843, 1845, 1846], c ≠ 1826 → K.1 c = H.1 c := fun c hc hn => h.2.1 c hn (h1 c hc)
  have g : ∀ j ∈ [1, 3, 8, 13, 19], K.1 1826 j = H.1 1826 j := fun j hj => h.2.2 j (h2 j hj)
  unfold agp
  rw [e 1829 (by decide) (by decide), e 1830 (by decide) (by decide), e 1831 (by decide) (by decide), e 1833 (by decide) (by decide), e 1834 (by decide) (by decide), e 1835 (by decide) (by decide), e 1836 (by decide) (by decide), e 1837 (by decide) (by decide), e 1838 (by decide) (by decide), e 1839 (by decide) (by decide), e 1840 (by decide) (by decide), e 1842 (by decide) (by decide), e 1843 (by decide) (by decide), e 1845 (by decide) (by decide), e 1846 (by decide) (by decide), g 1 (by decide), g 3 (by decide), g 8 (by decide), g 13 (by decide), g 19 (by decide)]
  exact agp_rf H
theorem m_sg_mono {cn fn vn cn' fn' vn' : Int} (h1 : cn ≤ cn') (h2 : fn ≤ fn') (h3 : vn ≤ vn') {s : Int} (h : m_sg cn fn vn s) : m_sg cn' fn' vn' s := by
  unfold m_sg at h ⊢
  omega
theorem m_sp_mono {cn cn' : Int} (h1 : cn ≤ cn') {s : Int} (h : m_sp cn s) : m_sp cn' s := by
  unfold m_sp at h ⊢
  omega
theorem ma_eq {fA cA fA' cA' : Nat → Int} {cn fn : Int} (hc : ∀ c : Nat, (c : Int) < cn → cA' c = cA c) (hf : ∀ f : Nat, (f : Int) < fn → fA' f = fA f) {s : Int} (h : 1000 ≤ s ∨ s = 0 ∨ (1 ≤ s ∧ s ≤ cn ∧ s < 100) ∨ (100 ≤ s ∧ s < 100 + fn)) : ma fA' cA' s = ma fA cA s := by
  rcases h with h | h | h | h
  · rw [ma_0 (Or.inl h), ma_0 (Or.inl h)]
  · rw [ma_0 (Or.inr h), ma_0 (Or.inr h)]
  · rw [ma_c (by omega), ma_c (by omega)]
    exact hc _ (by omega)
  · by_cases h2 : 1000 ≤ s
    · rw [ma_0 (Or.inl h2), ma_0 (Or.inl h2)]
    · rw [ma_f (by omega), ma_f (by omega)]
      exact hf _ (by omega)
theorem m_rule_mono {cn fn cn' fn' : Int} {fA cA rF rL rM rR rS fA' cA' rF' rL' rM' rR' rS' : Nat → Int} {r : Nat} (h16 : cn ≤ 16) (h1 : cn ≤ cn') (h2 : fn ≤ fn') (hc : ∀ c : Nat, (c : Int) < cn → cA' c = cA c) (hf : ∀ f : Nat, (f : Int) < fn → fA' f = fA f) (e1 : rF' r = rF r) (e2 : rM' r = rM r) (e3 : rS' r = rS r) (e4 : ∀ i, i < 48 → rL' (48 * r + i) = rL (48 * r + i) ∧ rR' (48 * r + i) = rR (48 * r + i)) (h : m_rule cn fn fA cA rF rL rM rR rS r) : m_rule cn' fn' fA' cA' rF' rL' rM' rR' rS' r := by
  obtain ⟨f, kl, kr, m, ⟨a1, a2⟩, ⟨a3, a4⟩, ⟨a5, a6⟩, a7, a8, a9, a10⟩ := h
  refine ⟨f, kl, kr, m, ⟨e1.trans a1, by omega⟩, ⟨e2.trans a3, a4⟩, ⟨e3.trans a5, a6⟩, (hf f a2).trans a7, tm_mono a8 (fun j hj hj2 ho => ?_), tm_mono a9 (fun j hj hj2 ho => ?_), fun x hx hs => ?_⟩
  · obtain ⟨i, rfl⟩ : ∃ i, j = 48 * r + i := ⟨j - 48 * r, by omega⟩
    refine ⟨(e4 i (by omega)).1, m_sp_mono h1 ho, ma_eq hc hf ?_⟩
    unfold m_sp at ho
    omega
  · obtain ⟨i, rfl⟩ : ∃ i, j = 48 * r + i := ⟨j - 48 * r, by omega⟩
    refine ⟨(e4 i (by omega)).2, m_sg_mono h1 h2 (Int.le_refl _) ho, ma_eq hc hf ?_⟩
    unfold m_sg at ho
    omega
  · rw [(e4 x (by omega)).2] at hs ⊢
    obtain ⟨y, hy, e⟩ := a10 x hx hs
    exact ⟨y, hy, by rw [(e4 y (by omega)).1]; exact e⟩
theorem m_law_mono {tn cn fn tn' cn' fn' : Int} {fA cA lS lZ lV lT fA' cA' lS' lZ' lV' lT' : Nat → Int} {l : Nat} (h16 : cn ≤ 16) (h0 : tn ≤ tn') (h1 : cn ≤ cn') (h2 : fn ≤ fn') (hc : ∀ c : Nat, (c : Int) < cn → cA' c = cA c) (hf : ∀ f : Nat, (f : Int) < fn → fA' f = fA f) (e1 : lV' l = lV l) (e2 : ∀ i, i < 6 → lT' (6 * l + i) = lT (6 * l + i)) (e3 : ∀ i, i < 2 → lZ' (2 * l + i) = lZ (2 * l + i)) (e4 : ∀ i, i < 96 → lS' (96 * l + i) = lS (96 * l + i)) (h : m_law tn cn fn fA cA lS lZ lV lT l) : m_law tn' cn' fn' fA' cA' lS' lZ' lV' lT' l := by
  obtain ⟨v, ⟨a1, a2⟩, a3, a4⟩ := h
  refine ⟨v, ⟨e1.trans a1, a2⟩, fun x hx => ?_, fun s hs => ?_⟩
  · rw [e2 x (by omega)]
    have := a3 x hx
    omega
  · obtain ⟨k, ⟨b1, b2⟩, b3⟩ := a4 s hs
    refine ⟨k, ⟨(e3 s hs).trans b1, b2⟩, tm_mono b3 (fun j hj hj2 ho => ?_)⟩
    obtain ⟨i, rfl⟩ : ∃ i, j = 96 * l + i := ⟨j - 96 * l, by omega⟩
    refine ⟨e4 i (by omega), m_sg_mono h1 h2 (Int.le_refl _) ho, ma_eq hc hf ?_⟩
    unfold m_sg at ho
    omega
/-- what was told holds later, too -/
theorem PW_agp {H K : hp} {tn cn fn rn ln : Int} (h : PW H tn cn fn rn ln) (g : agp H K) (l2 : cn ≤ (H.1 1826 3)) (l3 : fn ≤ (H.1 1826 8)) (l4 : rn ≤ (H.1 1826 13)) (l5 : ln ≤ (H.1 1826 19)) : PW K tn cn fn rn ln := by
  obtain ⟨hb, h1, h2, h3, h4⟩ := h
  obtain ⟨-, g1, g2, g3, g4⟩ := g
  have hc : ∀ c : Nat, (c : Int) < cn → (K.1 1830) c = (H.1 1830) c := fun c hc => (g1 c (by omega)).2.1
  have hf : ∀ f : Nat, (f : Int) < fn → (K.1 1833) f = (H.1 1833) f := fun f hf => (g2 f (by omega)).1
  refine ⟨hb, fun c hc => ?_, fun f hf => ?_, fun r hr => ?_, fun l hl => ?_⟩
  · obtain ⟨x1, x2, x3⟩ := g1 c (by omega)
    obtain ⟨y1, y2, y3⟩ := h1 c hc
    rw [x1, x2]
    exact ⟨y1, y2, fun i hi => by rw [x3 i (by omega)]; exact y3 i hi⟩
  · obtain ⟨x1, x2, x3⟩ := g2 f (by omega)
    obtain ⟨y1, y2, y3⟩ := h2 f hf
    rw [x1, x2]
    exact ⟨y1, y2, fun i hi => by rw [x3 i (by omega)]; exact y3 i hi⟩
  · obtain ⟨x1, x2, x3, x4⟩ := g3 r (by omega)
    exact m_rule_mono (by omega) (Int.le_refl _) (Int.le_refl _) hc hf x1 x2 x3 x4 (h3 r hr)
  · obtain ⟨x1, x2, x3, x4⟩ := g4 l (by omega)
    exact m_law_mono (by omega) (Int.le_refl _) (Int.le_refl _) (Int.le_refl _) hc hf x1 x2 x3 x4 (h4 l hl)
/-- with more types, constructors, functions -/
theorem PW_more {H K : hp} (h : PWc H) (g : agp H K) (b : ((K.1 1826 1) ≤ 6) ∧ (K.1 1826 3) ≤ 16 ∧ (K.1 1826 8) ≤ 16) (k1 : m_con (K.1 1826 1) (K.1 1826 3) (K.1 1829) (K.1 1830) (K.1 1831)) (k2 : m_fun (K.1 1826 1) (K.1 1826 8) (K.1 1833) (K.1 1834) (K.1 1835)) (k3 : (K.1 1826 13) = (H.1 1826 13)) (k4 : (K.1 1826 19) = (H.1 1826 19)) : PWc K := by
  have g0 := g
  obtain ⟨⟨b1, b2, b3, b4, b5⟩, -, -, h3, h4⟩ := h
  obtain ⟨⟨c1, c2, c3, c4, c5⟩, g1, g2, g3, g4⟩ := g
  refine ⟨by omega, k1, k2, fun r hr => ?_, fun l hl => ?_⟩
  · obtain ⟨x1, x2, x3, x4⟩ := g3 r (by omega)
    exact m_rule_mono (by omega) c2 c3 (fun c hc => (g1 c hc).2.1) (fun f hf => (g2 f hf).1) x1 x2 x3 x4 (h3 r (by omega))
  · obtain ⟨x1, x2, x3, x4⟩ := g4 l (by omega)
    exact m_law_mono (by omega) c1 c2 c3 (fun c hc => (g1 c hc).2.1) (fun f hf => (g2 f hf).1) x1 x2 x3 x4 (h4 l (by omega))
theorem m_con_agp {H K : hp} (h : m_con (H.1 1826 1) (H.1 1826 3) (H.1 1829) (H.1 1830) (H.1 1831)) (g : agp H K) (e : (K.1 1826 3) = (H.1 1826 3)) : m_con (K.1 1826 1) (K.1 1826 3) (K.1 1829) (K.1 1830) (K.1 1831) := by
  obtain ⟨⟨c1, -⟩, g1, -⟩ := g
  intro c hc
  obtain ⟨x1, x2, x3⟩ := g1 c (by omega)
  obtain ⟨y1, y2, y3⟩ := h c (by omega)
  rw [x1, x2]
  exact ⟨y1, by omega, fun i hi => by rw [x3 i (by omega)]; have := y3 i hi; omega⟩
theorem m_fun_agp {H K : hp} (h : m_fun (H.1 1826 1) (H.1 1826 8) (H.1 1833) (H.1 1834) (H.1 1835)) (g : agp H K) (e : (K.1 1826 8) = (H.1 1826 8)) : m_fun (K.1 1826 1) (K.1 1826 8) (K.1 1833) (K.1 1834) (K.1 1835) := by
  obtain ⟨⟨c1, -⟩, -, g2, -⟩ := g
  intro c hc
  obtain ⟨x1, x2, x3⟩ := g2 c (by omega)
  obtain ⟨y1, y2, y3⟩ := h c (by omega)
  rw [x1, x2]
  exact ⟨y1, by omega, fun i hi => by rw [x3 i (by omega)]; have := y3 i hi; omega⟩
theorem agp_o {H H1 : hp} {k : Nat} {z : Int} (h : agp H H1) (hk : k ∉ [1, 3, 8, 13, 19]) : agp H (zu H1 1826 (up (H1.1 1826) k z)) := by
  refine agp_tr h (agp_fr (fr_o (fr_rf [k] [] H1) (List.mem_singleton.mpr rfl)) (fun c _ => List.not_mem_nil) (fun j hj q => ?_))
  rw [List.mem_singleton.mp q] at hj
  exact hk hj
theorem agp_a {H H1 : hp} {c : Nat} {f : Nat → Int} (h : agp H H1) (hk : c ∉ [1829, 1830, 1831, 1833, 1834, 1835, 1836, 1837, 1838, 1839, 1840, 1842, 1843, 1845, 1846] ∧ c ≠ 1826) : agp H (zu H1 c f) := by
  refine agp_tr h (agp_fr (ob := []) (ar := [c]) ⟨rfl, fun k _ hr => zu_ne _ _ (fun e => hr (List.mem_singleton.mpr e)), fun j _ => by rw [zu_ne _ _ (fun e => hk.2 e.symm)]⟩ (fun k hk2 q => ?_) (fun _ _ => List.not_mem_nil))
  rw [List.mem_singleton.mp q] at hk2
  exact hk.1 hk2
theorem agp_n1 {H H1 : hp} {z : Int} (h : agp H H1) (hz : (H.1 1826 1) ≤ z) : agp H (zu H1 1826 (up (H1.1 1826) 1 z)) := by
  obtain ⟨g0, g1, g2, g3, g4⟩ := h
  exact ⟨⟨hz, g0.2.1, g0.2.2.1, g0.2.2.2.1, g0.2.2.2.2⟩, g1, g2, g3, g4⟩
theorem agp_n3 {H H1 : hp} {z : Int} (h : agp H H1) (hz : (H.1 1826 3) ≤ z) : agp H (zu H1 1826 (up (H1.1 1826) 3 z)) := by
  obtain ⟨g0, g1, g2, g3, g4⟩ := h
  exact ⟨⟨g0.1, hz, g0.2.2.1, g0.2.2.2.1, g0.2.2.2.2⟩, g1, g2, g3, g4⟩
theorem agp_n8 {H H1 : hp} {z : Int} (h : agp H H1) (hz : (H.1 1826 8) ≤ z) : agp H (zu H1 1826 (up (H1.1 1826) 8 z)) := by
  obtain ⟨g0, g1, g2, g3, g4⟩ := h
  exact ⟨⟨g0.1, g0.2.1, hz, g0.2.2.2.1, g0.2.2.2.2⟩, g1, g2, g3, g4⟩
theorem agp_n13 {H H1 : hp} {z : Int} (h : agp H H1) (hz : (H.1 1826 13) ≤ z) : agp H (zu H1 1826 (up (H1.1 1826) 13 z)) := by
  obtain ⟨g0, g1, g2, g3, g4⟩ := h
  exact ⟨⟨g0.1, g0.2.1, g0.2.2.1, hz, g0.2.2.2.2⟩, g1, g2, g3, g4⟩
theorem agp_n19 {H H1 : hp} {z : Int} (h : agp H H1) (hz : (H.1 1826 19) ≤ z) : agp H (zu H1 1826 (up (H1.1 1826) 19 z)) := by
  obtain ⟨g0, g1, g2, g3, g4⟩ := h
  exact ⟨⟨g0.1, g0.2.1, g0.2.2.1, g0.2.2.2.1, hz⟩, g1, g2, g3, g4⟩
theorem agp_1829 {H H1 : hp} {j : Nat} {z : Int} (h : agp H H1) (hj : (H.1 1826 3) ≤ (j : Int)) : agp H (zu H1 1829 (up (H1.1 1829) j z)) := by
  obtain ⟨g0, g1, g2, g3, g4⟩ := h
  exact ⟨g0, fun k hk => ⟨(show up (H1.1 1829) j z (k) = H.1 1829 (k) from (up_ne _ _ (by omega)).trans ((g1 k hk).1)), (g1 k hk).2.1, (g1 k hk).2.2⟩, g2, g3, g4⟩
theorem agp_1830 {H H1 : hp} {j : Nat} {z : Int} (h : agp H H1) (hj : (H.1 1826 3) ≤ (j : Int)) : agp H (zu H1 1830 (up (H1.1 1830) j z)) := by
  obtain ⟨g0, g1, g2, g3, g4⟩ := h
  exact ⟨g0, fun k hk => ⟨(g1 k hk).1, (show up (H1.1 1830) j z (k) = H.1 1830 (k) from (up_ne _ _ (by omega)).trans ((g1 k hk).2.1)), (g1 k hk).2.2⟩, g2, g3, g4⟩
theorem agp_1831 {H H1 : hp} {j : Nat} {z : Int} (h : agp H H1) (hj : 3 * (H.1 1826 3) ≤ (j : Int)) : agp H (zu H1 1831 (up (H1.1 1831) j z)) := by
  obtain ⟨g0, g1, g2, g3, g4⟩ := h
  exact ⟨g0, fun k hk => ⟨(g1 k hk).1, (g1 k hk).2.1, fun i hi => (show up (H1.1 1831) j z (3 * k + i) = H.1 1831 (3 * k + i) from (up_ne _ _ (by omega)).trans ((g1 k hk).2.2 i hi))⟩, g2, g3, g4⟩
theorem agp_1833 {H H1 : hp} {j : Nat} {z : Int} (h : agp H H1) (hj : (H.1 1826 8) ≤ (j : Int)) : agp H (zu H1 1833 (up (H1.1 1833) j z)) := by
  obtain ⟨g0, g1, g2, g3, g4⟩ := h
  exact ⟨g0, g1, fun k hk => ⟨(show up (H1.1 1833) j z (k) = H.1 1833 (k) from (up_ne _ _ (by omega)).trans ((g2 k hk).1)), (g2 k hk).2.1, (g2 k hk).2.2⟩, g3, g4⟩
theorem agp_1835 {H H1 : hp} {j : Nat} {z : Int} (h : agp H H1) (hj : (H.1 1826 8) ≤ (j : Int)) : agp H (zu H1 1835 (up (H1.1 1835) j z)) := by
  obtain ⟨g0, g1, g2, g3, g4⟩ := h
  exact ⟨g0, g1, fun k hk => ⟨(g2 k hk).1, (show up (H1.1 1835) j z (k) = H.1 1835 (k) from (up_ne _ _ (by omega)).trans ((g2 k hk).2.1)), (g2 k hk).2.2⟩, g3, g4⟩
theorem agp_1834 {H H1 : hp} {j : Nat} {z : Int} (h : agp H H1) (hj : 4 * (H.1 1826 8) ≤ (j : Int)) : agp H (zu H1 1834 (up (H1.1 1834) j z)) := by
  obtain ⟨g0, g1, g2, g3, g4⟩ := h
  exact ⟨g0, g1, fun k hk => ⟨(g2 k hk).1, (g2 k hk).2.1, fun i hi => (show up (H1.1 1834) j z (4 * k + i) = H.1 1834 (4 * k + i) from (up_ne _ _ (by omega)).trans ((g2 k hk).2.2 i hi))⟩, g3, g4⟩
theorem agp_1836 {H H1 : hp} {j : Nat} {z : Int} (h : agp H H1) (hj : (H.1 1826 13) ≤ (j : Int)) : agp H (zu H1 1836 (up (H1.1 1836) j z)) := by
  obtain ⟨g0, g1, g2, g3, g4⟩ := h
  exact ⟨g0, g1, g2, fun k hk => ⟨(show up (H1.1 1836) j z (k) = H.1 1836 (k) from (up_ne _ _ (by omega)).trans ((g3 k hk).1)), (g3 k hk).2⟩, g4⟩
theorem agp_1838 {H H1 : hp} {j : Nat} {z : Int} (h : agp H H1) (hj : (H.1 1826 13) ≤ (j : Int)) : agp H (zu H1 1838 (up (H1.1 1838) j z)) := by
  obtain ⟨g0, g1, g2, g3, g4⟩ := h
  exact ⟨g0, g1, g2, fun k hk => ⟨(g3 k hk).1, (show up (H1.1 1838) j z (k) = H.1 1838 (k) from (up_ne _ _ (by omega)).trans ((g3 k hk).2.1)), (g3 k hk).2.2⟩, g4⟩
theorem agp_1840 {H H1 : hp} {j : Nat} {z : Int} (h : agp H H1) (hj : (H.1 1826 13) ≤ (j : Int)) : agp H (zu H1 1840 (up (H1.1 1840) j z)) := by
  obtain ⟨g0, g1, g2, g3, g4⟩ := h
  exact ⟨g0, g1, g2, fun k hk => ⟨(g3 k hk).1, (g3 k hk).2.1, (show up (H1.1 1840) j z (k) = H.1 1840 (k) from (up_ne _ _ (by omega)).trans ((g3 k hk).2.2.1)), (g3 k hk).2.2.2⟩, g4⟩
theorem agp_1837 {H H1 : hp} {j : Nat} {z : Int} (h : agp H H1) (hj : 48 * (H.1 1826 13) ≤ (j : Int)) : agp H (zu H1 1837 (up (H1.1 1837) j z)) := by
  obtain ⟨g0, g1, g2, g3, g4⟩ := h
  exact ⟨g0, g1, g2, fun k hk => ⟨(g3 k hk).1, (g3 k hk).2.1, (g3 k hk).2.2.1, fun i hi => ⟨(show up (H1.1 1837) j z (48 * k + i) = H.1 1837 (48 * k + i) from (up_ne _ _ (by omega)).trans (((g3 k hk).2.2.2 i hi).1)), ((g3 k hk).2.2.2 i hi).2⟩⟩, g4⟩
theorem agp_1839 {H H1 : hp} {j : Nat} {z : Int} (h : agp H H1) (hj : 48 * (H.1 1826 13) ≤ (j : Int)) : agp H (zu H1 1839 (up (H1.1 1839) j z)) := by
  obtain ⟨g0, g1, g2, g3, g4⟩ := h
  exact ⟨g0, g1, g2, fun k hk => ⟨(g3 k hk).1, (g3 k hk).2.1, (g3 k hk).2.2.1, fun i hi => ⟨((g3 k hk).2.2.2 i hi).1, (show up (H1.1 1839) j z (48 * k + i) = H.1 1839 (48 * k + i) from (up_ne _ _ (by omega)).trans (((g3 k hk).2.2.2 i hi).2))⟩⟩, g4⟩
theorem agp_1845 {H H1 : hp} {j : Nat} {z : Int} (h : agp H H1) (hj : (H.1 1826 19) ≤ (j : Int)) : agp H (zu H1 1845 (up (H1.1 1845) j z)) := by
  obtain ⟨g0, g1, g2, g3, g4⟩ := h
  exact ⟨g0, g1, g2, g3, fun k hk => ⟨(show up (H1.1 1845) j z (k) = H.1 1845 (k) from (up_ne _ _ (by omega)).trans ((g4 k hk).1)), (g4 k hk).2⟩⟩
theorem agp_1846 {H H1 : hp} {j : Nat} {z : Int} (h : agp H H1) (hj : 6 * (H.1 1826 19) ≤ (j : Int)) : agp H (zu H1 1846 (up (H1.1 1846) j z)) := by
  obtain ⟨g0, g1, g2, g3, g4⟩ := h
  exact ⟨g0, g1, g2, g3, fun k hk => ⟨(g4 k hk).1, fun i hi => (show up (H1.1 1846) j z (6 * k + i) = H.1 1846 (6 * k + i) from (up_ne _ _ (by omega)).trans ((g4 k hk).2.1 i hi)), (g4 k hk).2.2⟩⟩
theorem agp_1843 {H H1 : hp} {j : Nat} {z : Int} (h : agp H H1) (hj : 2 * (H.1 1826 19) ≤ (j : Int)) : agp H (zu H1 1843 (up (H1.1 1843) j z)) := by
  obtain ⟨g0, g1, g2, g3, g4⟩ := h
  exact ⟨g0, g1, g2, g3, fun k hk => ⟨(g4 k hk).1, (g4 k hk).2.1, fun i hi => (show up (H1.1 1843) j z (2 * k + i) = H.1 1843 (2 * k + i) from (up_ne _ _ (by omega)).trans ((g4 k hk).2.2.1 i hi)), (g4 k hk).2.2.2⟩⟩
theorem agp_1842 {H H1 : hp} {j : Nat} {z : Int} (h : agp H H1) (hj : 96 * (H.1 1826 19) ≤ (j : Int)) : agp H (zu H1 1842 (up (H1.1 1842) j z)) := by
  obtain ⟨g0, g1, g2, g3, g4⟩ := h
  exact ⟨g0, g1, g2, g3, fun k hk => ⟨(g4 k hk).1, (g4 k hk).2.1, (g4 k hk).2.2.1, fun i hi => (show up (H1.1 1842) j z (96 * k + i) = H.1 1842 (96 * k + i) from (up_ne _ _ (by omega)).trans ((g4 k hk).2.2.2 i hi))⟩⟩
theorem m_con_new {tn cn t : Int} {cT cA cG : Nat → Int} {c : Nat} (h : m_con tn cn cT cA cG) (hc : cn = c) (ht : 0 ≤ t ∧ t < tn) : m_con tn (cn + 1) (up cT c t) (up cA c 0) cG := by
  intro k hk
  by_cases e : k = c
  · subst e
    rw [up_eq, up_eq]
    exact ⟨by omega, ht, fun i hi => absurd hi (by omega)⟩
  · rw [up_ne _ _ e, up_ne _ _ e]
    exact h k (by omega)
theorem m_con_arg {tn cn t a : Int} {cT cA cG : Nat → Int} {c j : Nat} (h : m_con tn cn cT cA cG) (hc : (c : Int) < cn) (ha : cA c = a) (ha2 : a ≤ 2) (hj : (j : Int) = 3 * c + a) (ht : 0 ≤ t ∧ t < tn) : m_con tn cn cT (up cA c (a + 1)) (up cG j t) := by
  have hc0 := h c hc
  intro k hk
  obtain ⟨h1, h2, h3⟩ := h k hk
  by_cases e : k = c
  · subst e
    rw [up_eq]
    refine ⟨by omega, h2, fun i hi => ?_⟩
    by_cases e2 : 3 * k + i = j
    · rw [e2, up_eq]
      exact ht
    · rw [up_ne _ _ e2]
      exact h3 i (by omega)
  · rw [up_ne _ _ e]
    refine ⟨h1, h2, fun i hi => ?_⟩
    rw [up_ne _ _ (by omega)]
    exact h3 i hi
theorem m_fun_arg {tn fn t a : Int} {fA fG fT : Nat → Int} {c j : Nat} (h : m_fun tn fn fA fG fT) (hc : fn ≤ (c : Int)) (hj : 4 * fn ≤ (j : Int)) : m_fun tn fn (up fA c a) (up fG j t) fT := by
  intro k hk
  obtain ⟨h1, h2, h3⟩ := h k hk
  rw [up_ne _ _ (by omega)]
  exact ⟨h1, h2, fun i hi => by rw [up_ne _ _ (by omega)]; exact h3 i hi⟩
theorem PWc_fr {ob ar : List Nat} {H K : hp} (h : PWc H) (f : fr ob ar H K) (h1 : ∀ c ∈ [1829, 1830, 1831, 1833, 1834, 1835, 1836, 1837, 1838, 1839, 1840, 1842, 1843, 1845, 1846], c ∉ ar) (h2 : ∀ j ∈ [1, 3, 8, 13, 19], j ∉ ob) : PWc K := by
  have g : ∀ j ∈ [1, 3, 8, 13, 19], K.1 1826 j = H.1 1826 j := fun j hj => f.2.2 j (h2 j hj)
  unfold PWc
  rw [g 1 (by decide), g 3 (by decide), g 8 (by decide), g 13 (by decide), g 19 (by decide)]
  exact PW_agp h (agp_fr f h1 h2) (Int.le_refl _) (Int.le_refl _) (Int.le_refl _) (Int.le_refl _)
theorem m_fun_fin {tn tn0 fn t : Int} {fA fG fT fA0 fG0 fT0 : Nat → Int} {c : Nat} (h : m_fun tn0 fn fA0 fG0 fT0) (g : ∀ f : Nat, (f : Int) < fn → fA f = fA0 f ∧ fT f = fT0 f ∧ ∀ i, i < 4 → fG (4 * f + i) = fG0 (4 * f + i)) (htn : tn0 ≤ tn) (hc : fn = c) (ha : 0 ≤ fA c ∧ fA c ≤ 4) (hg : ∀ i : Nat, (i : Int) < fA c → 0 ≤ fG (4 * c + i) ∧ fG (4 * c + i) < tn) (ht : 0 ≤ t ∧ t < tn) : m_fun tn (fn + 1) fA fG (up fT c t) := by
  intro k hk
  by_cases e : k = c
  · subst e
    rw [up_eq]
    exact ⟨ha, ht, hg⟩
  · rw [up_ne _ _ e]
    obtain ⟨x1, x2, x3⟩ := g k (by omega)
    obtain ⟨y1, y2, y3⟩ := h k (by omega)
    rw [x1, x2]
    exact ⟨y1, by omega, fun i hi => by rw [x3 i (by omega)]; have := y3 i hi; omega⟩
theorem m_garg {fG : Nat → Int} {c j : Nat} {a t tn : Int} (h : ∀ i : Nat, (i : Int) < a → 0 ≤ fG (4 * c + i) ∧ fG (4 * c + i) < tn) (hj : (j : Int) = 4 * c + a) (ht : 0 ≤ t ∧ t < tn) : ∀ i : Nat, (i : Int) < a + 1 → 0 ≤ up fG j t (4 * c + i) ∧ up fG j t (4 * c + i) < tn := by
  intro i hi
  by_cases e : 4 * c + i = j
  · rw [e, up_eq]
    exact ht
  · rw [up_ne _ _ e]
    exact h i (by omega)
