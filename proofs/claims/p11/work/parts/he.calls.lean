/-! both have read the same: calls leave it -/
/-- the reference's tables and bytes are the same -/
def ft (H K : hp) : Prop := (∀ c ∈ 1848 :: [1827, 1828, 1829, 1830, 1831, 1832, 1833, 1834, 1835, 1841, 1836, 1837, 1838, 1839, 1840, 1842, 1843, 1845, 1846], K.1 c = H.1 c) ∧ ∀ j ∈ [1, 3, 8, 13, 19], K.1 1826 j = H.1 1826 j
theorem ft_rf (H : hp) : ft H H := ⟨fun _ _ => rfl, fun _ _ => rfl⟩
theorem ft_fr {ob ar : List Nat} {H K : hp} (f : fr ob ar H K) (h1 : ∀ c ∈ 1848 :: [1827, 1828, 1829, 1830, 1831, 1832, 1833, 1834, 1835, 1841, 1836, 1837, 1838, 1839, 1840, 1842, 1843, 1845, 1846], c ∉ ar) (h2 : ∀ j ∈ [1, 3, 8, 13, 19], j ∉ ob) : ft H K := ⟨fun c hc => f.2.1 c (fun e => by rw [e] at hc; exact absurd hc (by decide)) (h1 c hc), fun j hj => f.2.2 j (h2 j hj)⟩
theorem TA_same {m : Int} {H K : hp} {X : rx} (h : TA m H X) (f : ft H K) : TA m K X := by
  have e : ∀ c ∈ [1827, 1828, 1829, 1830, 1831, 1832, 1833, 1834, 1835, 1841, 1836, 1837, 1838, 1839, 1840, 1842, 1843, 1845, 1846], K.1 c = H.1 c := fun c hc => f.1 c (List.mem_cons_of_mem _ hc)
  unfold TA A1 A2 A3 A4 TF
  rw [e 1827 (by decide), e 1828 (by decide), e 1829 (by decide), e 1830 (by decide), e 1831 (by decide), e 1832 (by decide), e 1833 (by decide), e 1834 (by decide), e 1835 (by decide), e 1841 (by decide), f.2 1 (by decide), f.2 3 (by decide), f.2 8 (by decide), f.2 13 (by decide), f.2 19 (by decide)]
  exact h
theorem TC_cl {H K : hp} {X : rx} (h : TC H X) (g : cl H K) : TC K X := by
  have e : ∀ c, c < 1826 → K.1 c = H.1 c := g.2
  obtain ⟨a, b, c, d, q⟩ := h
  unfold TC
  rw [e 8 (by decide), e 13 (by decide), e 18 (by decide), e 7 (by decide), e 9 (by decide), e 14 (by decide), e 15 (by decide), e 16 (by decide), e 17 (by decide), e 19 (by decide), e 20 (by decide), e 21 (by decide), e 22 (by decide)]
  refine ⟨a, b, c, d, fun l hl hk => ?_⟩
  rw [e _ (by omega)]
  exact q l hl hk
theorem ER_cl {H K : hp} (h : ER H) (g : cl H K) : ER K := by
  unfold ER
  rw [g.1]
  exact h
theorem RS9_ft {H K : hp} {X : rx} (h : RS9 H X) (f : ft H K) : RS9 K X := by
  have e : ∀ c ∈ [1827, 1828, 1829, 1830, 1831, 1832, 1833, 1834, 1835, 1841, 1836, 1837, 1838, 1839, 1840, 1842, 1843, 1845, 1846], K.1 c = H.1 c := fun c hc => f.1 c (List.mem_cons_of_mem _ hc)
  unfold RS9 LQ RQr WQ WV
  rw [e 1836 (by decide), e 1837 (by decide), e 1838 (by decide), e 1839 (by decide), e 1840 (by decide), e 1842 (by decide), e 1843 (by decide), e 1845 (by decide), e 1846 (by decide)]
  exact h
theorem SC_cl {H K : hp} {X : rx} (h : SC H X) (g : cl H K) : SC K X := SC_fr h (fun c j a _ => congrFun (g.2 c (by have h1 := sc_lt a; omega)) j)
theorem SC_SK {H K : hp} {X : rx} (h : SC H X) (hM : MI X) (g9 : SKp H K) (ho9 : (∀ r : Nat, r < 40 → K.1 (25 + 6 * r) 4 = H.1 (25 + 6 * r) 4) ∧ ∀ l : Nat, l < 16 → K.1 (265 + 6 * l) 3 = H.1 (265 + 6 * l) 3) : SC K X := by
  have g := g9.1
  have q : ∀ (k o s : Nat), k < 56 → o = 1 ∨ o = 3 → 100 ≤ s → SD H (25 + 6 * k + o) X s → SD K (25 + 6 * k + o) X s := by
    intro k o s hk ho hs hd
    have m0 := (hM.2.2 s hs).1
    refine ⟨((g k hk o ho).1).trans hd.1, fun j hj => ?_⟩
    rw [(g k hk o ho).2 j (by omega)]
    exact hd.2 j hj
  refine ⟨fun r r1 r2 => ⟨q r 1 _ (by omega) (Or.inl rfl) (by omega) (h.1 r r1 r2).1, q r 3 _ (by omega) (Or.inr rfl) (by omega) (h.1 r r1 r2).2.1, by rw [ho9.1 r r1]; exact (h.1 r r1 r2).2.2⟩, fun l l1 l2 => ?_, g9.2.1.1.trans h.2.2.1, g9.2.1.2.trans h.2.2.2⟩
  have e : 265 + 6 * l = 25 + 6 * (40 + l) := by omega
  have h2 := h.2.1 l l1 l2
  have h3 : LVS K l X := LVS_cg h2.2.2 (ho9.2 l l1) (fun v hv => g9.2.2 l l1 v hv) rfl
  refine ⟨?_, ?_, h3⟩
  · have h4 := h2.1
    rw [e] at h4 ⊢
    exact q (40 + l) 1 _ (by omega) (Or.inl rfl) (by omega) h4
  · have h4 := h2.2.1
    rw [e] at h4 ⊢
    exact q (40 + l) 3 _ (by omega) (Or.inr rfl) (by omega) h4
/-- the tried and the told values' terms -/
def VRQ (H : hp) : Prop := (∀ v : Nat, v < 6 → H.2 376 v = 382 + 4 * v) ∧ ∀ v : Nat, v < 6 → H.2 377 v = 384 + 4 * v
theorem VRQ_cl {H K : hp} (h : VRQ H) (g : cl H K) : VRQ K := by
  unfold VRQ
  rw [g.1]
  exact h
theorem VRQ_fq {ob : List (Nat × Nat)} {ar : List Nat} {gl : Bool} {H K : hp} (h : VRQ H) (f : fq ob ar gl H K) (h1 : ∀ p ∈ ob, p.1 ≠ 376 ∧ p.1 ≠ 377) (h2 : ∀ c ∈ ar, c ≠ 376 ∧ c ≠ 377) : VRQ K := ⟨fun v hv => ((f.1 376 v rfl (fun m => (h2 _ m).1 rfl) (fun m => (h1 _ m).1 rfl)).2).trans (h.1 v hv), fun v hv => ((f.1 377 v rfl (fun m => (h2 _ m).2 rfl) (fun m => (h1 _ m).2 rfl)).2).trans (h.2 v hv)⟩
/-- a sign of a told value, the class's way -/
def kcT (cA : Nat → Int) (s : Int) : Int := if s = 0 then 0 else kco 1 (s - 1) (cA (s - 1).toNat)
/-- both have told the same -/
def TOx (H : hp) : Prop := (H.1 372 10 = -1 ∧ H.1 1826 67 = -1) ∨ ∃ l nv : Nat, (H.1 1826 67 = (l : Int) ∧ (l : Int) < H.1 1826 19) ∧ (H.1 1845 l = (nv : Int) ∧ nv ≤ 6 ∧ H.1 372 10 = (nv : Int)) ∧ ∀ v : Nat, v < nv → ∃ k : Nat, (1 ≤ k ∧ k ≤ 6) ∧ H.1 (384 + 4 * v) 1 = (k : Int) ∧ (∀ x : Nat, x < k → H.1 (385 + 4 * v) x = kcT (H.1 1830) (H.1 1867 (7 * v + x))) ∧ tm (ma (H.1 1833) (H.1 1830)) (m_sg (H.1 1826 3) 0 0) (H.1 1867) k (7 * v) 1
theorem TOx_c {H K : hp} (h : TOx H) (t : TKw H K) (e : K.1 372 10 = H.1 372 10) (g : ∀ c, 1826 ≤ c → K.1 c = H.1 c) : TOx K := by
  unfold TOx
  rw [e, g 1826 (by decide), g 1845 (by decide), g 1830 (by decide), g 1833 (by decide), g 1867 (by decide)]
  rcases h with h | ⟨l, nv, h1, h2, h3⟩
  · exact Or.inl h
  · refine Or.inr ⟨l, nv, h1, h2, fun v hv => ?_⟩
    obtain ⟨k, k1, k2, k3, k4⟩ := h3 v hv
    have ht := t v (by omega)
    exact ⟨k, k1, ht.1.trans k2, fun x hx => (ht.2 x (by omega)).trans (k3 x hx), k4⟩
/-- what was told, as the reference keeps it -/
def fv (H K : hp) : Prop := K.1 1826 67 = H.1 1826 67 ∧ K.1 1867 = H.1 1867
theorem TOx_e {H K : hp} (h : TOx H) (g : cl H K) (fv9 : fv H K) (e3 : K.1 1826 3 = H.1 1826 3) (e19 : K.1 1826 19 = H.1 1826 19) (e45 : K.1 1845 = H.1 1845) (e30 : K.1 1830 = H.1 1830) (e33 : K.1 1833 = H.1 1833) : TOx K := by
  unfold TOx
  rw [g.2 372 (by decide), fv9.1, e19, e3, e45, e30, e33, fv9.2]
  rcases h with h | ⟨l, nv, h1, h2, h3⟩
  · exact Or.inl h
  · refine Or.inr ⟨l, nv, h1, h2, fun v hv => ?_⟩
    obtain ⟨k, k1, k2, k3, k4⟩ := h3 v hv
    rw [g.2 (384 + 4 * v) (by omega), g.2 (385 + 4 * v) (by omega)]
    exact ⟨k, k1, k2, k3, k4⟩
theorem TOx_r {H K : hp} (h : TOx H) (g : cl H K) (f : ft H K) (fv9 : fv H K) : TOx K := TOx_e h g fv9 (f.2 3 (by decide)) (f.2 19 (by decide)) (f.1 1845 (by decide)) (f.1 1830 (by decide)) (f.1 1833 (by decide))
/-- the reference reads: what was told stays -/
theorem TOx_ag {H K : hp} (hP : PWc H) (h : TOx H) (g : cl H K) (ha : agp H K) (e1 : K.1 1826 67 = H.1 1826 67) (e2 : K.1 1867 = H.1 1867) : TOx K := by
  obtain ⟨⟨b1, b2, b3, b4, b5⟩, -⟩ := (id hP : PW H (H.1 1826 1) (H.1 1826 3) (H.1 1826 8) (H.1 1826 13) (H.1 1826 19))
  obtain ⟨⟨a1, a2, a3, a4, a5⟩, a6, a7, a8, a9⟩ := ha
  unfold TOx
  rw [g.2 372 (by decide), e1, e2]
  rcases h with h | ⟨l, nv, h1, h2, h3⟩
  · exact Or.inl h
  · refine Or.inr ⟨l, nv, ⟨h1.1, by omega⟩, ⟨((a9 l h1.2).1).trans h2.1, h2.2⟩, fun v hv => ?_⟩
    obtain ⟨k, k1, k2, k3, k4⟩ := h3 v hv
    rw [g.2 (384 + 4 * v) (by omega), g.2 (385 + 4 * v) (by omega)]
    have hs : ∀ x : Nat, x < k → m_sg (H.1 1826 3) 0 0 (H.1 1867 (7 * v + x)) := fun x hx => tm_ok k4 x hx
    refine ⟨k, k1, k2, fun x hx => ?_, tm_mono k4 (fun j _ _ hz => ⟨rfl, ?_, ?_⟩)⟩
    · rw [k3 x hx]
      have hx9 := hs x hx
      unfold kcT
      split
      · rfl
      · rename_i h0
        unfold m_sg at hx9
        rw [(a6 (H.1 1867 (7 * v + x) - 1).toNat (by omega)).2.1]
    · unfold m_sg at hz ⊢
      omega
    · unfold m_sg at hz
      by_cases q : H.1 1867 j = 0
      · rw [ma_0 (Or.inr q), ma_0 (Or.inr q)]
      · rw [ma_c (by omega), ma_c (by omega), (a6 (H.1 1867 j - 1).toNat (by omega)).2.1]
theorem CL_cl {H K : hp} (h : CLw H) (g : cl H K) : CLw K := by
  unfold CLw
  rw [g.1]
  exact h
/-- class and reference have read the same -/
def LX0 (H : hp) : Prop := ER H ∧ (∃ X : rx, TC H X ∧ X 0 0 = 0 ∧ TA (H.1 1826 8) H X ∧ SC H X ∧ (MI X ∧ NI X) ∧ RS9 H X) ∧ (∀ j : Nat, (j : Int) < H.1 2 1 → z_and (H.1 1848 j) 255 = H.1 3 j) ∧ VRQ H ∧ CLw H
def LX (H : hp) : Prop := LX0 H ∧ TOx H
def GX0 (H : hp) : Prop := GI H ∧ LX0 H
def GX (H : hp) : Prop := GI H ∧ LX H
def BX (s t : Int) (r9 : Option zv) (K : hp) : Prop := (∃ r0 : Int, r9 = some (.inl r0)) ∧ Inv K ∧ GX K ∧ K.1 2 1 = s ∧ K.1 1826 28 = t
theorem LX0_r {H K : hp} (h : LX0 H) (g : cl H K) (f : ft H K) : LX0 K := by
  obtain ⟨a, ⟨X, b, c, e, e2, e3, e4⟩, q, qv, qc⟩ := h
  refine ⟨ER_cl a g, ⟨X, TC_cl b g, c, ?_, SC_cl e2 g, e3, RS9_ft e4 f⟩, fun j hj => ?_, VRQ_cl qv g, CL_cl qc g⟩
  · rw [f.2 8 (by decide)]
    exact TA_same e f
  · rw [g.2 2 (by decide)] at hj
    rw [g.2 3 (by decide), f.1 1848 (by decide)]
    exact q j hj
theorem LX_r {H K : hp} (h : LX H) (g : cl H K) (f : ft H K) (f9 : fv H K) : LX K := ⟨LX0_r h.1 g f, TOx_r h.2 g f f9⟩
theorem ft_up {H K : hp} (g : ∀ c, 1826 ≤ c → K.1 c = H.1 c) : ft H K := by
  refine ⟨fun c hc => g c ?_, fun j _ => by rw [g 1826 (by decide)]⟩
  simp only [List.mem_cons, List.not_mem_nil, or_false] at hc
  omega
theorem LX0_c {ob : List (Nat × Nat)} {ar : List Nat} {gl : Bool} {H K : hp} (h : LX0 H) (hn : LN H K) (hs9 : SKp H K) (hw9 : CLw K) (f : fq ob ar gl H K) (g : ∀ c, 1826 ≤ c → K.1 c = H.1 c) (hl : K.1 2 1 = 0 ∨ K.1 2 1 = H.1 2 1) (h3 : ∀ p ∈ ob, ((24 < p.1 ∨ p.1 < 7) ∧ p.1 ≠ 3) ∧ p.1 ≠ 376 ∧ p.1 ≠ 377) (h4 : ∀ c ∈ ar, ((24 < c ∨ c < 7) ∧ c ≠ 3) ∧ c ≠ 376 ∧ c ≠ 377) : LX0 K := by
  obtain ⟨a, ⟨X, b, c, e, e2, e3, e4⟩, q, qv, -⟩ := h
  refine ⟨ER_fq a f (fun p hp => (h3 p hp).1.1) (fun c hc => (h4 c hc).1.1), ⟨X, TC_fq b f (fun p hp => (h3 p hp).1.1) (fun c hc => (h4 c hc).1.1) hn.1, c, ?_, SC_SK e2 e3.1 hs9 hn.2, e3, RS9_ft e4 (ft_up g)⟩, fun j hj => ?_, VRQ_fq qv f (fun p hp => (h3 p hp).2) (fun c hc => (h4 c hc).2), hw9⟩
  · rw [g 1826 (by decide)]
    exact TA_same e (ft_up g)
  · rw [g 1848 (by decide), (f.1 3 j rfl (fun m => (h4 3 m).1.2 rfl) (fun m => (h3 _ m).1.2 rfl)).1]
    exact q j (by omega)
theorem fq_BX {ob : List (Nat × Nat)} {ar : List Nat} {gl : Bool} {H K : hp} {s z : Int} {r9 : Option zv} (hG9 : GX H) (hn : LN H K) (hs9 : SKp H K) (hw9 : TKw H K ∧ CLw K) (hr : r9 = some (.inl z)) (hI : Inv K) (f : fq ob ar gl H K) (hs : K.1 2 1 = s) (hl : s = 0 ∨ s = H.1 2 1) (h1 : ob.all (fun q => Nat.blt q.1 1826) = true) (h2 : ar.all (fun q => Nat.blt q 1826) = true) (h3 : ∀ p ∈ ob, ((24 < p.1 ∨ p.1 < 7) ∧ p.1 ≠ 3) ∧ p.1 ≠ 376 ∧ p.1 ≠ 377) (h5 : (372, 10) ∉ ob ∧ 372 ∉ ar) (h4 : ∀ c ∈ ar, ((24 < c ∨ c < 7) ∧ c ≠ 3) ∧ c ≠ 376 ∧ c ≠ 377) : BX s (H.1 1826 28) r9 K := ⟨⟨z, hr⟩, hI, ⟨GI_up hG9.1 (fq_up f h1 h2), ⟨LX0_c hG9.2.1 hn hs9 hw9.2 f (fq_up f h1 h2) (by rw [hs]; exact hl) h3 h4, TOx_c hG9.2.2 hw9.1 ((f.1 372 10 rfl h5.2 h5.1).1) (fq_up f h1 h2)⟩⟩, hs, by rw [fq_up f h1 h2 1826 (by decide)]⟩
def GZ9 (H : hp) (t : Int) (r9 : Option zv) (K : hp) : Prop := (∃ r0 : Int, r9 = some (.inl r0)) ∧ GI K ∧ cl H K ∧ (K.1 1826 28) = t ∧ ft H K ∧ fv H K
theorem GZ9_BX {H K : hp} {t : Int} {r9 : Option zv} (hI : Inv H) (hG : GX H) (h : GZ9 H t r9 K) : BX (H.1 2 1) t r9 K := ⟨h.1, Inv_cl hI h.2.2.1, ⟨h.2.1, LX_r hG.2 h.2.2.1 h.2.2.2.2.1 h.2.2.2.2.2⟩, by rw [h.2.2.1.2 2 (by decide)], h.2.2.2.1⟩

theorem GZ9_rf {H : hp} {r9 : Option zv} (h : GI H) (hr : ∃ r0 : Int, r9 = some (.inl r0)) : GZ9 H (H.1 1826 28) r9 H := ⟨hr, h, cl_rf H, rfl, ft_rf H, rfl, rfl⟩
theorem uu_fault {zC : Nat → Option zsh} {d : Nat} (hd : 12 ≤ d) {H : hp} (hI : GI H)  : hG (zs zC) d mt_193 0 (zargs 0 [.inr (.inr 1826)]) [] H (GZ9 H (H.1 1826 28)) := by
  obtain ⟨hP, ht, hst, hou, hG9, hT⟩ := id hI
  refine h_mono (m_fault (by omega)) (fun r K h => ?_)
  obtain ⟨h1, rfl⟩ := h
  exact GZ9_rf hI h1
theorem uu_count {zC : Nat → Option zsh} {d : Nat} (hd : 12 ≤ d) {H : hp} {x : Int} (hI : GI H) (hx : -2147483648 ≤ x ∧ x ≤ 2147483647) : hG (zs zC) d mt_194 0 (zargs 0 [.inr (.inr 1826), .inl x]) [] H (GZ9 H (H.1 1826 28)) := by
  obtain ⟨hP, ht, hst, hou, hG9, hT⟩ := id hI
  refine h_mono (m_count (by omega) hx) (fun r K h => ?_)
  obtain ⟨h1, rfl⟩ := h
  exact GZ9_rf hI h1
theorem uu_about {zC : Nat → Option zsh} {d : Nat} (hd : 12 ≤ d) {H : hp} {x y : Int} (hI : GI H) (hx : -2147483648 ≤ x ∧ x ≤ 2147483647) (hy : -2147483648 ≤ y ∧ y ≤ 2147483647) : hG (zs zC) d mt_195 0 (zargs 0 [.inr (.inr 1826), .inl x, .inl y]) [] H (GZ9 H (H.1 1826 28)) := by
  obtain ⟨hP, ht, hst, hou, hG9, hT⟩ := id hI
  obtain ⟨⟨b1, b2, b3, b4, b5⟩, -⟩ := (id hP : PW H (H.1 1826 1) (H.1 1826 3) (H.1 1826 8) (H.1 1826 13) (H.1 1826 19))
  refine h_mono (m_about (by omega) hx hy (by omega)) (fun r K h => ?_)
  obtain ⟨h1, rfl⟩ := h
  exact GZ9_rf hI h1
theorem uu_steps {zC : Nat → Option zsh} {d : Nat} (hd : 12 ≤ d) {H : hp} (hI : GI H)  : hG (zs zC) d mt_202 0 (zargs 0 [.inr (.inr 1826)]) [] H (GZ9 H (H.1 1826 28)) := by
  obtain ⟨hP, ht, hst, hou, hG9, hT⟩ := id hI
  refine h_mono (m_steps (by omega)) (fun r K h => ?_)
  obtain ⟨h1, rfl⟩ := h
  exact GZ9_rf hI h1
theorem uu_printed {zC : Nat → Option zsh} {d : Nat} (hd : 12 ≤ d) {H : hp} {x : Int} (hI : GI H) (hx : -2147483648 ≤ x ∧ x ≤ 2147483647) : hG (zs zC) d mt_207 0 (zargs 0 [.inr (.inr 1826), .inl x]) [] H (GZ9 H (H.1 1826 28)) := by
  obtain ⟨hP, ht, hst, hou, hG9, hT⟩ := id hI
  refine h_mono (m_printed (by omega) hx hou.2) (fun r K h => ?_)
  obtain ⟨h1, rfl⟩ := h
  exact GZ9_rf hI h1
theorem uu_unfold {zC : Nat → Option zsh} {d : Nat} (hd : 12 ≤ d) {H : hp} {s y : Int} (hI : GI H) (hs : -2147483648 ≤ s ∧ s ≤ 2147483647) (hy : -2147483648 ≤ y ∧ y ≤ 2147483647) : hG (zs zC) d mt_237 0 (zargs 0 [.inr (.inr 1826), .inl s, .inl y]) [] H (GZ9 H (H.1 1826 28)) := by
  obtain ⟨hP, ht, hst, hou, hG9, hT⟩ := id hI
  refine h_mono (m_unfold (by omega) hP hG9 hs hy) (fun r K h => ?_)
  obtain ⟨f, h1, h2⟩ := h
  exact ⟨h2, GI_k hI f (by decide) (by decide) (by decide) (by rw [f.2.2 59 (by decide)]; exact hou) h1 (TV_fr hT f (by decide) (by decide) (by decide)), cl_fr f rfl, f.2.2 28 (by decide), ft_fr f (by decide) (by decide), f.2.2 67 (by decide), f.2.1 1867 (by decide) (by decide)⟩
theorem uu_law {zC : Nat → Option zsh} {d : Nat} (hd : 12 ≤ d) {H : hp} {x b s y : Int} (hI : GI H) (hx : -2147483648 ≤ x ∧ x ≤ 2147483647) (hb : 0 ≤ b ∧ b ≤ 1) (hs : -2147483648 ≤ s ∧ s ≤ 2147483647) (hy : -2147483648 ≤ y ∧ y ≤ 2147483647) : hG (zs zC) d mt_243 0 (zargs 0 [.inr (.inr 1826), .inl x, .inl b, .inl s, .inl y]) [] H (GZ9 H (H.1 1826 28)) := by
  obtain ⟨hP, ht, hst, hou, hG9, hT⟩ := id hI
  refine h_mono (m_lawC (by omega) hP hG9 hx hs hy hb) (fun r K h => ?_)
  obtain ⟨f, h1, h2⟩ := h
  exact ⟨h2, GI_k hI f (by decide) (by decide) (by decide) (by rw [f.2.2 59 (by decide)]; exact hou) h1 (TV_fr hT f (by decide) (by decide) (by decide)), cl_fr f rfl, f.2.2 28 (by decide), ft_fr f (by decide) (by decide), f.2.2 67 (by decide), f.2.1 1867 (by decide) (by decide)⟩
theorem uu_hypothesis {zC : Nat → Option zsh} {d : Nat} (hd : 12 ≤ d) {H : hp} {x b s y : Int} (hI : GI H) (hx : -2147483648 ≤ x ∧ x ≤ 2147483647) (hb : 0 ≤ b ∧ b ≤ 1) (hs : -2147483648 ≤ s ∧ s ≤ 2147483647) (hy : -2147483648 ≤ y ∧ y ≤ 2147483647) : hG (zs zC) d mt_245 0 (zargs 0 [.inr (.inr 1826), .inl x, .inl b, .inl s, .inl y]) [] H (GZ9 H (H.1 1826 28)) := by
  obtain ⟨hP, ht, hst, hou, hG9, hT⟩ := id hI
  refine h_mono (m_hypothesis (by omega) hP hG9 hx hs hy hb) (fun r K h => ?_)
  obtain ⟨f, h1, h2⟩ := h
  exact ⟨h2, GI_k hI f (by decide) (by decide) (by decide) (by rw [f.2.2 59 (by decide)]; exact hou) h1 (TV_fr hT f (by decide) (by decide) (by decide)), cl_fr f rfl, f.2.2 28 (by decide), ft_fr f (by decide) (by decide), f.2.2 67 (by decide), f.2.1 1867 (by decide) (by decide)⟩
theorem uu_induction {zC : Nat → Option zsh} {d : Nat} (hd : 12 ≤ d) {H : hp} {v : Int} (hI : GI H) (hv : -2147483648 ≤ v ∧ v ≤ 2147483647) : hG (zs zC) d mt_252 0 (zargs 0 [.inr (.inr 1826), .inl v]) [] H (GZ9 H (H.1 1826 28)) := by
  obtain ⟨hP, ht, hst, hou, hG9, hT⟩ := id hI
  refine h_mono (m_induction (by omega) hP hG9 hv) (fun r K h => ?_)
  obtain ⟨f, h1, h2⟩ := h
  exact ⟨h2, GI_k hI f (by decide) (by decide) (by decide) (by rw [f.2.2 59 (by decide)]; exact hou) h1 (TV_fr hT f (by decide) (by decide) (by decide)), cl_fr f rfl, f.2.2 28 (by decide), ft_fr f (by decide) (by decide), f.2.2 67 (by decide), f.2.1 1867 (by decide) (by decide)⟩
theorem uu_cases {zC : Nat → Option zsh} {d : Nat} (hd : 12 ≤ d) {H : hp} {s y : Int} (hI : GI H) (hs : -2147483648 ≤ s ∧ s ≤ 2147483647) (hy : -2147483648 ≤ y ∧ y ≤ 2147483647) : hG (zs zC) d mt_255 0 (zargs 0 [.inr (.inr 1826), .inl s, .inl y]) [] H (GZ9 H (H.1 1826 28)) := by
  obtain ⟨hP, ht, hst, hou, hG9, hT⟩ := id hI
  refine h_mono (m_cases (by omega) hP hG9 hs hy) (fun r K h => ?_)
  obtain ⟨f, h1, h2⟩ := h
  exact ⟨h2, GI_k hI f (by decide) (by decide) (by decide) (by rw [f.2.2 59 (by decide)]; exact hou) h1 (TV_fr hT f (by decide) (by decide) (by decide)), cl_fr f rfl, f.2.2 28 (by decide), ft_fr f (by decide) (by decide), f.2.2 67 (by decide), f.2.1 1867 (by decide) (by decide)⟩
theorem uu_same {zC : Nat → Option zsh} {d : Nat} (hd : 12 ≤ d) {H : hp} (hI : GI H)  : hG (zs zC) d mt_261 0 (zargs 0 [.inr (.inr 1826)]) [] H (GZ9 H (H.1 1826 28)) := by
  obtain ⟨hP, ht, hst, hou, hG9, hT⟩ := id hI
  by_cases hz : (H.1 1826 77) = 0
  · refine h_mono (m_same0 (by omega) hz) (fun r K h => ?_)
    obtain ⟨h1, rfl⟩ := h
    exact GZ9_rf hI ⟨_, h1⟩
  · obtain ⟨n, o, hS, ho, ho2, -⟩ := GP_SI hP hG9 hz
    refine h_mono (m_same (by omega) hP hS.2.1 hS.2.2.1 hS.2.2.2.1 ho) (fun r K h => ?_)
    obtain ⟨f, hor, hvv, h3⟩ := h
    have hPF : PF2 K ∧ ∃ r0 : Int, r = some (.inl r0) := by
      rcases h3 with (⟨h4, hO⟩ | ⟨h4, hO⟩) | ⟨n2, h4, hn, hO⟩
      · exact ⟨SI_PF (SI_v hS f (by decide) (by decide) (by decide) hO hvv), _, h4⟩
      · exact ⟨SI_PF (SI_v hS f (by decide) (by decide) (by decide) hO hvv), _, h4⟩
      · exact ⟨PF_v hS f (by decide) (by decide) (by decide) hor hvv hn hO, _, h4⟩
    exact ⟨hPF.2, GI_k hI f (by decide) (by decide) (by decide) (by rw [f.2.2 59 (by decide)]; exact hou) (PF_GP hPF.1) (TV_fr hT f (by decide) (by decide) (by decide)), cl_fr f rfl, f.2.2 28 (by decide), ft_fr f (by decide) (by decide), f.2.2 67 (by decide), f.2.1 1867 (by decide) (by decide)⟩
theorem uu_parts {zC : Nat → Option zsh} {d : Nat} (hd : 12 ≤ d) {H : hp} (hI : GI H)  : hG (zs zC) d mt_262 0 (zargs 0 [.inr (.inr 1826)]) [] H (GZ9 H (H.1 1826 28)) := by
  obtain ⟨hP, ht, hst, hou, hG9, hT⟩ := id hI
  by_cases hz : (H.1 1826 77) = 0
  · refine h_mono (m_parts0 (by omega) hz) (fun r K h => ?_)
    obtain ⟨h1, rfl⟩ := h
    exact GZ9_rf hI ⟨_, h1⟩
  · obtain ⟨n, o, hS, ho, ho2, -⟩ := GP_SI hP hG9 hz
    refine h_mono (m_parts (by omega) hP hS.2.1 hS.2.2.1 hS.2.2.2.1 ho) (fun r K h => ?_)
    obtain ⟨f, hor, hvv, h3⟩ := h
    have hPF : PF2 K ∧ ∃ r0 : Int, r = some (.inl r0) := by
      rcases h3 with (⟨h4, hO⟩ | ⟨h4, hO⟩) | ⟨n2, h4, hn, hO⟩
      · exact ⟨SI_PF (SI_v hS f (by decide) (by decide) (by decide) hO hvv), _, h4⟩
      · exact ⟨SI_PF (SI_v hS f (by decide) (by decide) (by decide) hO hvv), _, h4⟩
      · exact ⟨PF_v hS f (by decide) (by decide) (by decide) hor hvv hn hO, _, h4⟩
    exact ⟨hPF.2, GI_k hI f (by decide) (by decide) (by decide) (by rw [f.2.2 59 (by decide)]; exact hou) (PF_GP hPF.1) (TV_fr hT f (by decide) (by decide) (by decide)), cl_fr f rfl, f.2.2 28 (by decide), ft_fr f (by decide) (by decide), f.2.2 67 (by decide), f.2.1 1867 (by decide) (by decide)⟩
theorem uu_search {zC : Nat → Option zsh} {d : Nat} (hd : 12 ≤ d) {H : hp} {x : Int} (hI : GI H) (hx : -2147483648 ≤ x ∧ x ≤ 2147483647) : hG (zs zC) d mt_266 0 (zargs 0 [.inr (.inr 1826), .inl x]) [] H (GZ9 H (H.1 1826 28)) := by
  obtain ⟨hP, ht, hst, hou, hG9, hT⟩ := id hI
  by_cases hz : (H.1 1826 77) = 0
  · refine h_mono (m_search0 (by omega) hz hx) (fun r K h => ?_)
    obtain ⟨h1, rfl⟩ := h
    exact GZ9_rf hI h1
  · obtain ⟨n, o, hS, ho, ho2, -⟩ := GP_SI hP hG9 hz
    refine h_mono (m_search (by omega) hS hx) (fun r K h => ?_)
    obtain ⟨f, h1, h2⟩ := h
    exact ⟨h2, GI_k hI f (by decide) (by decide) (by decide) (by rw [f.2.2 59 (by decide)]; exact hou) (PF_GP h1) (TV_fr hT f (by decide) (by decide) (by decide)), cl_fr f rfl, f.2.2 28 (by decide), ft_fr f (by decide) (by decide), f.2.2 67 (by decide), f.2.1 1867 (by decide) (by decide)⟩
theorem uu_show {zC : Nat → Option zsh} {d : Nat} (hd : 12 ≤ d) {H : hp} {k s : Int} (hI : GI H) (hk : -2147483648 ≤ k ∧ k ≤ 2147483647) (hs : -2147483648 ≤ s ∧ s ≤ 2147483647) : hG (zs zC) d mt_270 0 (zargs 0 [.inr (.inr 1826), .inl k, .inl s]) [] H (GZ9 H (H.1 1826 28)) := by
  obtain ⟨hP, ht, hst, hou, hG9, hT⟩ := id hI
  refine h_mono (m_show (by omega) hP hG9 hou hk hs) (fun r K h => ?_)
  obtain ⟨f, h1, h2⟩ := h
  exact ⟨h2, GI_k hI f (by decide) (by decide) (by decide) h1 (GP_fr hG9 f (by decide) (by decide) (by decide) (by decide)) (TV_fr hT f (by decide) (by decide) (by decide)), cl_fr f rfl, f.2.2 28 (by decide), ft_fr f (by decide) (by decide), f.2.2 67 (by decide), f.2.1 1867 (by decide) (by decide)⟩
theorem uu_showHypothesis {zC : Nat → Option zsh} {d : Nat} (hd : 12 ≤ d) {H : hp} {k s : Int} (hI : GI H) (hk : -2147483648 ≤ k ∧ k ≤ 2147483647) (hs : -2147483648 ≤ s ∧ s ≤ 2147483647) : hG (zs zC) d mt_271 0 (zargs 0 [.inr (.inr 1826), .inl k, .inl s]) [] H (GZ9 H (H.1 1826 28)) := by
  obtain ⟨hP, ht, hst, hou, hG9, hT⟩ := id hI
  refine h_mono (m_showHypothesis (by omega) hP hG9 hou hk hs) (fun r K h => ?_)
  obtain ⟨f, h1, h2⟩ := h
  exact ⟨h2, GI_k hI f (by decide) (by decide) (by decide) h1 (GP_fr hG9 f (by decide) (by decide) (by decide) (by decide)) (TV_fr hT f (by decide) (by decide) (by decide)), cl_fr f rfl, f.2.2 28 (by decide), ft_fr f (by decide) (by decide), f.2.2 67 (by decide), f.2.1 1867 (by decide) (by decide)⟩
theorem uu_showLaw {zC : Nat → Option zsh} {d : Nat} (hd : 12 ≤ d) {H : hp} {l s : Int} (hI : GI H) (hl : -2147483648 ≤ l ∧ l ≤ 2147483647) (hs : -2147483648 ≤ s ∧ s ≤ 2147483647) : hG (zs zC) d mt_272 0 (zargs 0 [.inr (.inr 1826), .inl l, .inl s]) [] H (GZ9 H (H.1 1826 28)) := by
  obtain ⟨hP, ht, hst, hou, hG9, hT⟩ := id hI
  refine h_mono (m_showLaw (by omega) hP hou hl hs) (fun r K h => ?_)
  obtain ⟨f, h1, h2⟩ := h
  exact ⟨h2, GI_k hI f (by decide) (by decide) (by decide) h1 (GP_fr hG9 f (by decide) (by decide) (by decide) (by decide)) (TV_fr hT f (by decide) (by decide) (by decide)), cl_fr f rfl, f.2.2 28 (by decide), ft_fr f (by decide) (by decide), f.2.2 67 (by decide), f.2.1 1867 (by decide) (by decide)⟩
theorem uu_told {zC : Nat → Option zsh} {d : Nat} (hd : 12 ≤ d) {H : hp} {x : Int} (hI : GI H) (hx : -2147483648 ≤ x ∧ x ≤ 2147483647) : hG (zs zC) d mt_220 0 (zargs 0 [.inr (.inr 1826), .inl x]) [] H (GZ9 H (H.1 1826 28)) := by
  obtain ⟨hP, ht, hst, hou, hG9, hT⟩ := id hI
  refine h_mono (m_told (by omega) hP hT hou hx) (fun r K h => ?_)
  obtain ⟨f, h1, h2⟩ := h
  exact ⟨h2, GI_k hI f (by decide) (by decide) (by decide) h1 (GP_fr hG9 f (by decide) (by decide) (by decide) (by decide)) (TV_fr hT f (by decide) (by decide) (by decide)), cl_fr f rfl, f.2.2 28 (by decide), ft_fr f (by decide) (by decide), f.2.2 67 (by decide), f.2.1 1867 (by decide) (by decide)⟩
theorem uu_begin {zC : Nat → Option zsh} {d : Nat} (hd : 12 ≤ d) {H : hp} {x b : Int} (hI : GI H) (hx : -2147483648 ≤ x ∧ x ≤ 2147483647) (hb : 0 ≤ b ∧ b ≤ 1) : hG (zs zC) d mt_227 0 (zargs 0 [.inr (.inr 1826), .inl x, .inl b]) [] H (GZ9 H (H.1 1826 28)) := by
  obtain ⟨hP, ht, hst, hou, hG9, hT⟩ := id hI
  obtain ⟨⟨b1, b2, b3, b4, b5⟩, -⟩ := (id hP : PW H (H.1 1826 1) (H.1 1826 3) (H.1 1826 8) (H.1 1826 13) (H.1 1826 19))
  refine h_mono (m_begin (by omega) hP hx hb) (fun r K h => ?_)
  rcases h with ⟨h1, rfl⟩ | ⟨h1, f, hO, hor, hvv, hpr⟩
  · exact GZ9_rf hI ⟨_, h1⟩
  · have hG8 : GP K := ⟨hor, hvv, by rw [f.2.2 97 (by decide)]; exact hG9.2.2.1, 1, hO.1.1, Or.inr ⟨OS_P (sP_fr2 f (by decide) (by decide)) hO, hpr.1, by omega⟩⟩
    exact ⟨⟨_, h1⟩, GI_k hI f (by decide) (by decide) (by decide) (by rw [f.2.2 59 (by decide)]; exact hou) hG8 (TV_fr hT f (by decide) (by decide) (by decide)), cl_fr f rfl, f.2.2 28 (by decide), ft_fr f (by decide) (by decide), f.2.2 67 (by decide), f.2.1 1867 (by decide) (by decide)⟩
theorem uu_work {zC : Nat → Option zsh} {d : Nat} (hd : 12 ≤ d) {H : hp} {x : Int} (hI : GI H) (hx : -2147483648 ≤ x ∧ x ≤ 2147483647) : hG (zs zC) d mt_201 0 (zargs 0 [.inr (.inr 1826), .inl x]) [] H (GZ9 H 0) := by
  obtain ⟨hP, ht, hst, hou, hG9, hT⟩ := id hI
  refine h_mono (m_work2 (by omega) hx ht hst hP hou) (fun r K h => ?_)
  obtain ⟨h1, f, h2, h3, h4⟩ := h
  exact ⟨h1, ⟨PWc_fr hP f (by decide) (by decide), by rw [h2]; decide, h3, h4, GP_fr hG9 f (by decide) (by decide) (by decide) (by decide), TV_fr hT f (by decide) (by decide) (by decide)⟩, cl_fr f rfl, h2, ft_fr f (by decide) (by decide), f.2.2 67 (by decide), f.2.1 1867 (by decide) (by decide)⟩
theorem v_c_fault {d : Nat} (hd : 50 ≤ d) {H : hp} (hI : Inv H) (hG9 : GX H)   : hE d mt_4 [.inr (.inr 1)] H (BX (H.1 2 1) (H.1 1826 28)) := by
  refine hE_of ?_
  refine h_mono (k_fault (by omega) hI ) (fun r K h => ?_)
  obtain ⟨z, h1, -, rfl⟩ := h
  exact ⟨⟨z, h1⟩, hI, hG9, rfl, rfl⟩
theorem v_c_count {d : Nat} (hd : 50 ≤ d) {H : hp} (hI : Inv H) (hG9 : GX H) {a : Int} (ha : -2147483648 ≤ a ∧ a ≤ 2147483647) : hE d mt_5 [.inr (.inr 1), .inl a] H (BX (H.1 2 1) (H.1 1826 28)) := by
  refine hE_of ?_
  refine h_mono (k_count (by omega) hI ha) (fun r K h => ?_)
  obtain ⟨z, h1, -, rfl⟩ := h
  exact ⟨⟨z, h1⟩, hI, hG9, rfl, rfl⟩
theorem v_c_about {d : Nat} (hd : 50 ≤ d) {H : hp} (hI : Inv H) (hG9 : GX H) {a : Int} {b : Int} (ha : -2147483648 ≤ a ∧ a ≤ 2147483647) (hb : -2147483648 ≤ b ∧ b ≤ 2147483647) : hE d mt_6 [.inr (.inr 1), .inl a, .inl b] H (BX (H.1 2 1) (H.1 1826 28)) := by
  refine hE_of ?_
  refine h_mono (k_about (by omega) hI ha hb) (fun r K h => ?_)
  obtain ⟨z, h1, -, rfl⟩ := h
  exact ⟨⟨z, h1⟩, hI, hG9, rfl, rfl⟩
theorem v_c_steps {d : Nat} (hd : 50 ≤ d) {H : hp} (hI : Inv H) (hG9 : GX H)   : hE d mt_8 [.inr (.inr 1)] H (BX (H.1 2 1) (H.1 1826 28)) := by
  refine hE_of ?_
  refine h_mono (k_steps (by omega) hI ) (fun r K h => ?_)
  obtain ⟨z, h1, -, rfl⟩ := h
  exact ⟨⟨z, h1⟩, hI, hG9, rfl, rfl⟩
theorem v_c_told {d : Nat} (hd : 50 ≤ d) {H : hp} (hI : Inv H) (hG9 : GX H) {a : Int} (ha : -2147483648 ≤ a ∧ a ≤ 2147483647) : hE d mt_10 [.inr (.inr 1), .inl a] H (BX (H.1 2 1) (H.1 1826 28)) := by
  refine hE_mono (h_ownw (i := 10) rfl rfl (cl_xsw [a]) hI hG9.2.1.2.2.2.2 (h_own (i := 10) rfl rfl (cl_xs [a]) hI (h_names (by decide +kernel : gM gG mt_10 = true) (k_told (by omega) hI ha)))) (fun r K h9 => ?_)
  obtain ⟨⟨⟨h, hn⟩, hs9⟩, hw9⟩ := h9
  obtain ⟨z, h1, -, h3, f⟩ := h
  exact fq_BX hG9 hn hs9 hw9 h1 h3 f (f.1 2 1 rfl (by decide) (by decide)).1 (by first | exact Or.inl rfl | exact Or.inr rfl) rfl rfl (by decide) (by decide) (by decide)
theorem v_c_begin {d : Nat} (hd : 50 ≤ d) {H : hp} (hI : Inv H) (hG9 : GX H) {a : Int} {b : Int} (ha : -2147483648 ≤ a ∧ a ≤ 2147483647) (hb : 0 ≤ b ∧ b ≤ 1) : hE d mt_11 [.inr (.inr 1), .inl a, .inl b] H (BX (H.1 2 1) (H.1 1826 28)) := by
  refine hE_mono (h_ownw (i := 11) rfl rfl (cl_xsw [a, b]) hI hG9.2.1.2.2.2.2 (h_own (i := 11) rfl rfl (cl_xs [a, b]) hI (h_names (by decide +kernel : gM gG mt_11 = true) (k_begin (by omega) hI ha hb)))) (fun r K h9 => ?_)
  obtain ⟨⟨⟨h, hn⟩, hs9⟩, hw9⟩ := h9
  obtain ⟨z, h1, -, h3, f⟩ := h
  exact fq_BX hG9 hn hs9 hw9 h1 h3 f (f.1 2 1 rfl (by decide) (by decide)).1 (by first | exact Or.inl rfl | exact Or.inr rfl) rfl rfl (by decide) (by decide) (by decide)
theorem v_c_unfold {d : Nat} (hd : 50 ≤ d) {H : hp} (hI : Inv H) (hG9 : GX H) {a : Int} {b : Int} (ha : -2147483648 ≤ a ∧ a ≤ 2147483647) (hb : -2147483648 ≤ b ∧ b ≤ 2147483647) : hE d mt_12 [.inr (.inr 1), .inl a, .inl b] H (BX (H.1 2 1) (H.1 1826 28)) := by
  refine hE_mono (h_ownw (i := 12) rfl rfl (cl_xsw [a, b]) hI hG9.2.1.2.2.2.2 (h_own (i := 12) rfl rfl (cl_xs [a, b]) hI (h_names (by decide +kernel : gM gG mt_12 = true) (k_unfold (by omega) hI ha hb)))) (fun r K h9 => ?_)
  obtain ⟨⟨⟨h, hn⟩, hs9⟩, hw9⟩ := h9
  obtain ⟨z, h1, -, h3, f⟩ := h
  exact fq_BX hG9 hn hs9 hw9 h1 h3 f (f.1 2 1 rfl (by decide) (by decide)).1 (by first | exact Or.inl rfl | exact Or.inr rfl) rfl rfl (by decide) (by decide) (by decide)
theorem v_c_law {d : Nat} (hd : 50 ≤ d) {H : hp} (hI : Inv H) (hG9 : GX H) {a : Int} {b : Int} {c : Int} {e : Int} (ha : -2147483648 ≤ a ∧ a ≤ 2147483647) (hb : 0 ≤ b ∧ b ≤ 1) (hc : -2147483648 ≤ c ∧ c ≤ 2147483647) (he : -2147483648 ≤ e ∧ e ≤ 2147483647) : hE d mt_13 [.inr (.inr 1), .inl a, .inl b, .inl c, .inl e] H (BX (H.1 2 1) (H.1 1826 28)) := by
  refine hE_mono (h_ownw (i := 13) rfl rfl (cl_xsw [a, b, c, e]) hI hG9.2.1.2.2.2.2 (h_own (i := 13) rfl rfl (cl_xs [a, b, c, e]) hI (h_names (by decide +kernel : gM gG mt_13 = true) (k_law (by omega) hI ha hb hc he)))) (fun r K h9 => ?_)
  obtain ⟨⟨⟨h, hn⟩, hs9⟩, hw9⟩ := h9
  obtain ⟨z, h1, -, h3, f⟩ := h
  exact fq_BX hG9 hn hs9 hw9 h1 h3 f (f.1 2 1 rfl (by decide) (by decide)).1 (by first | exact Or.inl rfl | exact Or.inr rfl) rfl rfl (by decide) (by decide) (by decide)
theorem v_c_hypothesis {d : Nat} (hd : 50 ≤ d) {H : hp} (hI : Inv H) (hG9 : GX H) {a : Int} {b : Int} {c : Int} {e : Int} (ha : -2147483648 ≤ a ∧ a ≤ 2147483647) (hb : 0 ≤ b ∧ b ≤ 1) (hc : -2147483648 ≤ c ∧ c ≤ 2147483647) (he : -2147483648 ≤ e ∧ e ≤ 2147483647) : hE d mt_14 [.inr (.inr 1), .inl a, .inl b, .inl c, .inl e] H (BX (H.1 2 1) (H.1 1826 28)) := by
  refine hE_mono (h_ownw (i := 14) rfl rfl (cl_xsw [a, b, c, e]) hI hG9.2.1.2.2.2.2 (h_own (i := 14) rfl rfl (cl_xs [a, b, c, e]) hI (h_names (by decide +kernel : gM gG mt_14 = true) (k_hypothesis (by omega) hI ha hb hc he)))) (fun r K h9 => ?_)
  obtain ⟨⟨⟨h, hn⟩, hs9⟩, hw9⟩ := h9
  obtain ⟨z, h1, -, h3, f⟩ := h
  exact fq_BX hG9 hn hs9 hw9 h1 h3 f (f.1 2 1 rfl (by decide) (by decide)).1 (by first | exact Or.inl rfl | exact Or.inr rfl) rfl rfl (by decide) (by decide) (by decide)
theorem v_c_induction {d : Nat} (hd : 50 ≤ d) {H : hp} (hI : Inv H) (hG9 : GX H) {a : Int} (ha : -2147483648 ≤ a ∧ a ≤ 2147483647) : hE d mt_15 [.inr (.inr 1), .inl a] H (BX (H.1 2 1) (H.1 1826 28)) := by
  refine hE_mono (h_ownw (i := 15) rfl rfl (cl_xsw [a]) hI hG9.2.1.2.2.2.2 (h_own (i := 15) rfl rfl (cl_xs [a]) hI (h_names (by decide +kernel : gM gG mt_15 = true) (k_induction (by omega) hI ha)))) (fun r K h9 => ?_)
  obtain ⟨⟨⟨h, hn⟩, hs9⟩, hw9⟩ := h9
  obtain ⟨z, h1, -, h3, f⟩ := h
  exact fq_BX hG9 hn hs9 hw9 h1 h3 f (f.1 2 1 rfl (by decide) (by decide)).1 (by first | exact Or.inl rfl | exact Or.inr rfl) rfl rfl (by decide) (by decide) (by decide)
theorem v_c_cases {d : Nat} (hd : 50 ≤ d) {H : hp} (hI : Inv H) (hG9 : GX H) {a : Int} {b : Int} (ha : -2147483648 ≤ a ∧ a ≤ 2147483647) (hb : -2147483648 ≤ b ∧ b ≤ 2147483647) : hE d mt_16 [.inr (.inr 1), .inl a, .inl b] H (BX (H.1 2 1) (H.1 1826 28)) := by
  refine hE_mono (h_ownw (i := 16) rfl rfl (cl_xsw [a, b]) hI hG9.2.1.2.2.2.2 (h_own (i := 16) rfl rfl (cl_xs [a, b]) hI (h_names (by decide +kernel : gM gG mt_16 = true) (k_cases (by omega) hI ha hb)))) (fun r K h9 => ?_)
  obtain ⟨⟨⟨h, hn⟩, hs9⟩, hw9⟩ := h9
  obtain ⟨z, h1, -, h3, f⟩ := h
  exact fq_BX hG9 hn hs9 hw9 h1 h3 f (f.1 2 1 rfl (by decide) (by decide)).1 (by first | exact Or.inl rfl | exact Or.inr rfl) rfl rfl (by decide) (by decide) (by decide)
theorem v_c_same {d : Nat} (hd : 50 ≤ d) {H : hp} (hI : Inv H) (hG9 : GX H)   : hE d mt_17 [.inr (.inr 1)] H (BX (H.1 2 1) (H.1 1826 28)) := by
  refine hE_mono (h_ownw (i := 17) rfl rfl (cl_xsw []) hI hG9.2.1.2.2.2.2 (h_own (i := 17) rfl rfl (cl_xs []) hI (h_names (by decide +kernel : gM gG mt_17 = true) (k_same (by omega) hI )))) (fun r K h9 => ?_)
  obtain ⟨⟨⟨h, hn⟩, hs9⟩, hw9⟩ := h9
  obtain ⟨z, h1, -, h3, f⟩ := h
  exact fq_BX hG9 hn hs9 hw9 h1 h3 f (f.1 2 1 rfl (by decide) (by decide)).1 (by first | exact Or.inl rfl | exact Or.inr rfl) rfl rfl (by decide) (by decide) (by decide)
theorem v_c_parts {d : Nat} (hd : 50 ≤ d) {H : hp} (hI : Inv H) (hG9 : GX H)   : hE d mt_18 [.inr (.inr 1)] H (BX (H.1 2 1) (H.1 1826 28)) := by
  refine hE_mono (h_ownw (i := 18) rfl rfl (cl_xsw []) hI hG9.2.1.2.2.2.2 (h_own (i := 18) rfl rfl (cl_xs []) hI (h_names (by decide +kernel : gM gG mt_18 = true) (k_parts (by omega) hI )))) (fun r K h9 => ?_)
  obtain ⟨⟨⟨h, hn⟩, hs9⟩, hw9⟩ := h9
  obtain ⟨z, h1, -, h3, f⟩ := h
  exact fq_BX hG9 hn hs9 hw9 h1 h3 f (f.1 2 1 rfl (by decide) (by decide)).1 (by first | exact Or.inl rfl | exact Or.inr rfl) rfl rfl (by decide) (by decide) (by decide)
theorem v_c_search {d : Nat} (hd : 50 ≤ d) {H : hp} (hI : Inv H) (hG9 : GX H) {a : Int} (ha : -2147483648 ≤ a ∧ a ≤ 2147483647) : hE d mt_19 [.inr (.inr 1), .inl a] H (BX (H.1 2 1) (H.1 1826 28)) := by
  refine hE_mono (h_ownw (i := 19) rfl rfl (cl_xsw [a]) hI hG9.2.1.2.2.2.2 (h_own (i := 19) rfl rfl (cl_xs [a]) hI (h_names (by decide +kernel : gM gG mt_19 = true) (k_search (by omega) hI ha)))) (fun r K h9 => ?_)
  obtain ⟨⟨⟨h, hn⟩, hs9⟩, hw9⟩ := h9
  obtain ⟨z, h1, -, h3, f⟩ := h
  exact fq_BX hG9 hn hs9 hw9 h1 h3 f (f.1 2 1 rfl (by decide) (by decide)).1 (by first | exact Or.inl rfl | exact Or.inr rfl) rfl rfl (by decide) (by decide) (by decide)
theorem v_c_show {d : Nat} (hd : 50 ≤ d) {H : hp} (hI : Inv H) (hG9 : GX H) {a : Int} {b : Int} (ha : -2147483648 ≤ a ∧ a ≤ 2147483647) (hb : -2147483648 ≤ b ∧ b ≤ 2147483647) : hE d mt_20 [.inr (.inr 1), .inl a, .inl b] H (BX (H.1 2 1) (H.1 1826 28)) := by
  refine hE_mono (h_ownw (i := 20) rfl rfl (cl_xsw [a, b]) hI hG9.2.1.2.2.2.2 (h_own (i := 20) rfl rfl (cl_xs [a, b]) hI (h_names (by decide +kernel : gM gG mt_20 = true) (k_show (by omega) hI ha hb)))) (fun r K h9 => ?_)
  obtain ⟨⟨⟨h, hn⟩, hs9⟩, hw9⟩ := h9
  obtain ⟨z, h1, -, h3, f⟩ := h
  exact fq_BX hG9 hn hs9 hw9 h1 h3 f (f.1 2 1 rfl (by decide) (by decide)).1 (by first | exact Or.inl rfl | exact Or.inr rfl) rfl rfl (by decide) (by decide) (by decide)
theorem v_c_showHypothesis {d : Nat} (hd : 50 ≤ d) {H : hp} (hI : Inv H) (hG9 : GX H) {a : Int} {b : Int} (ha : -2147483648 ≤ a ∧ a ≤ 2147483647) (hb : -2147483648 ≤ b ∧ b ≤ 2147483647) : hE d mt_21 [.inr (.inr 1), .inl a, .inl b] H (BX (H.1 2 1) (H.1 1826 28)) := by
  refine hE_mono (h_ownw (i := 21) rfl rfl (cl_xsw [a, b]) hI hG9.2.1.2.2.2.2 (h_own (i := 21) rfl rfl (cl_xs [a, b]) hI (h_names (by decide +kernel : gM gG mt_21 = true) (k_showHypothesis (by omega) hI ha hb)))) (fun r K h9 => ?_)
  obtain ⟨⟨⟨h, hn⟩, hs9⟩, hw9⟩ := h9
  obtain ⟨z, h1, -, h3, f⟩ := h
  exact fq_BX hG9 hn hs9 hw9 h1 h3 f (f.1 2 1 rfl (by decide) (by decide)).1 (by first | exact Or.inl rfl | exact Or.inr rfl) rfl rfl (by decide) (by decide) (by decide)
theorem v_c_showLaw {d : Nat} (hd : 50 ≤ d) {H : hp} (hI : Inv H) (hG9 : GX H) {a : Int} {b : Int} (ha : -2147483648 ≤ a ∧ a ≤ 2147483647) (hb : -2147483648 ≤ b ∧ b ≤ 2147483647) : hE d mt_22 [.inr (.inr 1), .inl a, .inl b] H (BX (H.1 2 1) (H.1 1826 28)) := by
  refine hE_mono (h_ownw (i := 22) rfl rfl (cl_xsw [a, b]) hI hG9.2.1.2.2.2.2 (h_own (i := 22) rfl rfl (cl_xs [a, b]) hI (h_names (by decide +kernel : gM gG mt_22 = true) (k_showLaw (by omega) hI ha hb)))) (fun r K h9 => ?_)
  obtain ⟨⟨⟨h, hn⟩, hs9⟩, hw9⟩ := h9
  obtain ⟨z, h1, -, h3, f⟩ := h
  exact fq_BX hG9 hn hs9 hw9 h1 h3 f (f.1 2 1 rfl (by decide) (by decide)).1 (by first | exact Or.inl rfl | exact Or.inr rfl) rfl rfl (by decide) (by decide) (by decide)
theorem v_c_printed {d : Nat} (hd : 50 ≤ d) {H : hp} (hI : Inv H) (hG9 : GX H) {a : Int} (ha : -2147483648 ≤ a ∧ a ≤ 2147483647) : hE d mt_23 [.inr (.inr 1), .inl a] H (BX (H.1 2 1) (H.1 1826 28)) := by
  refine hE_of ?_
  refine h_mono (k_printed (by omega) hI ha) (fun r K h => ?_)
  obtain ⟨z, h1, -, rfl⟩ := h
  exact ⟨⟨z, h1⟩, hI, hG9, rfl, rfl⟩
theorem v_r_work {d : Nat} (hd : 50 ≤ d) {H : hp} (hK : Inv H) (hI : GX H) {x : Int} (hx : -2147483648 ≤ x ∧ x ≤ 2147483647) : hG (zs zK) d mt_201 0 (zargs 0 [.inr (.inr 1826), .inl x]) [] H (BX (H.1 2 1) 0) := h_mono (uu_work (by omega) hI.1 hx) (fun _ _ h => GZ9_BX hK hI h)
theorem v_r_fault {d : Nat} (hd : 50 ≤ d) {H : hp} (hK : Inv H) (hI : GX H)  : hG (zs zK) d mt_193 0 (zargs 0 [.inr (.inr 1826)]) [] H (BX (H.1 2 1) (H.1 1826 28)) := h_mono (uu_fault (by omega) hI.1 ) (fun _ _ h => GZ9_BX hK hI h)
theorem v_r_count {d : Nat} (hd : 50 ≤ d) {H : hp} (hK : Inv H) (hI : GX H) {x : Int} (hx : -2147483648 ≤ x ∧ x ≤ 2147483647) : hG (zs zK) d mt_194 0 (zargs 0 [.inr (.inr 1826), .inl x]) [] H (BX (H.1 2 1) (H.1 1826 28)) := h_mono (uu_count (by omega) hI.1 hx) (fun _ _ h => GZ9_BX hK hI h)
theorem v_r_about {d : Nat} (hd : 50 ≤ d) {H : hp} (hK : Inv H) (hI : GX H) {x y : Int} (hx : -2147483648 ≤ x ∧ x ≤ 2147483647) (hy : -2147483648 ≤ y ∧ y ≤ 2147483647) : hG (zs zK) d mt_195 0 (zargs 0 [.inr (.inr 1826), .inl x, .inl y]) [] H (BX (H.1 2 1) (H.1 1826 28)) := h_mono (uu_about (by omega) hI.1 hx hy) (fun _ _ h => GZ9_BX hK hI h)
theorem v_r_steps {d : Nat} (hd : 50 ≤ d) {H : hp} (hK : Inv H) (hI : GX H)  : hG (zs zK) d mt_202 0 (zargs 0 [.inr (.inr 1826)]) [] H (BX (H.1 2 1) (H.1 1826 28)) := h_mono (uu_steps (by omega) hI.1 ) (fun _ _ h => GZ9_BX hK hI h)
theorem v_r_told {d : Nat} (hd : 50 ≤ d) {H : hp} (hK : Inv H) (hI : GX H) {x : Int} (hx : -2147483648 ≤ x ∧ x ≤ 2147483647) : hG (zs zK) d mt_220 0 (zargs 0 [.inr (.inr 1826), .inl x]) [] H (BX (H.1 2 1) (H.1 1826 28)) := h_mono (uu_told (by omega) hI.1 hx) (fun _ _ h => GZ9_BX hK hI h)
theorem v_r_begin {d : Nat} (hd : 50 ≤ d) {H : hp} (hK : Inv H) (hI : GX H) {x b : Int} (hx : -2147483648 ≤ x ∧ x ≤ 2147483647) (hb : 0 ≤ b ∧ b ≤ 1) : hG (zs zK) d mt_227 0 (zargs 0 [.inr (.inr 1826), .inl x, .inl b]) [] H (BX (H.1 2 1) (H.1 1826 28)) := h_mono (uu_begin (by omega) hI.1 hx hb) (fun _ _ h => GZ9_BX hK hI h)
theorem v_r_unfold {d : Nat} (hd : 50 ≤ d) {H : hp} (hK : Inv H) (hI : GX H) {s y : Int} (hs : -2147483648 ≤ s ∧ s ≤ 2147483647) (hy : -2147483648 ≤ y ∧ y ≤ 2147483647) : hG (zs zK) d mt_237 0 (zargs 0 [.inr (.inr 1826), .inl s, .inl y]) [] H (BX (H.1 2 1) (H.1 1826 28)) := h_mono (uu_unfold (by omega) hI.1 hs hy) (fun _ _ h => GZ9_BX hK hI h)
theorem v_r_law {d : Nat} (hd : 50 ≤ d) {H : hp} (hK : Inv H) (hI : GX H) {x b s y : Int} (hx : -2147483648 ≤ x ∧ x ≤ 2147483647) (hb : 0 ≤ b ∧ b ≤ 1) (hs : -2147483648 ≤ s ∧ s ≤ 2147483647) (hy : -2147483648 ≤ y ∧ y ≤ 2147483647) : hG (zs zK) d mt_243 0 (zargs 0 [.inr (.inr 1826), .inl x, .inl b, .inl s, .inl y]) [] H (BX (H.1 2 1) (H.1 1826 28)) := h_mono (uu_law (by omega) hI.1 hx hb hs hy) (fun _ _ h => GZ9_BX hK hI h)
theorem v_r_hypothesis {d : Nat} (hd : 50 ≤ d) {H : hp} (hK : Inv H) (hI : GX H) {x b s y : Int} (hx : -2147483648 ≤ x ∧ x ≤ 2147483647) (hb : 0 ≤ b ∧ b ≤ 1) (hs : -2147483648 ≤ s ∧ s ≤ 2147483647) (hy : -2147483648 ≤ y ∧ y ≤ 2147483647) : hG (zs zK) d mt_245 0 (zargs 0 [.inr (.inr 1826), .inl x, .inl b, .inl s, .inl y]) [] H (BX (H.1 2 1) (H.1 1826 28)) := h_mono (uu_hypothesis (by omega) hI.1 hx hb hs hy) (fun _ _ h => GZ9_BX hK hI h)
theorem v_r_induction {d : Nat} (hd : 50 ≤ d) {H : hp} (hK : Inv H) (hI : GX H) {v : Int} (hv : -2147483648 ≤ v ∧ v ≤ 2147483647) : hG (zs zK) d mt_252 0 (zargs 0 [.inr (.inr 1826), .inl v]) [] H (BX (H.1 2 1) (H.1 1826 28)) := h_mono (uu_induction (by omega) hI.1 hv) (fun _ _ h => GZ9_BX hK hI h)
theorem v_r_cases {d : Nat} (hd : 50 ≤ d) {H : hp} (hK : Inv H) (hI : GX H) {s y : Int} (hs : -2147483648 ≤ s ∧ s ≤ 2147483647) (hy : -2147483648 ≤ y ∧ y ≤ 2147483647) : hG (zs zK) d mt_255 0 (zargs 0 [.inr (.inr 1826), .inl s, .inl y]) [] H (BX (H.1 2 1) (H.1 1826 28)) := h_mono (uu_cases (by omega) hI.1 hs hy) (fun _ _ h => GZ9_BX hK hI h)
theorem v_r_same {d : Nat} (hd : 50 ≤ d) {H : hp} (hK : Inv H) (hI : GX H)  : hG (zs zK) d mt_261 0 (zargs 0 [.inr (.inr 1826)]) [] H (BX (H.1 2 1) (H.1 1826 28)) := h_mono (uu_same (by omega) hI.1 ) (fun _ _ h => GZ9_BX hK hI h)
theorem v_r_parts {d : Nat} (hd : 50 ≤ d) {H : hp} (hK : Inv H) (hI : GX H)  : hG (zs zK) d mt_262 0 (zargs 0 [.inr (.inr 1826)]) [] H (BX (H.1 2 1) (H.1 1826 28)) := h_mono (uu_parts (by omega) hI.1 ) (fun _ _ h => GZ9_BX hK hI h)
theorem v_r_search {d : Nat} (hd : 50 ≤ d) {H : hp} (hK : Inv H) (hI : GX H) {x : Int} (hx : -2147483648 ≤ x ∧ x ≤ 2147483647) : hG (zs zK) d mt_266 0 (zargs 0 [.inr (.inr 1826), .inl x]) [] H (BX (H.1 2 1) (H.1 1826 28)) := h_mono (uu_search (by omega) hI.1 hx) (fun _ _ h => GZ9_BX hK hI h)
theorem v_r_show {d : Nat} (hd : 50 ≤ d) {H : hp} (hK : Inv H) (hI : GX H) {k s : Int} (hk : -2147483648 ≤ k ∧ k ≤ 2147483647) (hs : -2147483648 ≤ s ∧ s ≤ 2147483647) : hG (zs zK) d mt_270 0 (zargs 0 [.inr (.inr 1826), .inl k, .inl s]) [] H (BX (H.1 2 1) (H.1 1826 28)) := h_mono (uu_show (by omega) hI.1 hk hs) (fun _ _ h => GZ9_BX hK hI h)
theorem v_r_showHypothesis {d : Nat} (hd : 50 ≤ d) {H : hp} (hK : Inv H) (hI : GX H) {k s : Int} (hk : -2147483648 ≤ k ∧ k ≤ 2147483647) (hs : -2147483648 ≤ s ∧ s ≤ 2147483647) : hG (zs zK) d mt_271 0 (zargs 0 [.inr (.inr 1826), .inl k, .inl s]) [] H (BX (H.1 2 1) (H.1 1826 28)) := h_mono (uu_showHypothesis (by omega) hI.1 hk hs) (fun _ _ h => GZ9_BX hK hI h)
theorem v_r_showLaw {d : Nat} (hd : 50 ≤ d) {H : hp} (hK : Inv H) (hI : GX H) {l s : Int} (hl : -2147483648 ≤ l ∧ l ≤ 2147483647) (hs : -2147483648 ≤ s ∧ s ≤ 2147483647) : hG (zs zK) d mt_272 0 (zargs 0 [.inr (.inr 1826), .inl l, .inl s]) [] H (BX (H.1 2 1) (H.1 1826 28)) := h_mono (uu_showLaw (by omega) hI.1 hl hs) (fun _ _ h => GZ9_BX hK hI h)
theorem v_r_printed {d : Nat} (hd : 50 ≤ d) {H : hp} (hK : Inv H) (hI : GX H) {x : Int} (hx : -2147483648 ≤ x ∧ x ≤ 2147483647) : hG (zs zK) d mt_207 0 (zargs 0 [.inr (.inr 1826), .inl x]) [] H (BX (H.1 2 1) (H.1 1826 28)) := h_mono (uu_printed (by omega) hI.1 hx) (fun _ _ h => GZ9_BX hK hI h)
theorem v_c_work {d : Nat} (hd : 50 ≤ d) {H : hp} (hI : Inv H) (hG9 : GX H) {a : Int} (ha : -2147483648 ≤ a ∧ a ≤ 2147483647) : hE d mt_7 [.inr (.inr 1), .inl a] H (BX 0 (H.1 1826 28)) := by
  obtain ⟨hE9, ⟨X, hT, h0, -⟩, -⟩ := hG9.2.1
  refine hE_mono (h_ownw (i := 7) rfl rfl (cl_xsw [a]) hI hG9.2.1.2.2.2.2 (hE_of (h_names (by decide +kernel : gM gG mt_7 = true) (qs_work (by omega) hI ha hT hE9 h0)))) (fun r K h9 => ?_)
  obtain ⟨⟨h, hn⟩, hw9⟩ := h9
  obtain ⟨z, h1, ⟨-, h2⟩, h3, f, hs9⟩ := h
  exact fq_BX hG9 hn hs9 hw9 h1 h3 f h2 (Or.inl rfl) rfl rfl (by decide) (by decide) (by decide)
