/-! the reference's reading against the machine: rules -/
def xr (X : rx) : rx := xu (xu (xu X 0 1 0) 0 2 0) 0 8 0
theorem xr_s (X : rx) : xr X 0 0 = X 0 0 ∧ xr X 0 1 = 0 ∧ xr X 0 2 = 0 ∧ xr X 0 8 = 0 ∧ sT X (xr X) := by
  unfold xr
  refine ⟨?_, ?_, ?_, ?_, sT_tr (sT_x0 X _ (Or.inl (by decide))) (sT_tr (sT_x0 _ _ (Or.inl (by decide))) (sT_x0 _ _ (Or.inr (by decide))))⟩
  · rw [xu_0 _ _ (by omega), xu_0 _ _ (by omega), xu_0 _ _ (by omega)]
  · rw [xu_0 _ _ (by omega), xu_0 _ _ (by omega), xu_1]
  · rw [xu_0 _ _ (by omega), xu_1]
  · rw [xu_1]
theorem VP_start {K : hp} {X : rx} {s : Int} (h1 : (K.1 1826 40) = 1) (h2 : (K.1 1826 39) = 0) (h3 : (K.1 1826 43) = 0) : VP K (xput (xr X) s) s := by
  obtain ⟨-, x1, x2, x8, -, -, x13⟩ := xpt_s (xr X) s
  obtain ⟨-, y1, y2, y8, -⟩ := xr_s X
  refine ⟨⟨by omega, by omega, by omega, by omega, by omega⟩, fun v hv => absurd hv (by omega), ⟨by omega, by omega, ?_⟩, fun k hk => absurd hk (by omega)⟩
  rw [x13, y2]
  exact up_eq _ _ _
/-- the left side that was read, kept -/
def LPs (H : hp) (r : Nat) (X : rx) : Prop := (H.1 1836) r + 100 = X 13 0 ∧ (H.1 1838) r + 1 = X 0 2 ∧ ∀ x : Nat, (x : Int) + 1 < X 0 2 → (H.1 1837) (48 * r + x) = X 13 (x + 1)
/-- a rule's left side is the one in row s; its right side -/
def LQ (H : hp) (r : Nat) (X : rx) (s : Nat) : Prop := (H.1 1836) r + 100 = X s 1 ∧ (H.1 1838) r + 1 = X s 0 ∧ ∀ x : Nat, (x : Int) + 1 < X s 0 → (H.1 1837) (48 * r + x) = X s (x + 2)
def RQr (H : hp) (r : Nat) (X : rx) (s : Nat) : Prop := (H.1 1840) r = X s 0 ∧ ∀ x : Nat, (x : Int) < X s 0 → (H.1 1839) (48 * r + x) = X s (x + 1)
/-- a law's side -/
def WQ (H : hp) (i : Nat) (X : rx) (s : Nat) : Prop := (H.1 1843) i = X s 0 ∧ ∀ x : Nat, (x : Int) < X s 0 → (H.1 1842) (48 * i + x) = X s (x + 1)
theorem LPs_fr {ob ar : List Nat} {H K : hp} {r : Nat} {X : rx} (h : LPs H r X) (g : fr ob ar H K) (h1 : ∀ c ∈ [1836, 1837, 1838], c ∉ ar) : LPs K r X := by
  have e : ∀ c ∈ [1836, 1837, 1838], c ≠ 1826 → K.1 c = H.1 c := fun c hc hn => g.2.1 c hn (h1 c hc)
  unfold LPs
  rw [e 1836 (by decide) (by decide), e 1837 (by decide) (by decide), e 1838 (by decide) (by decide)]
  exact h
theorem LQ_fr {ob ar : List Nat} {H K : hp} {r s : Nat} {X : rx} (h : LQ H r X s) (g : fr ob ar H K) (h1 : ∀ c ∈ [1836, 1837, 1838], c ∉ ar) : LQ K r X s := by
  have e : ∀ c ∈ [1836, 1837, 1838], c ≠ 1826 → K.1 c = H.1 c := fun c hc hn => g.2.1 c hn (h1 c hc)
  unfold LQ
  rw [e 1836 (by decide) (by decide), e 1837 (by decide) (by decide), e 1838 (by decide) (by decide)]
  exact h
theorem LQ_x {H : hp} {r s : Nat} {X X1 : rx} (h : LQ H r X s) (e : X1 s = X s) : LQ H r X1 s := by
  unfold LQ
  rw [e]
  exact h
theorem LQ_of {H : hp} {r s : Nat} {X5 X6 X7 : rx} (h : LPs H r X5) (e : X6 = adv X5) (h40 : X5 0 2 ≤ 41) (hs : 100 ≤ s) (hx : X7 s = xu (xsd X6 s) 0 2 0 s) : LQ H r X7 s := by
  have e1 : X7 s = xsd X6 s s := hx.trans (xu_ne _ _ _ (by omega))
  obtain ⟨g0, g1⟩ := xsd_eq X6 hs
  obtain ⟨-, a2, -, -, -, a13⟩ := adv_s X5
  rw [e, a2] at g0
  obtain ⟨h1, h2, h3⟩ := h
  unfold LQ
  rw [e1]
  have g2 : ∀ j : Nat, j < 900 → xsd X6 s s (j + 1) = X5 13 j := fun j hj => (g1 j hj).trans (by rw [e, a13])
  rw [e] at g2 ⊢
  refine ⟨h1.trans (g2 0 (by decide)).symm, h2.trans g0.symm, fun x hx9 => ?_⟩
  rw [g0] at hx9
  rw [g2 (x + 1) (by omega)]
  exact h3 x hx9
theorem RQ_fr {ob ar : List Nat} {H K : hp} {r s : Nat} {X : rx} (h : RQr H r X s) (g : fr ob ar H K) (h1 : ∀ c ∈ [1839, 1840], c ∉ ar) : RQr K r X s := by
  have e : ∀ c ∈ [1839, 1840], c ≠ 1826 → K.1 c = H.1 c := fun c hc hn => g.2.1 c hn (h1 c hc)
  unfold RQr
  rw [e 1839 (by decide) (by decide), e 1840 (by decide) (by decide)]
  exact h
theorem WQ_fr {ob ar : List Nat} {H K : hp} {i s : Nat} {X : rx} (h : WQ H i X s) (g : fr ob ar H K) (h1 : ∀ c ∈ [1842, 1843], c ∉ ar) : WQ K i X s := by
  have e : ∀ c ∈ [1842, 1843], c ≠ 1826 → K.1 c = H.1 c := fun c hc hn => g.2.1 c hn (h1 c hc)
  unfold WQ
  rw [e 1842 (by decide) (by decide), e 1843 (by decide) (by decide)]
  exact h
theorem WQ_x {H : hp} {i s : Nat} {X X1 : rx} (h : WQ H i X s) (e : X1 s = X s) : WQ H i X1 s := by
  unfold WQ
  rw [e]
  exact h
/-- a law's variables and their types -/
def WV (H : hp) (l : Nat) (X : rx) : Prop := ((H.1 1845) l = X (4 * l + 103) 1000 ∧ X (4 * l + 103) 1000 ≤ 6) ∧ ∀ v : Nat, (v : Int) < X (4 * l + 103) 1000 → (H.1 1846) (6 * l + v) = X (4 * l + 103) (1001 + v)
theorem WV_fr {ob ar : List Nat} {H K : hp} {l : Nat} {X : rx} (h : WV H l X) (g : fr ob ar H K) (h1 : ∀ c ∈ [1845, 1846], c ∉ ar) : WV K l X := by
  have e : ∀ c ∈ [1845, 1846], c ≠ 1826 → K.1 c = H.1 c := fun c hc hn => g.2.1 c hn (h1 c hc)
  unfold WV
  rw [e 1845 (by decide) (by decide), e 1846 (by decide) (by decide)]
  exact h
theorem WV_x {H : hp} {l : Nat} {X X1 : rx} (h : WV H l X) (e : X1 (4 * l + 103) = X (4 * l + 103)) : WV H l X1 := by
  unfold WV
  rw [e]
  exact h
theorem WV_of {H : hp} {l v : Nat} {X X1 : rx} (hV : VR H X) (h8 : X 0 8 = 1) (hlv : (H.1 1845) l = v) (hv : (H.1 1826 39) = v ∧ v ≤ 6) (hcp : ∀ x, x < v → (H.1 1846) (6 * l + x) = (H.1 1850) x) (hx : X1 (4 * l + 103) = xsd X (4 * l + 103) (4 * l + 103)) : WV H l X1 := by
  obtain ⟨y1, y2⟩ := xsd_vr X (s := 4 * l + 103) (by omega)
  obtain ⟨⟨a1, a2⟩, a3⟩ := hV.2 (by omega)
  unfold WV
  rw [hx, y1]
  refine ⟨⟨by omega, by omega⟩, fun x hx9 => ?_⟩
  rw [y2 x, hcp x (by omega)]
  exact (a3 x hx9).2
/-- a law's side is kept -/
theorem WQ_of {H K : hp} {i s : Nat} {X X1 : rx} (h : RD H X) (hz : (K.1 1843) = up (H.1 1843) i (H.1 1826 43)) (hc : ∀ x : Nat, (x : Int) < (H.1 1826 43) → (K.1 1842) (48 * i + x) = (H.1 1851) x) (h40 : (H.1 1826 43) ≤ 40) (hs : 100 ≤ s) (hx : X1 s = xsd X s s) : WQ K i X1 s := by
  obtain ⟨g0, g1⟩ := xsd_eq X hs
  obtain ⟨h1, h2⟩ := h
  unfold WQ
  rw [hx, g0, hz, up_eq]
  refine ⟨h1, fun x hx9 => ?_⟩
  rw [g1 x (by omega), hc x (by omega)]
  exact h2 x hx9
theorem WQ_keep {H K : hp} {i i' s : Nat} {X : rx} {z : Int} (h : WQ H i X s) (hz : (K.1 1843) = up (H.1 1843) i' z) (hb : ∀ x, x < 48 * i' → (K.1 1842) x = (H.1 1842) x) (hi : i < i') (h40 : X s 0 ≤ 40) : WQ K i X s := by
  refine ⟨by rw [hz, up_ne _ _ (by omega)]; exact h.1, fun x hx => ?_⟩
  rw [hb _ (by omega)]
  exact h.2 x hx
theorem RQ_of {H : hp} {r s : Nat} {X X1 : rx} {k : Nat} (h : RD H X) (hk : (H.1 1826 43) = k) (hz : (H.1 1840) r = k) (hc : ∀ x, x < k → (H.1 1839) (48 * r + x) = (H.1 1851) x) (h40 : k ≤ 40) (hs : 100 ≤ s) (hx : X1 s = xsd X s s) : RQr H r X1 s := by
  obtain ⟨g0, g1⟩ := xsd_eq X hs
  obtain ⟨h1, h2⟩ := h
  unfold RQr
  rw [hx, g0]
  refine ⟨by omega, fun x hx9 => ?_⟩
  rw [g1 x (by omega), hc x (by omega)]
  exact h2 x hx9
theorem x02 (X : rx) : xu X 0 2 0 0 0 = X 0 0 ∧ xu X 0 2 0 0 1 = X 0 1 ∧ xu X 0 2 0 0 2 = 0 ∧ xu X 0 2 0 0 8 = X 0 8 ∧ xu X 0 2 0 10 = X 10 ∧ xu X 0 2 0 11 = X 11 ∧ sT X (xu X 0 2 0) := ⟨xu_0 _ _ (by omega), xu_0 _ _ (by omega), xu_1 _ _ _ _, xu_0 _ _ (by omega), xu_ne _ _ _ (by decide), xu_ne _ _ _ (by decide), sT_x0 X _ (Or.inl (by decide))⟩
theorem VR_VP {H K : hp} {X : rx} {fz : Int} {s : Nat} (h : VP H X fz) (h1 : (K.1 1826 40) = 0) (h2 : (K.1 1826 44) = 1) (ev : (K.1 1826 39) = (H.1 1826 39)) (e3 : (K.1 1849) = (H.1 1849)) (e4 : (K.1 1850) = (H.1 1850)) : VR K (xu (xsd X s) 0 2 0) := by
  show VR K (xu X 0 2 0)
  obtain ⟨-, x1, x2, x8, x10, x11, -⟩ := x02 X
  obtain ⟨⟨a1, a2, a3, a4, a5⟩, b, -⟩ := h
  refine ⟨⟨by omega, by omega, by omega⟩, fun _ => ⟨⟨by omega, by omega⟩, ?_⟩⟩
  rw [x1, x10, x11, e3, e4]
  exact b
theorem VR_VR {H K : hp} {X : rx} {s : Nat} (h : VR H X) (h1 : (K.1 1826 40) = 0) (h2 : (K.1 1826 44) = (H.1 1826 44)) (ev : (K.1 1826 39) = (H.1 1826 39)) (e3 : (K.1 1849) = (H.1 1849)) (e4 : (K.1 1850) = (H.1 1850)) : VR K (xu (xsd X s) 0 2 0) := by
  show VR K (xu X 0 2 0)
  obtain ⟨-, x1, x2, x8, x10, x11, -⟩ := x02 X
  obtain ⟨⟨a1, a2, a3⟩, b⟩ := h
  refine ⟨⟨by omega, by omega, by omega⟩, fun q => ?_⟩
  rw [x1, x10, x11, e3, e4, ev]
  exact b (by omega)
theorem VR_eq {H K : hp} {X : rx} (h : VR H X) (e1 : (K.1 1826 40) = (H.1 1826 40)) (es : (K.1 1826 44) = (H.1 1826 44)) (ev : (K.1 1826 39) = (H.1 1826 39)) (e3 : (K.1 1849) = (H.1 1849)) (e4 : (K.1 1850) = (H.1 1850)) : VR K X := by
  unfold VR
  rw [e1, es, ev, e3, e4]
  exact h
/-- a rule more -/
theorem RK_rule {ob ar : List Nat} {Y : yx} {m : Int} {H K : hp} {X : rx} (h : RK Y m H X) (f : fr ob ar H K) (h1 : ∀ c ∈ 1848 :: [1827, 1828, 1829, 1830, 1831, 1832, 1833, 1834, 1835, 1841], c ∉ ar) (h2 : ∀ j ∈ [29, 30, 31, 32, 33, 35, 1, 3, 8, 19], j ∉ ob) (e : (K.1 1826 13) = (H.1 1826 13) + 1) : RK Y m K (xu X 0 6 (X 0 6 + 1)) := by
  obtain ⟨a, hY, b, h0, a1, a2, a3, a4, a5⟩ := h
  have x0 : ∀ {j : Nat}, j ≠ 6 → xu X 0 6 (X 0 6 + 1) 0 j = X 0 j := fun hj => xu_0 _ _ (fun q => hj q.2)
  have xr9 : ∀ {c : Nat}, c ≠ 0 → xu X 0 6 (X 0 6 + 1) c = X c := fun hc => xu_ne _ _ _ hc
  refine ⟨by rw [f.2.2 35 (h2 _ (by decide))]; exact a, YB_fr hY f (h1 _ (by decide)) (h2 _ (by decide)), ?_, by rw [x0 (by decide)]; exact h0, A1_cg a1 f (h1 _ (by decide)) (h2 _ (by decide)) (x0 (by decide)) (xr9 (by decide)), A2_cg a2 f (fun c hc => h1 c (by simp only [List.mem_cons, List.not_mem_nil, or_false] at hc ⊢; omega)) (h2 _ (by decide)) (x0 (by decide)) (fun c c1 c2 => xr9 (by omega)), A3_cg a3 f (fun c hc => h1 c (by simp only [List.mem_cons, List.not_mem_nil, or_false] at hc ⊢; omega)) (h2 _ (by decide)) (x0 (by decide)) (xr9 (by decide)) (xr9 (by decide)) (xr9 (by decide)), ⟨⟨?_, ?_⟩, ?_⟩, TF_cg a5 f (h1 _ (by decide)) (fun k _ => congrFun (xr9 (by decide)) k)⟩
  · unfold TKs xi
    rw [x0 (by decide), f.2.2 30 (h2 _ (by decide)), f.2.2 31 (h2 _ (by decide)), f.2.2 32 (h2 _ (by decide)), f.2.2 33 (h2 _ (by decide))]
    exact b
  · rw [e, xu_1, a4.1.1]
  · rw [f.2.2 19 (h2 _ (by decide)), x0 (by decide)]
    exact a4.1.2
  · rw [x0 (by decide), xr9 (by decide), f.2.1 1841 (by decide) (h1 _ (by decide))]
    exact a4.2
/-- a law more -/
theorem RK_law {ob ar : List Nat} {Y : yx} {m : Int} {H K : hp} {X : rx} {l : Nat} (h : RK Y m H X) (f : fr ob ar H K) (h1 : ∀ c ∈ 1848 :: [1827, 1828, 1829, 1830, 1831, 1832, 1833, 1834, 1835, 1841], c ∉ ar) (h2 : ∀ j ∈ [29, 30, 31, 32, 33, 35, 1, 3, 8, 13], j ∉ ob) (e : (K.1 1826 19) = (H.1 1826 19) + 1) (hl : (H.1 1826 19) = l) (hn : (H.1 1841) l = X 12 l) : RK Y m K (xu X 0 7 (X 0 7 + 1)) := by
  obtain ⟨a, hY, b, h0, a1, a2, a3, a4, a5⟩ := h
  have x0 : ∀ {j : Nat}, j ≠ 7 → xu X 0 7 (X 0 7 + 1) 0 j = X 0 j := fun hj => xu_0 _ _ (fun q => hj q.2)
  have xr9 : ∀ {c : Nat}, c ≠ 0 → xu X 0 7 (X 0 7 + 1) c = X c := fun hc => xu_ne _ _ _ hc
  refine ⟨by rw [f.2.2 35 (h2 _ (by decide))]; exact a, YB_fr hY f (h1 _ (by decide)) (h2 _ (by decide)), ?_, by rw [x0 (by decide)]; exact h0, A1_cg a1 f (h1 _ (by decide)) (h2 _ (by decide)) (x0 (by decide)) (xr9 (by decide)), A2_cg a2 f (fun c hc => h1 c (by simp only [List.mem_cons, List.not_mem_nil, or_false] at hc ⊢; omega)) (h2 _ (by decide)) (x0 (by decide)) (fun c c1 c2 => xr9 (by omega)), A3_cg a3 f (fun c hc => h1 c (by simp only [List.mem_cons, List.not_mem_nil, or_false] at hc ⊢; omega)) (h2 _ (by decide)) (x0 (by decide)) (xr9 (by decide)) (xr9 (by decide)) (xr9 (by decide)), ⟨⟨?_, ?_⟩, fun k hk => ?_⟩, TF_cg a5 f (h1 _ (by decide)) (fun k _ => congrFun (xr9 (by decide)) k)⟩
  · unfold TKs xi
    rw [x0 (by decide), f.2.2 30 (h2 _ (by decide)), f.2.2 31 (h2 _ (by decide)), f.2.2 32 (h2 _ (by decide)), f.2.2 33 (h2 _ (by decide))]
    exact b
  · rw [f.2.2 13 (h2 _ (by decide)), x0 (by decide)]
    exact a4.1.1
  · rw [e, xu_1, a4.1.2]
  · rw [xu_1] at hk
    rw [xr9 (by decide), f.2.1 1841 (by decide) (h1 _ (by decide))]
    have := a4.1.2
    by_cases q : k = l
    · rw [q]
      exact hn
    · exact a4.2 k (by omega)

/-! rule -/
set_option maxRecDepth 100000 in
theorem n_rule_cut {zC : Nat → Option zsh} {d : Nat} (hd : 8 ≤ d) {H : hp}  {Y : yx} {m : Int} {c0 : cf} {K : List tq} {X : rx} {nn : Int} (h0 : 0 ≤ (H.1 1826 30) ∧ (H.1 1826 30) ≤ (H.1 1826 29) ∧ (H.1 1826 29) ≤ 1000) (hw : 0 ≤ (H.1 1826 35) ∧ (H.1 1826 35) ≤ 5) (hst : 0 ≤ (H.1 1826 32) ∧ (H.1 1826 32) ≤ 1000) (hP : PWc H) (hw0 : (H.1 1826 35) = 0) (hR : RK Y m H X) (hmf : (H.1 1826 8) = m) (hq : rch Y c0 ((6, nn, 0, 0) :: K, X)) (htk : tk Y (xi X) = 6) : ∀ w : Nat, (∀ (H1 : hp) (r : Nat) (f : Nat) (i : Nat) (kl : Nat) (q : Nat), (fr [30, 31, 32, 33, 35, 36, 13, 39, 40, 41, 43, 44, 47] [1836, 1837, 1838, 1839, 1840, 1849, 1850, 1851, 1852, 1853, 1854] H H1) → ((H.1 1826 30) ≤ (H1.1 1826 30) ∧ (H1.1 1826 30) ≤ (H.1 1826 29)) → (0 ≤ (H1.1 1826 35) ∧ (H1.1 1826 35) ≤ 5) → (0 ≤ (H1.1 1826 32) ∧ (H1.1 1826 32) ≤ 1000) → (agp H H1) → ((H1.1 1826 35) = 0) → ((r : Int) = (H.1 1826 13) ∧ (H.1 1826 13) ≤ 39) → ((f : Int) < (H.1 1826 8)) → ((H1.1 1826 1) = (H.1 1826 1) ∧ (H1.1 1826 3) = (H.1 1826 3) ∧ (H1.1 1826 8) = (H.1 1826 8) ∧ (H1.1 1826 13) = (H.1 1826 13) ∧ (H1.1 1826 19) = (H.1 1826 19)) → (((H1.1 1826 43) = kl ∧ kl ≤ 39 ∧ (H1.1 1833) f = q) ∧ tm (ma (H1.1 1833) (H1.1 1830)) (m_sp (H1.1 1826 3)) (H1.1 1851) kl 0 q ∧ (0 ≤ (H1.1 1826 39) ∧ (H1.1 1826 39) ≤ 39) ∧ ∀ v : Nat, (v : Int) < (H1.1 1826 39) → ∃ y : Nat, y < kl ∧ (H1.1 1851) y = 1000 + v) → ((H1.1 1836) r = f ∧ (H1.1 1838) r = kl) → (i ≤ kl) → (∀ x, x < i → (H1.1 1837) (48 * r + x) = (H1.1 1851) x) → (∃ X5 : rx, rch Y c0 (((1, 61, 0, 0) :: ((12, (f : Int), 0, 0) :: (13, 0, 0, 0) :: ((1, 59, 0, 0) :: (6, nn + 1, 0, 0) :: K))), X5) ∧ RK Y m H1 X5 ∧ VP H1 X5 (100 + (f : Int))) → 1000 + (kl - i) < w → hG (zs zC) d mt_186 144 [(0, .inr (.inr 1826)), (1, .inl (f : Int)), (2, .inl (r : Int)), (3, .inl (i : Int))] [] H1 (fun r H2 => r = none ∧ GB Y m c0 H2 (∃ X2 : rx, rch Y c0 (((1, 59, 0, 0) :: (6, nn + 1, 0, 0) :: K), X2) ∧ RK Y m H2 X2 ∧ X2 0 6 = X 0 6 + 1 ∧ LQ H2 (X 0 6).toNat X2 (4 * (X 0 6).toNat + 100) ∧ RQr H2 (X 0 6).toNat X2 (4 * (X 0 6).toNat + 101)) ∧ fr [30, 31, 32, 33, 35, 36, 13, 39, 40, 41, 43, 44, 47] [1836, 1837, 1838, 1839, 1840, 1849, 1850, 1851, 1852, 1853, 1854] H H2 ∧ ((H.1 1826 30) ≤ (H2.1 1826 30) ∧ (H2.1 1826 30) ≤ (H.1 1826 29)) ∧ (0 ≤ (H2.1 1826 35) ∧ (H2.1 1826 35) ≤ 5) ∧ ((H.1 1826 35) ≠ 0 → (H2.1 1826 35) ≠ 0) ∧ (0 ≤ (H2.1 1826 32) ∧ (H2.1 1826 32) ≤ 1000) ∧ agp H H2 ∧ ((H2.1 1826 35) = 0 → PWc H2))) ∧ (∀ (H1 : hp) (r : Nat) (f : Nat) (i : Nat) (kl : Nat) (q : Nat) (kr : Nat), (fr [30, 31, 32, 33, 35, 36, 13, 39, 40, 41, 43, 44, 47] [1836, 1837, 1838, 1839, 1840, 1849, 1850, 1851, 1852, 1853, 1854] H H1) → ((H.1 1826 30) ≤ (H1.1 1826 30) ∧ (H1.1 1826 30) ≤ (H.1 1826 29)) → (0 ≤ (H1.1 1826 35) ∧ (H1.1 1826 35) ≤ 5) → (0 ≤ (H1.1 1826 32) ∧ (H1.1 1826 32) ≤ 1000) → (agp H H1) → ((H1.1 1826 35) = 0) → ((r : Int) = (H.1 1826 13) ∧ (H.1 1826 13) ≤ 39) → ((f : Int) < (H.1 1826 8)) → ((H1.1 1826 1) = (H.1 1826 1) ∧ (H1.1 1826 3) = (H.1 1826 3) ∧ (H1.1 1826 8) = (H.1 1826 8) ∧ (H1.1 1826 13) = (H.1 1826 13) ∧ (H1.1 1826 19) = (H.1 1826 19)) → (RL H1 r f kl q) → ((H1.1 1840) r = kr) → ((H1.1 1826 43) = kr ∧ kr ≤ 40) → (tm (ma (H1.1 1833) (H1.1 1830)) (m_sg (H1.1 1826 3) (H1.1 1826 8) (H1.1 1826 39)) (H1.1 1851) kr 0 1) → (i ≤ kr) → (∀ x, x < i → (H1.1 1839) (48 * r + x) = (H1.1 1851) x) → (∃ X7 : rx, rch Y c0 ((13, 0, 0, 0) :: ((1, 59, 0, 0) :: (6, nn + 1, 0, 0) :: K), X7) ∧ RK Y m H1 X7 ∧ RD H1 X7 ∧ X7 0 6 = X 0 6 ∧ LQ H1 r X7 (4 * (X 0 6).toNat + 100)) → (kr - i) < w → hG (zs zC) d mt_186 238 [(0, .inr (.inr 1826)), (1, .inl (f : Int)), (2, .inl (r : Int)), (3, .inl (i : Int))] [] H1 (fun r H2 => r = none ∧ GB Y m c0 H2 (∃ X2 : rx, rch Y c0 (((1, 59, 0, 0) :: (6, nn + 1, 0, 0) :: K), X2) ∧ RK Y m H2 X2 ∧ X2 0 6 = X 0 6 + 1 ∧ LQ H2 (X 0 6).toNat X2 (4 * (X 0 6).toNat + 100) ∧ RQr H2 (X 0 6).toNat X2 (4 * (X 0 6).toNat + 101)) ∧ fr [30, 31, 32, 33, 35, 36, 13, 39, 40, 41, 43, 44, 47] [1836, 1837, 1838, 1839, 1840, 1849, 1850, 1851, 1852, 1853, 1854] H H2 ∧ ((H.1 1826 30) ≤ (H2.1 1826 30) ∧ (H2.1 1826 30) ≤ (H.1 1826 29)) ∧ (0 ≤ (H2.1 1826 35) ∧ (H2.1 1826 35) ≤ 5) ∧ ((H.1 1826 35) ≠ 0 → (H2.1 1826 35) ≠ 0) ∧ (0 ≤ (H2.1 1826 32) ∧ (H2.1 1826 32) ≤ 1000) ∧ agp H H2 ∧ ((H2.1 1826 35) = 0 → PWc H2))) := by
  intro w
  induction w with
  | zero => exact ⟨fun _ _ _ _ _ _ _ _ _ _ _ _ _ _ _ _ _ _ _ _ h => absurd h (Nat.not_lt_zero _), fun _ _ _ _ _ _ _ _ _ _ _ _ _ _ _ _ _ _ _ _ _ _ _ h => absurd h (Nat.not_lt_zero _)⟩
  | succ w ih =>
    refine ⟨?_, ?_⟩
    · intro H1 r f i kl q hf ha hk hst1 hag hgd hr hfu hcn hq9 hrf hi hcp hRG hw
      refine h_rng (fun hrg1 => ?_)
      obtain ⟨⟨pb1, pb2, pb3, pb4, pb5⟩, pw1, pw2, pw3, pw4⟩ := (id hP : PW H (H.1 1826 1) (H.1 1826 3) (H.1 1826 8) (H.1 1826 13) (H.1 1826 19))
      obtain ⟨⟨hp1, hp2, hp3⟩, hp4, hp5, hp6⟩ := id hq9
      obtain ⟨X5, hq5, hR5, hV5⟩ := hRG
      have hx6 := hR.2.2.2.2.2.2.2.1.1.1
      refine h_run 3 (pc' := 149) (l' := [(0, .inr (.inr 1826)), (1, .inl (f : Int)), (2, .inl (r : Int)), (3, .inl (i : Int))]) (st' := [.inl (H1.1 1826 43), .inl (i : Int)]) rfl ?_
      have g2 : -2147483648 ≤ (H1.1 1826 43) ∧ (H1.1 1826 43) ≤ 2147483647 := hrg1.1 1826 13 43 _ .int rfl rfl
      refine h_ige (off := 26) (t := 175) rfl rfl (by omega) (by omega) (fun c3 => ?_) (fun c3 => ?_)
      · have hRL0 : RL H1 r f kl q := ⟨⟨hrf.1, hrf.2, hp2, hp3⟩, tm_at hp4 (fun x hx => by rw [Nat.zero_add]; exact hcp x (by omega)), hp5, fun v hv => by obtain ⟨y, hy, e9⟩ := hp6 v hv; exact ⟨y, hy, by rw [hcp y (by omega)]; exact e9⟩⟩
        have hLP0 : LPs H1 r X5 := ⟨by have q9 := hV5.2.2.1.2.2; have q8 := hrf.1; omega, by have q9 := hV5.2.2.1.2.1; have q8 := hrf.2; omega, fun x hx => by have q9 := hV5.2.2.1.2.1; rw [hcp x (by omega)]; exact hV5.2.2.2 x hx⟩
        refine h_run 2 (pc' := 178) (l' := [(0, .inr (.inr 1826)), (1, .inl (f : Int)), (2, .inl (r : Int)), (3, .inl (i : Int))]) (st' := [.inl 61, .inr (.inr 1826)]) rfl ?_
        have g4 : -2147483648 ≤ (H1.1 1826 35) ∧ (H1.1 1826 35) ≤ 2147483647 := hrg1.1 1826 13 35 _ .int rfl rfl
        have g5 : -2147483648 ≤ (H1.1 1826 30) ∧ (H1.1 1826 30) ≤ 2147483647 := hrg1.1 1826 13 30 _ .int rfl rfl
        have g6 : -2147483648 ≤ (H1.1 1826 29) ∧ (H1.1 1826 29) ≤ 2147483647 := hrg1.1 1826 13 29 _ .int rfl rfl
        have e7 : (H1.1 1826 29) = (H.1 1826 29) := hf.2.2 29 (by decide)
        have g8 : -2147483648 ≤ (H1.1 1826 31) ∧ (H1.1 1826 31) ≤ 2147483647 := hrg1.1 1826 13 31 _ .int rfl rfl
        have g10 : -2147483648 ≤ (H1.1 1826 32) ∧ (H1.1 1826 32) ≤ 2147483647 := hrg1.1 1826 13 32 _ .int rfl rfl
        refine h_cv (i := 313) (j := 166) (b := 1826) (M' := mt_166) (xs := [.inl 61]) (rest := []) rfl rfl rfl rfl rfl rfl (Nat.le_of_ble_eq_true rfl) (Nat.le_of_ble_eq_true rfl) (by omega) (n_want (by omega) (by omega : 0 ≤ (H1.1 1826 30) ∧ (H1.1 1826 30) ≤ (H1.1 1826 29) ∧ (H1.1 1826 29) ≤ 1000) (by omega : 0 ≤ (H1.1 1826 35) ∧ (H1.1 1826 35) ≤ 5) (by omega : 0 ≤ (H1.1 1826 32) ∧ (H1.1 1826 32) ≤ 1000) (by omega) (by omega : (H1.1 1826 35) = 0) hR5 hq5 (lk_c (lk_c (lk_1 (by decide)) (by decide : (13 : Nat) ≠ 0) (fun q => absurd q (by decide : (13 : Nat) ≠ 1))) (by decide : (12 : Nat) ≠ 0) (fun q => absurd q (by decide : (12 : Nat) ≠ 1)))) ?_
        rintro _ H9 ⟨rfl, hx9n, hx9f, hx9a, hx9b, hx9c, -, hx9e, hx9g⟩
        refine h_rng (fun hrg11 => ?_)
        have hf12 : fr [30, 31, 32, 33, 35, 36, 13, 39, 40, 41, 43, 44, 47] [1836, 1837, 1838, 1839, 1840, 1849, 1850, 1851, 1852, 1853, 1854] H H9 := fr_t hf hx9f (by decide) (by decide)
        have ha13 : agp H H9 := agp_tr hag (agp_fr hx9f (by decide) (by decide))
        replace hx9a : (H1.1 1826 30) ≤ (H9.1 1826 30) := hx9a
        replace hx9b : (H9.1 1826 30) ≤ (H1.1 1826 29) := hx9b
        replace hx9g : (H9.1 1826 35) = 0 → (H1.1 1826 31) = (61 : Int) ∧ ((H9.1 1826 31) = 0 ∨ (H1.1 1826 30) < (H9.1 1826 30)) := hx9g
        refine h_run 0 (pc' := 181) (l' := [(0, .inr (.inr 1826)), (1, .inl (f : Int)), (2, .inl (r : Int)), (3, .inl (i : Int))]) (st' := []) rfl ?_
        refine h_run 2 (pc' := 183) (l' := [(0, .inr (.inr 1826)), (1, .inl (f : Int)), (2, .inl (r : Int)), (3, .inl (i : Int))]) (st' := [.inl 0, .inr (.inr 1826)]) rfl ?_
        refine h_puti (i := 300) (ci := 13) (k := 40) (a := 1826) (x := 0) rfl rfl rfl rfl rfl rfl (by decide) (by decide) ?_
        refine h_run 2 (pc' := 188) (l' := [(0, .inr (.inr 1826)), (1, .inl (f : Int)), (2, .inl (r : Int)), (3, .inl (i : Int))]) (st' := [.inl 0, .inr (.inr 1826)]) rfl ?_
        refine h_puti (i := 335) (ci := 13) (k := 41) (a := 1826) (x := 0) rfl rfl rfl rfl rfl rfl (by decide) (by decide) ?_
        refine h_run 2 (pc' := 193) (l' := [(0, .inr (.inr 1826)), (1, .inl (f : Int)), (2, .inl (r : Int)), (3, .inl (i : Int))]) (st' := [.inl 0, .inr (.inr 1826)]) rfl ?_
        refine h_puti (i := 303) (ci := 13) (k := 43) (a := 1826) (x := 0) rfl rfl rfl rfl rfl rfl (by decide) (by decide) ?_
        refine h_run 2 (pc' := 198) (l' := [(0, .inr (.inr 1826)), (1, .inl (f : Int)), (2, .inl (r : Int)), (3, .inl (i : Int))]) (st' := [.inl 1, .inr (.inr 1826)]) rfl ?_
        refine h_puti (i := 367) (ci := 13) (k := 44) (a := 1826) (x := 1) rfl rfl rfl rfl rfl rfl (by decide) (by decide) ?_
        refine h_run 1 (pc' := 202) (l' := [(0, .inr (.inr 1826)), (1, .inl (f : Int)), (2, .inl (r : Int)), (3, .inl (i : Int))]) (st' := [.inr (.inr 1826)]) rfl ?_
        have g14 : -2147483648 ≤ (H9.1 1826 35) ∧ (H9.1 1826 35) ≤ 2147483647 := hrg11.1 1826 13 35 _ .int rfl rfl
        refine h_cv (i := 293) (j := 158) (b := 1826) (M' := mt_158) (xs := []) (rest := []) rfl rfl rfl rfl rfl rfl (Nat.le_of_ble_eq_true rfl) (Nat.le_of_ble_eq_true rfl) (by omega) (m_good (by omega)) ?_
        rintro _ _ ⟨⟨rfl, b15⟩ | ⟨rfl, b15⟩, rfl⟩
        · have b15x : (H9.1 1826 35) = 0 := b15
          replace hx9g := hx9g b15x
          refine h_run 0 (pc' := 205) (l' := [(0, .inr (.inr 1826)), (1, .inl (f : Int)), (2, .inl (r : Int)), (3, .inl (i : Int))]) (st' := [.inl 1]) rfl ?_
          refine h_zeq (off := 14) (t := 219) rfl rfl (by decide) (fun c => absurd c (by decide)) (fun _ => ?_)
          have hft := (pw2 f (by omega)).2.1
          refine h_run 4 (pc' := 214) (l' := [(0, .inr (.inr 1826)), (1, .inl (f : Int)), (2, .inl (r : Int)), (3, .inl (i : Int))]) (st' := [.inl (f : Int), .inr (.inr 1835), .inr (.inr 1826)]) rfl ?_
          refine h_ild (c := 1835) (j := f) (i := (f : Int)) rfl rfl (by decide) rfl (by omega) ?_
          have g16 : -2147483648 ≤ (H9.1 1835 f) ∧ (H9.1 1835 f) ≤ 2147483647 := hrg11.2 1835 f 16 .int rfl (by omega)
          have e17 : (H9.1 1835 f) = (H1.1 1835 f) := congrFun (hx9f.2.1 1835 (by decide) (by decide)) f
          have e18 : (H1.1 1835 f) = (H.1 1835 f) := congrFun (hf.2.1 1835 (by decide) (by decide)) f
          refine h_run 0 (pc' := 215) (l' := [(0, .inr (.inr 1826)), (1, .inl (f : Int)), (2, .inl (r : Int)), (3, .inl (i : Int))]) (st' := [.inl (H9.1 1835 f), .inr (.inr 1826)]) rfl ?_
          have g19 : -2147483648 ≤ (H9.1 1826 30) ∧ (H9.1 1826 30) ≤ 2147483647 := hrg11.1 1826 13 30 _ .int rfl rfl
          have g20 : -2147483648 ≤ (H9.1 1826 29) ∧ (H9.1 1826 29) ≤ 2147483647 := hrg11.1 1826 13 29 _ .int rfl rfl
          have e21 : (H9.1 1826 29) = (H1.1 1826 29) := hx9f.2.2 29 (by decide)
          have g22 : -2147483648 ≤ (H9.1 1826 1) ∧ (H9.1 1826 1) ≤ 2147483647 := hrg11.1 1826 13 1 _ .int rfl rfl
          have e23 : (H9.1 1826 1) = (H1.1 1826 1) := hx9f.2.2 1 (by decide)
          have e24 : (H1.1 1826 1) = (H.1 1826 1) := hf.2.2 1 (by decide)
          have g25 : -2147483648 ≤ (H9.1 1826 8) ∧ (H9.1 1826 8) ≤ 2147483647 := hrg11.1 1826 13 8 _ .int rfl rfl
          have e26 : (H9.1 1826 8) = (H1.1 1826 8) := hx9f.2.2 8 (by decide)
          have e27 : (H1.1 1826 8) = (H.1 1826 8) := hf.2.2 8 (by decide)
          have g29 : -2147483648 ≤ (H9.1 1826 39) ∧ (H9.1 1826 39) ≤ 2147483647 := hrg11.1 1826 13 39 _ .int rfl rfl
          have e30 : (H9.1 1826 39) = (H1.1 1826 39) := hx9f.2.2 39 (by decide)
          have g31 : -2147483648 ≤ (H9.1 1826 13) ∧ (H9.1 1826 13) ≤ 2147483647 := hrg11.1 1826 13 13 _ .int rfl rfl
          have e32 : (H9.1 1826 13) = (H1.1 1826 13) := hx9f.2.2 13 (by decide)
          have g33 : -2147483648 ≤ (H9.1 1826 3) ∧ (H9.1 1826 3) ≤ 2147483647 := hrg11.1 1826 13 3 _ .int rfl rfl
          have e34 : (H9.1 1826 3) = (H1.1 1826 3) := hx9f.2.2 3 (by decide)
          have e35 : (H1.1 1826 3) = (H.1 1826 3) := hf.2.2 3 (by decide)
          have g36 : -2147483648 ≤ (H9.1 1826 19) ∧ (H9.1 1826 19) ≤ 2147483647 := hrg11.1 1826 13 19 _ .int rfl rfl
          have e37 : (H9.1 1826 19) = (H1.1 1826 19) := hx9f.2.2 19 (by decide)
          have e38 : (H1.1 1826 19) = (H.1 1826 19) := hf.2.2 19 (by decide)
          have g39 : -2147483648 ≤ (H9.1 1826 32) ∧ (H9.1 1826 32) ≤ 2147483647 := hrg11.1 1826 13 32 _ .int rfl rfl
          obtain ⟨X6, hq6, hR6, hX6⟩ := GB_g hx9n (by omega)
          have hV6 : VP H9 X6 (100 + (f : Int)) := by rw [hX6]; exact VP_adv hV5 (hx9f.2.2 40 (by decide)) (hx9f.2.2 39 (by decide)) (hx9f.2.1 1849 (by decide) (by decide)) (hx9f.2.1 1850 (by decide) (by decide)) (hx9f.2.2 43 (by decide)) (hx9f.2.1 1851 (by decide) (by decide))
          have h66 := hR6.2.2.2.2.2.2.2.1.1.1
          have hty6 : (H9.1 1835) f = X6 7 f := hR6.2.2.2.2.2.2.2.2 f (by omega)
          have hme6 := me_or (-1) ((H9.1 1835) f)
          refine h_cv (i := 385) (j := 180) (b := 1826) (M' := mt_180) (xs := [.inl (H9.1 1835 f)]) (rest := []) rfl rfl rfl rfl rfl rfl (Nat.le_of_ble_eq_true rfl) (Nat.le_of_ble_eq_true rfl) (by omega) (n_term (by omega) (by omega : 0 ≤ (H9.1 1826 30) ∧ (H9.1 1826 30) ≤ (H9.1 1826 29) ∧ (H9.1 1826 29) ≤ 1000) (by omega : 0 ≤ (H9.1 1826 35) ∧ (H9.1 1826 35) ≤ 5) (by omega : 0 ≤ (H9.1 1826 32) ∧ (H9.1 1826 32) ≤ 1000) (PWc_agp hP (agp_o (agp_o (agp_o (agp_o ha13 (by decide)) (by decide)) (by decide)) (by decide)) ⟨(by omega : (H9.1 1826 1) = (H.1 1826 1)), (by omega : (H9.1 1826 3) = (H.1 1826 3)), (by omega : (H9.1 1826 8) = (H.1 1826 8)), (by omega : (H9.1 1826 13) = (H.1 1826 13)), (by omega : (H9.1 1826 19) = (H.1 1826 19))⟩) (by omega : 1 ≤ (1 : Int) ∧ (1 : Int) ≤ 3) (by omega : -1 ≤ (H9.1 1835 f) ∧ (H9.1 1835 f) < (H9.1 1826 1)) (by omega : 0 ≤ (0 : Int) ∧ (0 : Int) ≤ 10) (fun _ => ⟨rfl, rfl, rfl, (by omega : 0 ≤ (H9.1 1826 39) ∧ (H9.1 1826 39) ≤ 39 ∧ ((1 : Int) = 2 → (H9.1 1826 39) ≤ 6)), fun (q9 : (1 : Int) = 2) => absurd q9 (by decide)⟩) (by omega : (H9.1 1826 35) = 0) (RK_fr (RK_sT hR6 (sT_tr (sT_sd X6 _) (sT_x0 _ _ (Or.inl (by decide)))) rfl) (fr_o (fr_o (fr_o (fr_o (fr_rf [40, 41, 43, 44] [] H9) (by decide)) (by decide)) (by decide)) (by decide)) (by decide) (by decide)) (VR_VP hV6 rfl rfl rfl rfl rfl) (by omega : (H9.1 1826 8) = m) (X := (xu (xsd X6 (4 * (X6 0 6).toNat + 100)) 0 2 0)) (e := -1) (by omega : ((1 : Int) = 2 ∧ (-1 : Int) = -2) ∨ ((1 : Int) ≠ 2 ∧ (-1 : Int) = -1)) (by rw [show me (-1) _ = X6 7 f from (by omega)]; exact rch_st hq6 rfl) (lk_c (lk_1 (by decide)) (by decide : (13 : Nat) ≠ 0) (fun q => absurd q (by decide : (13 : Nat) ≠ 1))) (by omega : (1 : Int) = 1 → 0 ≤ (H9.1 1835 f))) ?_
          rintro _ H28 ⟨⟨hx28r, rfl, hx28x, hx28y, hx28n⟩, hx28f, hx28a, hx28c, -, hx28e, hx28v, hx28p⟩
          refine h_rng (fun hrg40 => ?_)
          have hf41 : fr [30, 31, 32, 33, 35, 36, 13, 39, 40, 41, 43, 44, 47] [1836, 1837, 1838, 1839, 1840, 1849, 1850, 1851, 1852, 1853, 1854] H H28 := fr_t (fr_o (fr_o (fr_o (fr_o hf12 (by decide)) (by decide)) (by decide)) (by decide)) hx28f (by decide) (by decide)
          have ha42 : agp H H28 := agp_tr (agp_o (agp_o (agp_o (agp_o ha13 (by decide)) (by decide)) (by decide)) (by decide)) (agp_fr hx28f (by decide) (by decide))
          replace hx28y : hx28r < (H9.1 1826 1) := hx28y
          replace hx28a : (H9.1 1826 30) ≤ (H28.1 1826 30) ∧ (H28.1 1826 30) ≤ (H9.1 1826 29) := hx28a
          replace hx28v : ((1 : Int) ≠ 2 → (H28.1 1826 39) = (H9.1 1826 39)) ∧ (H9.1 1826 39) ≤ (H28.1 1826 39) := hx28v
          have hx28k : (H28.1 1826 35) = 0 → 0 ≤ (H28.1 1826 43) ∧ (H28.1 1826 43) ≤ 40 := fun q9 => by obtain ⟨⟨k9, h9, h8, -⟩, -⟩ := hx28p q9; omega
          have hx28w : (H28.1 1826 35) = 0 → 0 ≤ (H28.1 1826 39) ∧ (H28.1 1826 39) ≤ 39 ∧ ((H28.1 1826 44) = 2 → (H28.1 1826 39) ≤ 6) := fun q9 => (TT_vars (hx28p q9).2).1
          refine h_run 0 (pc' := 218) (l' := [(0, .inr (.inr 1826)), (1, .inl (f : Int)), (2, .inl (r : Int)), (3, .inl (i : Int))]) (st' := [.inl hx28r]) rfl ?_
          refine h_run 2 (pc' := 220) (l' := [(0, .inr (.inr 1826)), (1, .inl (f : Int)), (2, .inl (r : Int)), (3, .inl (i : Int))]) (st' := [.inr (.inr 1826)]) rfl ?_
          have g43 : -2147483648 ≤ (H28.1 1826 35) ∧ (H28.1 1826 35) ≤ 2147483647 := hrg40.1 1826 13 35 _ .int rfl rfl
          refine h_cv (i := 293) (j := 158) (b := 1826) (M' := mt_158) (xs := []) (rest := []) rfl rfl rfl rfl rfl rfl (Nat.le_of_ble_eq_true rfl) (Nat.le_of_ble_eq_true rfl) (by omega) (m_good (by omega)) ?_
          rintro _ _ ⟨⟨rfl, b44⟩ | ⟨rfl, b44⟩, rfl⟩
          · have b44x : (H28.1 1826 35) = 0 := b44
            replace hx28k := hx28k b44x
            replace hx28w := hx28w b44x
            refine h_run 0 (pc' := 223) (l' := [(0, .inr (.inr 1826)), (1, .inl (f : Int)), (2, .inl (r : Int)), (3, .inl (i : Int))]) (st' := [.inl 1]) rfl ?_
            refine h_zeq (off := 56) (t := 279) rfl rfl (by decide) (fun c => absurd c (by decide)) (fun _ => ?_)
            obtain ⟨⟨kr, hk8, hk7, hrt⟩, hT9⟩ := hx28p (by omega)
            obtain ⟨X7, hq7, hR7, -, -, hW7, hD7⟩ := GB_g hx28n (by omega)
            have hRL8 := RL_fr hRL0 hx9f (by decide) (by decide) (hx9f.2.2 39 (by decide))
            have hRL9 := RL_fr (id hRL8 : RL (zu (zu (zu (zu H9 1826 (up (H9.1 1826) 40 0)) 1826 (up ((zu H9 1826 (up (H9.1 1826) 40 0)).1 1826) 41 0)) 1826 (up ((zu (zu H9 1826 (up (H9.1 1826) 40 0)) 1826 (up ((zu H9 1826 (up (H9.1 1826) 40 0)).1 1826) 41 0)).1 1826) 43 0)) 1826 (up ((zu (zu (zu H9 1826 (up (H9.1 1826) 40 0)) 1826 (up ((zu H9 1826 (up (H9.1 1826) 40 0)).1 1826) 41 0)) 1826 (up ((zu (zu H9 1826 (up (H9.1 1826) 40 0)) 1826 (up ((zu H9 1826 (up (H9.1 1826) 40 0)).1 1826) 41 0)).1 1826) 43 0)).1 1826) 44 1)) r f kl q) hx28f (by decide) (by decide) (hx28v.1 (by decide))
            have hLP8 := LPs_fr hLP0 hx9f (by decide)
            have hLP9 := LPs_fr (id hLP8 : LPs (zu (zu (zu (zu H9 1826 (up (H9.1 1826) 40 0)) 1826 (up ((zu H9 1826 (up (H9.1 1826) 40 0)).1 1826) 41 0)) 1826 (up ((zu (zu H9 1826 (up (H9.1 1826) 40 0)) 1826 (up ((zu H9 1826 (up (H9.1 1826) 40 0)).1 1826) 41 0)).1 1826) 43 0)) 1826 (up ((zu (zu (zu H9 1826 (up (H9.1 1826) 40 0)) 1826 (up ((zu H9 1826 (up (H9.1 1826) 40 0)).1 1826) 41 0)) 1826 (up ((zu (zu H9 1826 (up (H9.1 1826) 40 0)) 1826 (up ((zu H9 1826 (up (H9.1 1826) 40 0)).1 1826) 41 0)).1 1826) 43 0)).1 1826) 44 1)) r X5) hx28f (by decide)
            have h6x : X6 0 6 = X 0 6 := by omega
            have h76 : X7 0 6 = X 0 6 := (hW7.1.2.2 6 (by decide) (by decide)).trans h6x
            have hLQ7 : LQ H28 r X7 (4 * (X 0 6).toNat + 100) := by rw [← h6x]; exact LQ_of hLP9 hX6 (by obtain ⟨⟨-, q2, q3, -⟩, -⟩ := id hRL9; have q7 := hLP9.2.1; omega) (by omega) (hW7.2 _ (by omega))
            refine h_run 5 (pc' := 235) (l' := [(0, .inr (.inr 1826)), (1, .inl (f : Int)), (2, .inl (r : Int)), (3, .inl (i : Int))]) (st' := [.inl (H28.1 1826 43), .inl (r : Int), .inr (.inr 1840)]) rfl ?_
            have g45 : -2147483648 ≤ (H28.1 1826 43) ∧ (H28.1 1826 43) ≤ 2147483647 := hrg40.1 1826 13 43 _ .int rfl rfl
            refine h_ist (c := 1840) (j := r) (i := (r : Int)) (x := (H28.1 1826 43)) rfl rfl (by decide) (by decide) rfl (by omega) (by omega) ?_
            refine h_run 2 (pc' := 238) (l' := [(0, .inr (.inr 1826)), (1, .inl (f : Int)), (2, .inl (r : Int)), (3, .inl 0)]) (st' := []) rfl ?_
            have g46 : -2147483648 ≤ (H28.1 1826 30) ∧ (H28.1 1826 30) ≤ 2147483647 := hrg40.1 1826 13 30 _ .int rfl rfl
            have g47 : -2147483648 ≤ (H28.1 1826 32) ∧ (H28.1 1826 32) ≤ 2147483647 := hrg40.1 1826 13 32 _ .int rfl rfl
            have g48 : -2147483648 ≤ (H28.1 1826 31) ∧ (H28.1 1826 31) ≤ 2147483647 := hrg40.1 1826 13 31 _ .int rfl rfl
            have g49 : -2147483648 ≤ (H28.1 1826 29) ∧ (H28.1 1826 29) ≤ 2147483647 := hrg40.1 1826 13 29 _ .int rfl rfl
            have e50 : (H28.1 1826 29) = (H9.1 1826 29) := hx28f.2.2 29 (by decide)
            have g51 : -2147483648 ≤ (H28.1 1826 1) ∧ (H28.1 1826 1) ≤ 2147483647 := hrg40.1 1826 13 1 _ .int rfl rfl
            have e52 : (H28.1 1826 1) = (H9.1 1826 1) := hx28f.2.2 1 (by decide)
            have g53 : -2147483648 ≤ (H28.1 1826 3) ∧ (H28.1 1826 3) ≤ 2147483647 := hrg40.1 1826 13 3 _ .int rfl rfl
            have e54 : (H28.1 1826 3) = (H9.1 1826 3) := hx28f.2.2 3 (by decide)
            have g55 : -2147483648 ≤ (H28.1 1826 8) ∧ (H28.1 1826 8) ≤ 2147483647 := hrg40.1 1826 13 8 _ .int rfl rfl
            have e56 : (H28.1 1826 8) = (H9.1 1826 8) := hx28f.2.2 8 (by decide)
            have g57 : -2147483648 ≤ (H28.1 1826 13) ∧ (H28.1 1826 13) ≤ 2147483647 := hrg40.1 1826 13 13 _ .int rfl rfl
            have e58 : (H28.1 1826 13) = (H9.1 1826 13) := hx28f.2.2 13 (by decide)
            have g59 : -2147483648 ≤ (H28.1 1826 19) ∧ (H28.1 1826 19) ≤ 2147483647 := hrg40.1 1826 13 19 _ .int rfl rfl
            have e60 : (H28.1 1826 19) = (H9.1 1826 19) := hx28f.2.2 19 (by decide)
            have g61 : -2147483648 ≤ (H28.1 1826 39) ∧ (H28.1 1826 39) ≤ 2147483647 := hrg40.1 1826 13 39 _ .int rfl rfl
            exact ih.2 _ r f 0 (kl) (q) (kr) (fr_a hf41 (by decide)) (by omega : (H.1 1826 30) ≤ (H28.1 1826 30) ∧ (H28.1 1826 30) ≤ (H.1 1826 29)) (by omega : 0 ≤ (H28.1 1826 35) ∧ (H28.1 1826 35) ≤ 5) (by omega : 0 ≤ (H28.1 1826 32) ∧ (H28.1 1826 32) ≤ 1000) (agp_1840 ha42 (by omega : (H.1 1826 13) ≤ ((r : Nat) : Int))) (by omega : (H28.1 1826 35) = 0) (by omega : (r : Int) = (H.1 1826 13) ∧ (H.1 1826 13) ≤ 39) (by omega : (f : Int) < (H.1 1826 8)) (by omega : (H28.1 1826 1) = (H.1 1826 1) ∧ (H28.1 1826 3) = (H.1 1826 3) ∧ (H28.1 1826 8) = (H.1 1826 8) ∧ (H28.1 1826 13) = (H.1 1826 13) ∧ (H28.1 1826 19) = (H.1 1826 19)) hRL9 (show up (H28.1 1840) r ((H28.1 1826 43)) r = (kr : Int) by rw [up_eq]; omega) (by omega : (H28.1 1826 43) = (kr) ∧ (kr) ≤ 40) hrt (by omega) (fun x hx => absurd hx (Nat.not_lt_zero _)) ⟨X7, hq7, RK_fr hR7 (fr_a (fr_rf [] [1840] H28) (by decide)) (by decide) (by decide), RD_same hD7 rfl rfl rfl rfl, h76, LQ_fr hLQ7 (fr_a (fr_rf [] [1840] H28) (by decide)) (by decide)⟩ (by omega : ((kr) - 0) < w)
          · have b44x : (H28.1 1826 35) ≠ 0 := b44
            clear hx28k
            clear hx28w
            refine h_run 0 (pc' := 223) (l' := [(0, .inr (.inr 1826)), (1, .inl (f : Int)), (2, .inl (r : Int)), (3, .inl (i : Int))]) (st' := [.inl 0]) rfl ?_
            refine h_zeq (off := 56) (t := 279) rfl rfl (by decide) (fun _ => ?_) (fun c => absurd c (by decide))
            refine h_ret rfl rfl ?_
            have g62 : -2147483648 ≤ (H28.1 1826 30) ∧ (H28.1 1826 30) ≤ 2147483647 := hrg40.1 1826 13 30 _ .int rfl rfl
            have g63 : -2147483648 ≤ (H28.1 1826 32) ∧ (H28.1 1826 32) ≤ 2147483647 := hrg40.1 1826 13 32 _ .int rfl rfl
            have g64 : -2147483648 ≤ (H28.1 1826 29) ∧ (H28.1 1826 29) ≤ 2147483647 := hrg40.1 1826 13 29 _ .int rfl rfl
            have e65 : (H28.1 1826 29) = (H9.1 1826 29) := hx28f.2.2 29 (by decide)
            have g66 : -2147483648 ≤ (H28.1 1826 1) ∧ (H28.1 1826 1) ≤ 2147483647 := hrg40.1 1826 13 1 _ .int rfl rfl
            have e67 : (H28.1 1826 1) = (H9.1 1826 1) := hx28f.2.2 1 (by decide)
            have g68 : -2147483648 ≤ (H28.1 1826 3) ∧ (H28.1 1826 3) ≤ 2147483647 := hrg40.1 1826 13 3 _ .int rfl rfl
            have e69 : (H28.1 1826 3) = (H9.1 1826 3) := hx28f.2.2 3 (by decide)
            have g70 : -2147483648 ≤ (H28.1 1826 8) ∧ (H28.1 1826 8) ≤ 2147483647 := hrg40.1 1826 13 8 _ .int rfl rfl
            have e71 : (H28.1 1826 8) = (H9.1 1826 8) := hx28f.2.2 8 (by decide)
            have g72 : -2147483648 ≤ (H28.1 1826 13) ∧ (H28.1 1826 13) ≤ 2147483647 := hrg40.1 1826 13 13 _ .int rfl rfl
            have e73 : (H28.1 1826 13) = (H9.1 1826 13) := hx28f.2.2 13 (by decide)
            have g74 : -2147483648 ≤ (H28.1 1826 19) ∧ (H28.1 1826 19) ≤ 2147483647 := hrg40.1 1826 13 19 _ .int rfl rfl
            have e75 : (H28.1 1826 19) = (H9.1 1826 19) := hx28f.2.2 19 (by decide)
            exact ⟨rfl, (Or.inr ⟨(by omega : (H28.1 1826 35) ≠ 0), GB_b hx28n (by omega)⟩), hf41, (by omega : (H.1 1826 30) ≤ (H28.1 1826 30) ∧ (H28.1 1826 30) ≤ (H.1 1826 29)), (by omega : 0 ≤ (H28.1 1826 35) ∧ (H28.1 1826 35) ≤ 5), (by omega : (H.1 1826 35) ≠ 0 → (H28.1 1826 35) ≠ 0), (by omega : 0 ≤ (H28.1 1826 32) ∧ (H28.1 1826 32) ≤ 1000), ha42, (fun (q : (H28.1 1826 35) = 0) => absurd q (by omega))⟩
        · have b15x : (H9.1 1826 35) ≠ 0 := b15
          clear hx9g
          refine h_run 0 (pc' := 205) (l' := [(0, .inr (.inr 1826)), (1, .inl (f : Int)), (2, .inl (r : Int)), (3, .inl (i : Int))]) (st' := [.inl 0]) rfl ?_
          refine h_zeq (off := 14) (t := 219) rfl rfl (by decide) (fun _ => ?_) (fun c => absurd c (by decide))
          refine h_run 1 (pc' := 220) (l' := [(0, .inr (.inr 1826)), (1, .inl (f : Int)), (2, .inl (r : Int)), (3, .inl (i : Int))]) (st' := [.inr (.inr 1826)]) rfl ?_
          refine h_cv (i := 293) (j := 158) (b := 1826) (M' := mt_158) (xs := []) (rest := []) rfl rfl rfl rfl rfl rfl (Nat.le_of_ble_eq_true rfl) (Nat.le_of_ble_eq_true rfl) (by omega) (m_good0 (by omega) (by omega : (H9.1 1826 35) ≠ 0)) ?_
          rintro _ _ ⟨rfl, rfl⟩
          refine h_run 0 (pc' := 223) (l' := [(0, .inr (.inr 1826)), (1, .inl (f : Int)), (2, .inl (r : Int)), (3, .inl (i : Int))]) (st' := [.inl 0]) rfl ?_
          refine h_zeq (off := 56) (t := 279) rfl rfl (by decide) (fun _ => ?_) (fun c => absurd c (by decide))
          refine h_ret rfl rfl ?_
          have g76 : -2147483648 ≤ (H9.1 1826 30) ∧ (H9.1 1826 30) ≤ 2147483647 := hrg11.1 1826 13 30 _ .int rfl rfl
          have g77 : -2147483648 ≤ (H9.1 1826 32) ∧ (H9.1 1826 32) ≤ 2147483647 := hrg11.1 1826 13 32 _ .int rfl rfl
          have g78 : -2147483648 ≤ (H9.1 1826 29) ∧ (H9.1 1826 29) ≤ 2147483647 := hrg11.1 1826 13 29 _ .int rfl rfl
          have e79 : (H9.1 1826 29) = (H1.1 1826 29) := hx9f.2.2 29 (by decide)
          have g80 : -2147483648 ≤ (H9.1 1826 1) ∧ (H9.1 1826 1) ≤ 2147483647 := hrg11.1 1826 13 1 _ .int rfl rfl
          have e81 : (H9.1 1826 1) = (H1.1 1826 1) := hx9f.2.2 1 (by decide)
          have e82 : (H1.1 1826 1) = (H.1 1826 1) := hf.2.2 1 (by decide)
          have g83 : -2147483648 ≤ (H9.1 1826 3) ∧ (H9.1 1826 3) ≤ 2147483647 := hrg11.1 1826 13 3 _ .int rfl rfl
          have e84 : (H9.1 1826 3) = (H1.1 1826 3) := hx9f.2.2 3 (by decide)
          have e85 : (H1.1 1826 3) = (H.1 1826 3) := hf.2.2 3 (by decide)
          have g86 : -2147483648 ≤ (H9.1 1826 8) ∧ (H9.1 1826 8) ≤ 2147483647 := hrg11.1 1826 13 8 _ .int rfl rfl
          have e87 : (H9.1 1826 8) = (H1.1 1826 8) := hx9f.2.2 8 (by decide)
          have e88 : (H1.1 1826 8) = (H.1 1826 8) := hf.2.2 8 (by decide)
          have g89 : -2147483648 ≤ (H9.1 1826 13) ∧ (H9.1 1826 13) ≤ 2147483647 := hrg11.1 1826 13 13 _ .int rfl rfl
          have e90 : (H9.1 1826 13) = (H1.1 1826 13) := hx9f.2.2 13 (by decide)
          have g91 : -2147483648 ≤ (H9.1 1826 19) ∧ (H9.1 1826 19) ≤ 2147483647 := hrg11.1 1826 13 19 _ .int rfl rfl
          have e92 : (H9.1 1826 19) = (H1.1 1826 19) := hx9f.2.2 19 (by decide)
          have e93 : (H1.1 1826 19) = (H.1 1826 19) := hf.2.2 19 (by decide)
          exact ⟨rfl, (Or.inr ⟨(by omega : (H9.1 1826 35) ≠ 0), BD_fr (GB_b hx9n (by omega)) (fr_o (fr_o (fr_o (fr_o (fr_rf [40, 41, 43, 44] [] H9) (by decide)) (by decide)) (by decide)) (by decide)) (by decide) (by decide)⟩), (fr_o (fr_o (fr_o (fr_o hf12 (by decide)) (by decide)) (by decide)) (by decide)), (by omega : (H.1 1826 30) ≤ (H9.1 1826 30) ∧ (H9.1 1826 30) ≤ (H.1 1826 29)), (by omega : 0 ≤ (H9.1 1826 35) ∧ (H9.1 1826 35) ≤ 5), (by omega : (H.1 1826 35) ≠ 0 → (H9.1 1826 35) ≠ 0), (by omega : 0 ≤ (H9.1 1826 32) ∧ (H9.1 1826 32) ≤ 1000), (agp_o (agp_o (agp_o (agp_o ha13 (by decide)) (by decide)) (by decide)) (by decide)), (fun (q : (H9.1 1826 35) = 0) => absurd q (by omega))⟩
      · refine h_run 10 (pc' := 167) (l' := [(0, .inr (.inr 1826)), (1, .inl (f : Int)), (2, .inl (r : Int)), (3, .inl (i : Int))]) (st' := [.inl (i : Int), .inr (.inr 1851), .inl ((48 * (r : Int)) + (i : Int)), .inr (.inr 1837)]) rfl ?_
        refine h_ild (c := 1851) (j := i) (i := (i : Int)) rfl rfl (by decide) rfl (by omega) ?_
        have g94 : -2147483648 ≤ (H1.1 1851 i) ∧ (H1.1 1851 i) ≤ 2147483647 := hrg1.2 1851 i 48 .int rfl (by omega)
        refine h_run 0 (pc' := 168) (l' := [(0, .inr (.inr 1826)), (1, .inl (f : Int)), (2, .inl (r : Int)), (3, .inl (i : Int))]) (st' := [.inl (H1.1 1851 i), .inl ((48 * (r : Int)) + (i : Int)), .inr (.inr 1837)]) rfl ?_
        refine h_ist (c := 1837) (j := ((48 * r) + i)) (i := ((48 * (r : Int)) + (i : Int))) (x := (H1.1 1851 i)) rfl rfl (by decide) (by decide) (by omega) (by omega) (by omega) ?_
        refine h_run 2 (pc' := 144) (l' := [(0, .inr (.inr 1826)), (1, .inl (f : Int)), (2, .inl (r : Int)), (3, .inl ((i : Int) + 1))]) (st' := []) rfl ?_
        have g95 : -2147483648 ≤ (H1.1 1826 30) ∧ (H1.1 1826 30) ≤ 2147483647 := hrg1.1 1826 13 30 _ .int rfl rfl
        have g96 : -2147483648 ≤ (H1.1 1826 35) ∧ (H1.1 1826 35) ≤ 2147483647 := hrg1.1 1826 13 35 _ .int rfl rfl
        have g97 : -2147483648 ≤ (H1.1 1826 32) ∧ (H1.1 1826 32) ≤ 2147483647 := hrg1.1 1826 13 32 _ .int rfl rfl
        have g98 : -2147483648 ≤ (H1.1 1826 31) ∧ (H1.1 1826 31) ≤ 2147483647 := hrg1.1 1826 13 31 _ .int rfl rfl
        have g99 : -2147483648 ≤ (H1.1 1826 29) ∧ (H1.1 1826 29) ≤ 2147483647 := hrg1.1 1826 13 29 _ .int rfl rfl
        have e100 : (H1.1 1826 29) = (H.1 1826 29) := hf.2.2 29 (by decide)
        have g101 : -2147483648 ≤ (H1.1 1826 1) ∧ (H1.1 1826 1) ≤ 2147483647 := hrg1.1 1826 13 1 _ .int rfl rfl
        have e102 : (H1.1 1826 1) = (H.1 1826 1) := hf.2.2 1 (by decide)
        have g103 : -2147483648 ≤ (H1.1 1826 3) ∧ (H1.1 1826 3) ≤ 2147483647 := hrg1.1 1826 13 3 _ .int rfl rfl
        have e104 : (H1.1 1826 3) = (H.1 1826 3) := hf.2.2 3 (by decide)
        have g105 : -2147483648 ≤ (H1.1 1826 8) ∧ (H1.1 1826 8) ≤ 2147483647 := hrg1.1 1826 13 8 _ .int rfl rfl
        have e106 : (H1.1 1826 8) = (H.1 1826 8) := hf.2.2 8 (by decide)
        have g107 : -2147483648 ≤ (H1.1 1826 13) ∧ (H1.1 1826 13) ≤ 2147483647 := hrg1.1 1826 13 13 _ .int rfl rfl
        have g108 : -2147483648 ≤ (H1.1 1826 19) ∧ (H1.1 1826 19) ≤ 2147483647 := hrg1.1 1826 13 19 _ .int rfl rfl
        have e109 : (H1.1 1826 19) = (H.1 1826 19) := hf.2.2 19 (by decide)
        have g110 : -2147483648 ≤ (H1.1 1826 39) ∧ (H1.1 1826 39) ≤ 2147483647 := hrg1.1 1826 13 39 _ .int rfl rfl
        rw [show ((i : Int) + 1) = (((i + 1) : Nat) : Int) by omega]
        exact ih.1 _ r f (i + 1) (kl) (q) (fr_a hf (by decide)) (by omega : (H.1 1826 30) ≤ (H1.1 1826 30) ∧ (H1.1 1826 30) ≤ (H.1 1826 29)) (by omega : 0 ≤ (H1.1 1826 35) ∧ (H1.1 1826 35) ≤ 5) (by omega : 0 ≤ (H1.1 1826 32) ∧ (H1.1 1826 32) ≤ 1000) (agp_1837 hag (by omega : 48 * (H.1 1826 13) ≤ ((((48 * r) + i) : Nat) : Int))) (by omega : (H1.1 1826 35) = 0) (by omega : (r : Int) = (H.1 1826 13) ∧ (H.1 1826 13) ≤ 39) (by omega : (f : Int) < (H.1 1826 8)) (by omega : (H1.1 1826 1) = (H.1 1826 1) ∧ (H1.1 1826 3) = (H.1 1826 3) ∧ (H1.1 1826 8) = (H.1 1826 8) ∧ (H1.1 1826 13) = (H.1 1826 13) ∧ (H1.1 1826 19) = (H.1 1826 19)) hq9 hrf (by omega) (cp_up hcp : ∀ x, x < i + 1 → up (H1.1 1837) (48 * r + i) ((H1.1 1851) i) (48 * r + x) = (H1.1 1851) x) ⟨X5, hq5, RK_fr hR5 (fr_a (fr_rf [] [1837] H1) (by decide)) (by decide) (by decide), VP_eq hV5 rfl rfl rfl rfl rfl rfl⟩ (by omega : 1000 + ((kl) - (i + 1)) < w)
    · intro H1 r f i kl q kr hf ha hk hst1 hag hgd hr hfu hcn hRL hkr hk9 hrt hi hcp hRG hw
      refine h_rng (fun hrg111 => ?_)
      obtain ⟨⟨pb1, pb2, pb3, pb4, pb5⟩, pw1, pw2, pw3, pw4⟩ := (id hP : PW H (H.1 1826 1) (H.1 1826 3) (H.1 1826 8) (H.1 1826 13) (H.1 1826 19))
      obtain ⟨X7, hq7, hR7, hD7, h76, hLQ7⟩ := hRG
      have hx6 := hR.2.2.2.2.2.2.2.1.1.1
      have hr9 : r = (X 0 6).toNat := by omega
      refine h_run 3 (pc' := 243) (l' := [(0, .inr (.inr 1826)), (1, .inl (f : Int)), (2, .inl (r : Int)), (3, .inl (i : Int))]) (st' := [.inl (H1.1 1826 43), .inl (i : Int)]) rfl ?_
      have g112 : -2147483648 ≤ (H1.1 1826 43) ∧ (H1.1 1826 43) ≤ 2147483647 := hrg111.1 1826 13 43 _ .int rfl rfl
      refine h_ige (off := 26) (t := 269) rfl rfl (by omega) (by omega) (fun c113 => ?_) (fun c113 => ?_)
      · refine h_run 3 (pc' := 274) (l' := [(0, .inr (.inr 1826)), (1, .inl (f : Int)), (2, .inl (r : Int)), (3, .inl (i : Int))]) (st' := [.inl (H1.1 1826 13), .inr (.inr 1826)]) rfl ?_
        have g114 : -2147483648 ≤ (H1.1 1826 13) ∧ (H1.1 1826 13) ≤ 2147483647 := hrg111.1 1826 13 13 _ .int rfl rfl
        refine h_run 2 (pc' := 276) (l' := [(0, .inr (.inr 1826)), (1, .inl (f : Int)), (2, .inl (r : Int)), (3, .inl (i : Int))]) (st' := [.inl ((H1.1 1826 13) + 1), .inr (.inr 1826)]) rfl ?_
        refine h_puti (i := 376) (ci := 13) (k := 13) (a := 1826) (x := ((H1.1 1826 13) + 1)) rfl rfl rfl rfl rfl rfl (by decide) (by omega) ?_
        refine h_ret rfl rfl ?_
        have g115 : -2147483648 ≤ (H1.1 1826 30) ∧ (H1.1 1826 30) ≤ 2147483647 := hrg111.1 1826 13 30 _ .int rfl rfl
        have g116 : -2147483648 ≤ (H1.1 1826 35) ∧ (H1.1 1826 35) ≤ 2147483647 := hrg111.1 1826 13 35 _ .int rfl rfl
        have g117 : -2147483648 ≤ (H1.1 1826 32) ∧ (H1.1 1826 32) ≤ 2147483647 := hrg111.1 1826 13 32 _ .int rfl rfl
        have g118 : -2147483648 ≤ (H1.1 1826 29) ∧ (H1.1 1826 29) ≤ 2147483647 := hrg111.1 1826 13 29 _ .int rfl rfl
        have e119 : (H1.1 1826 29) = (H.1 1826 29) := hf.2.2 29 (by decide)
        have g120 : -2147483648 ≤ (H1.1 1826 1) ∧ (H1.1 1826 1) ≤ 2147483647 := hrg111.1 1826 13 1 _ .int rfl rfl
        have e121 : (H1.1 1826 1) = (H.1 1826 1) := hf.2.2 1 (by decide)
        have g122 : -2147483648 ≤ (H1.1 1826 3) ∧ (H1.1 1826 3) ≤ 2147483647 := hrg111.1 1826 13 3 _ .int rfl rfl
        have e123 : (H1.1 1826 3) = (H.1 1826 3) := hf.2.2 3 (by decide)
        have g124 : -2147483648 ≤ (H1.1 1826 8) ∧ (H1.1 1826 8) ≤ 2147483647 := hrg111.1 1826 13 8 _ .int rfl rfl
        have e125 : (H1.1 1826 8) = (H.1 1826 8) := hf.2.2 8 (by decide)
        have g126 : -2147483648 ≤ (H1.1 1826 19) ∧ (H1.1 1826 19) ≤ 2147483647 := hrg111.1 1826 13 19 _ .int rfl rfl
        have e127 : (H1.1 1826 19) = (H.1 1826 19) := hf.2.2 19 (by decide)
        exact ⟨rfl, (Or.inl ⟨(by omega : (H1.1 1826 35) = 0), xu (xsd X7 (4 * (X 0 6).toNat + 101)) 0 6 (X7 0 6 + 1), (by rw [← h76]; exact rch_st hq7 rfl), RK_rule (X := xsd X7 (4 * (X 0 6).toNat + 101)) (RK_sT hR7 (sT_sd X7 _) rfl) (fr_o (fr_rf [13] [] H1) (by decide)) (by decide) (by decide) rfl, (by rw [xu_1, h76]), LQ_x (X := X7) (LQ_fr (show LQ H1 (X 0 6).toNat X7 (4 * (X 0 6).toNat + 100) from (by have q9 := hLQ7; rw [hr9] at q9; exact q9)) (fr_o (fr_rf [13] [] H1) (by decide)) (by decide)) ((xu_ne _ _ _ (by omega)).trans (xsd_ne X7 (by omega))), RQ_fr (show RQr H1 (X 0 6).toNat (xu (xsd X7 (4 * (X 0 6).toNat + 101)) 0 6 (X7 0 6 + 1)) (4 * (X 0 6).toNat + 101) from (by have q9 : RQr H1 r (xu (xsd X7 (4 * (X 0 6).toNat + 101)) 0 6 (X7 0 6 + 1)) (4 * (X 0 6).toNat + 101) := RQ_of (k := kr) hD7 hk9.1 hkr (fun x hx9 => hcp x (by omega)) (by omega) (by omega) (xu_ne _ _ _ (by omega)); rw [hr9] at q9; exact q9)) (fr_o (fr_rf [13] [] H1) (by decide)) (by decide)⟩), (fr_o hf (by decide)), (by omega : (H.1 1826 30) ≤ (H1.1 1826 30) ∧ (H1.1 1826 30) ≤ (H.1 1826 29)), (by omega : 0 ≤ (H1.1 1826 35) ∧ (H1.1 1826 35) ≤ 5), (by omega : (H.1 1826 35) ≠ 0 → (H1.1 1826 35) ≠ 0), (by omega : 0 ≤ (H1.1 1826 32) ∧ (H1.1 1826 32) ≤ 1000), (agp_n13 hag (by omega : (H.1 1826 13) ≤ ((H1.1 1826 13) + 1))), (fun _ => PW_rule (r := r) (f := f) (kl := kl) (q := q) (kr := kr) hP (agp_n13 hag (by omega : (H.1 1826 13) ≤ ((H1.1 1826 13) + 1))) ⟨hcn.1, hcn.2.1, hcn.2.2.1, hcn.2.2.2.2⟩ ⟨by omega, by omega, (by omega : ((H1.1 1826 13) + 1) = (H.1 1826 13) + 1)⟩ hRL (by omega : (f : Int) < (H1.1 1826 8)) ⟨hkr, by omega⟩ (tm_at hrt (fun x hx => by rw [Nat.zero_add]; exact hcp x (by omega))))⟩
      · refine h_run 10 (pc' := 261) (l' := [(0, .inr (.inr 1826)), (1, .inl (f : Int)), (2, .inl (r : Int)), (3, .inl (i : Int))]) (st' := [.inl (i : Int), .inr (.inr 1851), .inl ((48 * (r : Int)) + (i : Int)), .inr (.inr 1839)]) rfl ?_
        refine h_ild (c := 1851) (j := i) (i := (i : Int)) rfl rfl (by decide) rfl (by omega) ?_
        have g128 : -2147483648 ≤ (H1.1 1851 i) ∧ (H1.1 1851 i) ≤ 2147483647 := hrg111.2 1851 i 48 .int rfl (by omega)
        refine h_run 0 (pc' := 262) (l' := [(0, .inr (.inr 1826)), (1, .inl (f : Int)), (2, .inl (r : Int)), (3, .inl (i : Int))]) (st' := [.inl (H1.1 1851 i), .inl ((48 * (r : Int)) + (i : Int)), .inr (.inr 1839)]) rfl ?_
        refine h_ist (c := 1839) (j := ((48 * r) + i)) (i := ((48 * (r : Int)) + (i : Int))) (x := (H1.1 1851 i)) rfl rfl (by decide) (by decide) (by omega) (by omega) (by omega) ?_
        refine h_run 2 (pc' := 238) (l' := [(0, .inr (.inr 1826)), (1, .inl (f : Int)), (2, .inl (r : Int)), (3, .inl ((i : Int) + 1))]) (st' := []) rfl ?_
        have g129 : -2147483648 ≤ (H1.1 1826 30) ∧ (H1.1 1826 30) ≤ 2147483647 := hrg111.1 1826 13 30 _ .int rfl rfl
        have g130 : -2147483648 ≤ (H1.1 1826 35) ∧ (H1.1 1826 35) ≤ 2147483647 := hrg111.1 1826 13 35 _ .int rfl rfl
        have g131 : -2147483648 ≤ (H1.1 1826 32) ∧ (H1.1 1826 32) ≤ 2147483647 := hrg111.1 1826 13 32 _ .int rfl rfl
        have g132 : -2147483648 ≤ (H1.1 1826 31) ∧ (H1.1 1826 31) ≤ 2147483647 := hrg111.1 1826 13 31 _ .int rfl rfl
        have g133 : -2147483648 ≤ (H1.1 1826 29) ∧ (H1.1 1826 29) ≤ 2147483647 := hrg111.1 1826 13 29 _ .int rfl rfl
        have e134 : (H1.1 1826 29) = (H.1 1826 29) := hf.2.2 29 (by decide)
        have g135 : -2147483648 ≤ (H1.1 1826 1) ∧ (H1.1 1826 1) ≤ 2147483647 := hrg111.1 1826 13 1 _ .int rfl rfl
        have e136 : (H1.1 1826 1) = (H.1 1826 1) := hf.2.2 1 (by decide)
        have g137 : -2147483648 ≤ (H1.1 1826 3) ∧ (H1.1 1826 3) ≤ 2147483647 := hrg111.1 1826 13 3 _ .int rfl rfl
        have e138 : (H1.1 1826 3) = (H.1 1826 3) := hf.2.2 3 (by decide)
        have g139 : -2147483648 ≤ (H1.1 1826 8) ∧ (H1.1 1826 8) ≤ 2147483647 := hrg111.1 1826 13 8 _ .int rfl rfl
        have e140 : (H1.1 1826 8) = (H.1 1826 8) := hf.2.2 8 (by decide)
        have g141 : -2147483648 ≤ (H1.1 1826 13) ∧ (H1.1 1826 13) ≤ 2147483647 := hrg111.1 1826 13 13 _ .int rfl rfl
        have g142 : -2147483648 ≤ (H1.1 1826 19) ∧ (H1.1 1826 19) ≤ 2147483647 := hrg111.1 1826 13 19 _ .int rfl rfl
        have e143 : (H1.1 1826 19) = (H.1 1826 19) := hf.2.2 19 (by decide)
        have g144 : -2147483648 ≤ (H1.1 1826 39) ∧ (H1.1 1826 39) ≤ 2147483647 := hrg111.1 1826 13 39 _ .int rfl rfl
        rw [show ((i : Int) + 1) = (((i + 1) : Nat) : Int) by omega]
        exact ih.2 _ r f (i + 1) (kl) (q) (kr) (fr_a hf (by decide)) (by omega : (H.1 1826 30) ≤ (H1.1 1826 30) ∧ (H1.1 1826 30) ≤ (H.1 1826 29)) (by omega : 0 ≤ (H1.1 1826 35) ∧ (H1.1 1826 35) ≤ 5) (by omega : 0 ≤ (H1.1 1826 32) ∧ (H1.1 1826 32) ≤ 1000) (agp_1839 hag (by omega : 48 * (H.1 1826 13) ≤ ((((48 * r) + i) : Nat) : Int))) (by omega : (H1.1 1826 35) = 0) (by omega : (r : Int) = (H.1 1826 13) ∧ (H.1 1826 13) ≤ 39) (by omega : (f : Int) < (H.1 1826 8)) (by omega : (H1.1 1826 1) = (H.1 1826 1) ∧ (H1.1 1826 3) = (H.1 1826 3) ∧ (H1.1 1826 8) = (H.1 1826 8) ∧ (H1.1 1826 13) = (H.1 1826 13) ∧ (H1.1 1826 19) = (H.1 1826 19)) hRL hkr (by omega : (H1.1 1826 43) = (kr) ∧ (kr) ≤ 40) hrt (by omega) (cp_up hcp : ∀ x, x < i + 1 → up (H1.1 1839) (48 * r + i) ((H1.1 1851) i) (48 * r + x) = (H1.1 1851) x) ⟨X7, hq7, RK_fr hR7 (fr_a (fr_rf [] [1839] H1) (by decide)) (by decide) (by decide), RD_same hD7 rfl rfl rfl rfl, h76, LQ_fr hLQ7 (fr_a (fr_rf [] [1839] H1) (by decide)) (by decide)⟩ (by omega : ((kr) - (i + 1)) < w)
set_option maxRecDepth 100000 in
theorem n_rule {zC : Nat → Option zsh} {d : Nat} (hd : 8 ≤ d) {H : hp}  {Y : yx} {m : Int} {c0 : cf} {K : List tq} {X : rx} {nn : Int} (h0 : 0 ≤ (H.1 1826 30) ∧ (H.1 1826 30) ≤ (H.1 1826 29) ∧ (H.1 1826 29) ≤ 1000) (hw : 0 ≤ (H.1 1826 35) ∧ (H.1 1826 35) ≤ 5) (hst : 0 ≤ (H.1 1826 32) ∧ (H.1 1826 32) ≤ 1000) (hP : PWc H) (hw0 : (H.1 1826 35) = 0) (hR : RK Y m H X) (hmf : (H.1 1826 8) = m) (hq : rch Y c0 ((6, nn, 0, 0) :: K, X)) (htk : tk Y (xi X) = 6) : hG (zs zC) d mt_186 0 (zargs 0 [.inr (.inr 1826)]) [] H (fun r H2 => r = none ∧ GB Y m c0 H2 (∃ X2 : rx, rch Y c0 (((1, 59, 0, 0) :: (6, nn + 1, 0, 0) :: K), X2) ∧ RK Y m H2 X2 ∧ X2 0 6 = X 0 6 + 1 ∧ LQ H2 (X 0 6).toNat X2 (4 * (X 0 6).toNat + 100) ∧ RQr H2 (X 0 6).toNat X2 (4 * (X 0 6).toNat + 101)) ∧ fr [30, 31, 32, 33, 35, 36, 13, 39, 40, 41, 43, 44, 47] [1836, 1837, 1838, 1839, 1840, 1849, 1850, 1851, 1852, 1853, 1854] H H2 ∧ ((H.1 1826 30) ≤ (H2.1 1826 30) ∧ (H2.1 1826 30) ≤ (H.1 1826 29)) ∧ (0 ≤ (H2.1 1826 35) ∧ (H2.1 1826 35) ≤ 5) ∧ ((H.1 1826 35) ≠ 0 → (H2.1 1826 35) ≠ 0) ∧ (0 ≤ (H2.1 1826 32) ∧ (H2.1 1826 32) ≤ 1000) ∧ agp H H2 ∧ ((H2.1 1826 35) = 0 → PWc H2)) := by
  refine h_rng (fun hrg0 => ?_)
  refine h_run 0 (pc' := 0) (l' := [(0, .inr (.inr 1826))]) (st' := []) rfl ?_
  obtain ⟨⟨pb1, pb2, pb3, pb4, pb5⟩, pw1, pw2, pw3, pw4⟩ := (id hP : PW H (H.1 1826 1) (H.1 1826 3) (H.1 1826 8) (H.1 1826 13) (H.1 1826 19))
  have hx6 := hR.2.2.2.2.2.2.2.1.1.1
  refine h_run 2 (pc' := 4) (l' := [(0, .inr (.inr 1826))]) (st' := [.inl (H.1 1826 13)]) rfl ?_
  have g145 : -2147483648 ≤ (H.1 1826 13) ∧ (H.1 1826 13) ≤ 2147483647 := hrg0.1 1826 13 13 _ .int rfl rfl
  refine h_run 1 (pc' := 6) (l' := [(0, .inr (.inr 1826))]) (st' := [.inl 40, .inl (H.1 1826 13)]) rfl ?_
  refine h_ine (off := 9) (t := 15) rfl rfl (by omega) (by decide) (fun c146 => ?_) (fun c146 => ?_)
  · refine h_run 1 (pc' := 16) (l' := [(0, .inr (.inr 1826))]) (st' := [.inr (.inr 1826)]) rfl ?_
    have g147 : -2147483648 ≤ (H.1 1826 30) ∧ (H.1 1826 30) ≤ 2147483647 := hrg0.1 1826 13 30 _ .int rfl rfl
    have g148 : -2147483648 ≤ (H.1 1826 29) ∧ (H.1 1826 29) ≤ 2147483647 := hrg0.1 1826 13 29 _ .int rfl rfl
    have g149 : -2147483648 ≤ (H.1 1826 35) ∧ (H.1 1826 35) ≤ 2147483647 := hrg0.1 1826 13 35 _ .int rfl rfl
    have g150 : -2147483648 ≤ (H.1 1826 32) ∧ (H.1 1826 32) ≤ 2147483647 := hrg0.1 1826 13 32 _ .int rfl rfl
    refine h_cv (i := 297) (j := 165) (b := 1826) (M' := mt_165) (xs := []) (rest := []) rfl rfl rfl rfl rfl rfl (Nat.le_of_ble_eq_true rfl) (Nat.le_of_ble_eq_true rfl) (by omega) (n_nx2 (by omega) (by omega : 0 ≤ (H.1 1826 30) ∧ (H.1 1826 30) ≤ (H.1 1826 29) ∧ (H.1 1826 29) ≤ 1000) (by omega : 0 ≤ (H.1 1826 35) ∧ (H.1 1826 35) ≤ 5) (by omega : 0 ≤ (H.1 1826 32) ∧ (H.1 1826 32) ≤ 1000) (by omega : (H.1 1826 35) = 0) (X := (adv X)) (RN_adv hR (fr_rf [] [] _) (by decide) (by decide)) (fun q9 => (rch_st hq (by show stDec Y nn K X = _; unfold stDec miss; (repeat (first | rw [if_pos (by omega)] | rw [if_neg (by omega)])); try (first | rfl | (exfalso; omega)))))) ?_
    rintro _ H151 ⟨rfl, hx151n, hx151f, hx151a, hx151b, hx151c, -, hx151e, hx151g⟩
    refine h_rng (fun hrg152 => ?_)
    have hf153 : fr [30, 31, 32, 33, 35, 36, 13, 39, 40, 41, 43, 44, 47] [1836, 1837, 1838, 1839, 1840, 1849, 1850, 1851, 1852, 1853, 1854] H H151 := fr_t (fr_rf _ _ _) hx151f (by decide) (by decide)
    have ha154 : agp H H151 := agp_tr (agp_rf _) (agp_fr hx151f (by decide) (by decide))
    replace hx151a : (H.1 1826 30) ≤ (H151.1 1826 30) := hx151a
    replace hx151b : (H151.1 1826 30) ≤ (H.1 1826 29) := hx151b
    replace hx151g : (H151.1 1826 35) = 0 → ((H151.1 1826 31) = 0 ∨ (H.1 1826 30) < (H151.1 1826 30)) := hx151g
    refine h_run 0 (pc' := 19) (l' := [(0, .inr (.inr 1826))]) (st' := []) rfl ?_
    refine h_run 1 (pc' := 20) (l' := [(0, .inr (.inr 1826))]) (st' := [.inr (.inr 1826)]) rfl ?_
    have g155 : -2147483648 ≤ (H151.1 1826 35) ∧ (H151.1 1826 35) ≤ 2147483647 := hrg152.1 1826 13 35 _ .int rfl rfl
    refine h_cv (i := 293) (j := 158) (b := 1826) (M' := mt_158) (xs := []) (rest := []) rfl rfl rfl rfl rfl rfl (Nat.le_of_ble_eq_true rfl) (Nat.le_of_ble_eq_true rfl) (by omega) (m_good (by omega)) ?_
    rintro _ _ ⟨⟨rfl, b156⟩ | ⟨rfl, b156⟩, rfl⟩
    · have b156x : (H151.1 1826 35) = 0 := b156
      replace hx151g := hx151g b156x
      refine h_run 0 (pc' := 23) (l' := [(0, .inr (.inr 1826))]) (st' := [.inl 1]) rfl ?_
      refine h_zeq (off := 16) (t := 39) rfl rfl (by decide) (fun c => absurd c (by decide)) (fun _ => ?_)
      have hR1 := GB_g hx151n (by omega)
      have htk1 := RK_t hR1
      have hff1 := ffd_b Y (adv X)
      refine h_run 2 (pc' := 30) (l' := [(0, .inr (.inr 1826))]) (st' := [.inl (H151.1 1826 31)]) rfl ?_
      have g157 : -2147483648 ≤ (H151.1 1826 31) ∧ (H151.1 1826 31) ≤ 2147483647 := hrg152.1 1826 13 31 _ .int rfl rfl
      refine h_run 1 (pc' := 31) (l' := [(0, .inr (.inr 1826))]) (st' := [.inl 1, .inl (H151.1 1826 31)]) rfl ?_
      refine h_ieq (off := 8) (t := 39) rfl rfl (by omega) (by decide) (fun c158 => ?_) (fun c158 => ?_)
      · refine h_run 1 (pc' := 40) (l' := [(0, .inr (.inr 1826))]) (st' := [.inr (.inr 1826)]) rfl ?_
        refine h_cv (i := 293) (j := 158) (b := 1826) (M' := mt_158) (xs := []) (rest := []) rfl rfl rfl rfl rfl rfl (Nat.le_of_ble_eq_true rfl) (Nat.le_of_ble_eq_true rfl) (by omega) (m_good1 (by omega) (by omega : (H151.1 1826 35) = 0)) ?_
        rintro _ _ ⟨rfl, rfl⟩
        refine h_run 0 (pc' := 43) (l' := [(0, .inr (.inr 1826))]) (st' := [.inl 1]) rfl ?_
        refine h_zeq (off := 21) (t := 64) rfl rfl (by decide) (fun c => absurd c (by decide)) (fun _ => ?_)
        refine h_run 4 (pc' := 54) (l' := [(0, .inr (.inr 1826))]) (st' := [.inl (H151.1 1826 8), .inr (.inr 1832)]) rfl ?_
        have g159 : -2147483648 ≤ (H151.1 1826 8) ∧ (H151.1 1826 8) ≤ 2147483647 := hrg152.1 1826 13 8 _ .int rfl rfl
        have e160 : (H151.1 1826 8) = (H.1 1826 8) := hx151f.2.2 8 (by decide)
        refine h_run 2 (pc' := 58) (l' := [(0, .inr (.inr 1826))]) (st' := [.inr (.inl (H151.1 1826 33)), .inl (H151.1 1826 8), .inr (.inr 1832)]) rfl ?_
        have g161 : -9223372036854775808 ≤ (H151.1 1826 33) ∧ (H151.1 1826 33) ≤ 9223372036854775807 := hrg152.1 1826 13 33 _ .long rfl rfl
        refine h_cs (i := 309) (j := 167) (M' := mt_167) (xs := [.inr (.inl (H151.1 1826 33)), .inl (H151.1 1826 8), .inr (.inr 1832)]) (rest := []) rfl rfl rfl rfl rfl (Nat.le_of_ble_eq_true rfl) (Nat.le_of_ble_eq_true rfl) (by omega) (n_find (by omega) (m := 16) (z := ffd Y (adv X)) rfl (by omega : 0 ≤ (H151.1 1826 8) ∧ (H151.1 1826 8) ≤ ((16 : Nat) : Int) ∧ 16 ≤ 100) (by omega) (RK_ff hR1 (Or.inl (by omega)))) ?_
        rintro _ _ ⟨⟨k162, rfl, f163, f163x⟩ | ⟨rfl, f163⟩, rfl⟩
        · refine h_run 0 (pc' := 61) (l' := [(0, .inr (.inr 1826))]) (st' := [.inl (k162 : Int)]) rfl ?_
          refine h_run 3 (pc' := 67) (l' := [(0, .inr (.inr 1826)), (1, .inl (k162 : Int))]) (st' := [.inr (.inr 1826)]) rfl ?_
          refine h_cv (i := 293) (j := 158) (b := 1826) (M' := mt_158) (xs := []) (rest := []) rfl rfl rfl rfl rfl rfl (Nat.le_of_ble_eq_true rfl) (Nat.le_of_ble_eq_true rfl) (by omega) (m_good1 (by omega) (by omega : (H151.1 1826 35) = 0)) ?_
          rintro _ _ ⟨rfl, rfl⟩
          refine h_run 0 (pc' := 70) (l' := [(0, .inr (.inr 1826)), (1, .inl (k162 : Int))]) (st' := [.inl 1]) rfl ?_
          refine h_zeq (off := 13) (t := 83) rfl rfl (by decide) (fun c => absurd c (by decide)) (fun _ => ?_)
          refine h_run 2 (pc' := 75) (l' := [(0, .inr (.inr 1826)), (1, .inl (k162 : Int))]) (st' := [.inl (-1), .inl (k162 : Int)]) rfl ?_
          refine h_ine (off := 8) (t := 83) rfl rfl (by omega) (by decide) (fun c164 => ?_) (fun c164 => ?_)
          · refine h_run 1 (pc' := 84) (l' := [(0, .inr (.inr 1826)), (1, .inl (k162 : Int))]) (st' := [.inr (.inr 1826)]) rfl ?_
            refine h_cv (i := 293) (j := 158) (b := 1826) (M' := mt_158) (xs := []) (rest := []) rfl rfl rfl rfl rfl rfl (Nat.le_of_ble_eq_true rfl) (Nat.le_of_ble_eq_true rfl) (by omega) (m_good1 (by omega) (by omega : (H151.1 1826 35) = 0)) ?_
            rintro _ _ ⟨rfl, rfl⟩
            refine h_run 0 (pc' := 87) (l' := [(0, .inr (.inr 1826)), (1, .inl (k162 : Int))]) (st' := [.inl 1]) rfl ?_
            refine h_zne (off := 4) (t := 91) rfl rfl (by decide) (fun _ => ?_) (fun c => absurd c (by decide))
            refine h_run 1 (pc' := 92) (l' := [(0, .inr (.inr 1826)), (1, .inl (k162 : Int))]) (st' := [.inr (.inr 1826)]) rfl ?_
            refine h_cv (i := 379) (j := 185) (b := 1826) (M' := mt_185) (xs := []) (rest := []) rfl rfl rfl rfl rfl rfl (Nat.le_of_ble_eq_true rfl) (Nat.le_of_ble_eq_true rfl) (by omega) (m_beginTerm (by omega)) ?_
            rintro _ _ ⟨rfl, rfl⟩
            refine h_run 0 (pc' := 95) (l' := [(0, .inr (.inr 1826)), (1, .inl (k162 : Int))]) (st' := []) rfl ?_
            refine h_run 1 (pc' := 96) (l' := [(0, .inr (.inr 1826)), (1, .inl (k162 : Int))]) (st' := [.inr (.inr 1826)]) rfl ?_
            refine h_cv (i := 344) (j := 168) (b := 1826) (M' := mt_168) (xs := []) (rest := []) rfl rfl rfl rfl rfl rfl (Nat.le_of_ble_eq_true rfl) (Nat.le_of_ble_eq_true rfl) (by omega) (m_countA (by omega) (by omega : (H151.1 1826 35) = 0) (by omega : 0 ≤ (0 : Int) ∧ (0 : Int) ≤ 1000) (by omega : (0 : Int) ≠ 40)) ?_
            rintro _ _ ⟨rfl, rfl⟩
            refine h_run 0 (pc' := 99) (l' := [(0, .inr (.inr 1826)), (1, .inl (k162 : Int))]) (st' := []) rfl ?_
            have hq3 : rch Y c0 ((5, 100 + ffd Y (adv X), 0, 0) :: (1, 61, 0, 0) :: (12, ffd Y (adv X), 0, 0) :: (13, 0, 0, 0) :: ((1, 59, 0, 0) :: (6, nn + 1, 0, 0) :: K), (xput (xr (adv X)) (100 + ffd Y (adv X)))) := (rch_st hq (by show stDec Y nn K X = _; unfold stDec miss; (repeat (first | rw [if_pos (by omega)] | rw [if_neg (by omega)])); try (first | rfl | (exfalso; omega))))
            have hq4 : rch Y c0 ((5, 100 + (k162 : Int), 0, 0) :: (1, 61, 0, 0) :: (12, (k162 : Int), 0, 0) :: (13, 0, 0, 0) :: ((1, 59, 0, 0) :: (6, nn + 1, 0, 0) :: K), (xput (xr (adv X)) (100 + ffd Y (adv X)))) := by rw [show (k162 : Int) = ffd Y (adv X) by omega]; exact hq3
            refine h_run 1 (pc' := 100) (l' := [(0, .inr (.inr 1826)), (1, .inl (k162 : Int))]) (st' := [.inr (.inr 1826)]) rfl ?_
            have g165 : -2147483648 ≤ (H151.1 1826 30) ∧ (H151.1 1826 30) ≤ 2147483647 := hrg152.1 1826 13 30 _ .int rfl rfl
            have g166 : -2147483648 ≤ (H151.1 1826 29) ∧ (H151.1 1826 29) ≤ 2147483647 := hrg152.1 1826 13 29 _ .int rfl rfl
            have e167 : (H151.1 1826 29) = (H.1 1826 29) := hx151f.2.2 29 (by decide)
            have g168 : -2147483648 ≤ (H151.1 1826 32) ∧ (H151.1 1826 32) ≤ 2147483647 := hrg152.1 1826 13 32 _ .int rfl rfl
            refine h_cv (i := 297) (j := 165) (b := 1826) (M' := mt_165) (xs := []) (rest := []) rfl rfl rfl rfl rfl rfl (Nat.le_of_ble_eq_true rfl) (Nat.le_of_ble_eq_true rfl) (by omega) (n_nx (by omega) (by omega : 0 ≤ (H151.1 1826 30) ∧ (H151.1 1826 30) ≤ (H151.1 1826 29) ∧ (H151.1 1826 29) ≤ 1000) (by omega : 0 ≤ (H151.1 1826 35) ∧ (H151.1 1826 35) ≤ 5) (by omega : 0 ≤ (H151.1 1826 32) ∧ (H151.1 1826 32) ≤ 1000) (by omega : (H151.1 1826 35) = 0) (X := (xput (xr (adv X)) (100 + ffd Y (adv X)))) (RN_mk hR1 (fr_o (fr_o (fr_o (fr_o (fr_o (fr_rf [39, 40, 41, 43] [] H151) (by decide)) (by decide)) (by decide)) (by decide)) (by decide)) (by decide) (by decide) ((xpt_s _ _).1.trans (by rw [(xr_s _).1])) (TA_sT (TA_fr hR1.2.2.2.2 (fr_o (fr_o (fr_o (fr_o (fr_o (fr_rf [39, 40, 41, 43] [] H151) (by decide)) (by decide)) (by decide)) (by decide)) (by decide)) (by decide) (by decide)) (sT_tr (xr_s _).2.2.2.2 (sT_put _ _)))) hq3 (lk_c (lk_1 (by decide)) (by decide : (5 : Nat) ≠ 0) (fun q => absurd q (by decide : (5 : Nat) ≠ 1)))) ?_
            rintro _ H169 ⟨rfl, hx169n, hx169f, hx169a, hx169b, hx169c, -, hx169e, hx169g⟩
            refine h_rng (fun hrg170 => ?_)
            have hf171 : fr [30, 31, 32, 33, 35, 36, 13, 39, 40, 41, 43, 44, 47] [1836, 1837, 1838, 1839, 1840, 1849, 1850, 1851, 1852, 1853, 1854] H H169 := fr_t (fr_o (fr_o (fr_o (fr_o (fr_o hf153 (by decide)) (by decide)) (by decide)) (by decide)) (by decide)) hx169f (by decide) (by decide)
            have ha172 : agp H H169 := agp_tr (agp_o (agp_o (agp_o (agp_o (agp_o ha154 (by decide)) (by decide)) (by decide)) (by decide)) (by decide)) (agp_fr hx169f (by decide) (by decide))
            replace hx169a : (H151.1 1826 30) ≤ (H169.1 1826 30) := hx169a
            replace hx169b : (H169.1 1826 30) ≤ (H151.1 1826 29) := hx169b
            replace hx169g : (H169.1 1826 35) = 0 → ((H169.1 1826 31) = 0 ∨ (H151.1 1826 30) < (H169.1 1826 30)) := hx169g
            refine h_run 0 (pc' := 103) (l' := [(0, .inr (.inr 1826)), (1, .inl (k162 : Int))]) (st' := []) rfl ?_
            refine h_run 2 (pc' := 105) (l' := [(0, .inr (.inr 1826)), (1, .inl (k162 : Int))]) (st' := [.inl 0, .inr (.inr 1826)]) rfl ?_
            refine h_puti (i := 367) (ci := 13) (k := 44) (a := 1826) (x := 0) rfl rfl rfl rfl rfl rfl (by decide) (by decide) ?_
            refine h_run 2 (pc' := 110) (l' := [(0, .inr (.inr 1826)), (1, .inl (k162 : Int))]) (st' := [.inl (k162 : Int), .inr (.inr 1826)]) rfl ?_
            have g173 : -2147483648 ≤ (H169.1 1826 35) ∧ (H169.1 1826 35) ≤ 2147483647 := hrg170.1 1826 13 35 _ .int rfl rfl
            by_cases b174 : (H169.1 1826 35) = 0
            · have g175 : -2147483648 ≤ (H169.1 1826 30) ∧ (H169.1 1826 30) ≤ 2147483647 := hrg170.1 1826 13 30 _ .int rfl rfl
              have g176 : -2147483648 ≤ (H169.1 1826 29) ∧ (H169.1 1826 29) ≤ 2147483647 := hrg170.1 1826 13 29 _ .int rfl rfl
              have e177 : (H169.1 1826 29) = (H151.1 1826 29) := hx169f.2.2 29 (by decide)
              have g178 : -2147483648 ≤ (H169.1 1826 8) ∧ (H169.1 1826 8) ≤ 2147483647 := hrg170.1 1826 13 8 _ .int rfl rfl
              have e179 : (H169.1 1826 8) = (H151.1 1826 8) := hx169f.2.2 8 (by decide)
              have g181 : -2147483648 ≤ (H169.1 1826 32) ∧ (H169.1 1826 32) ≤ 2147483647 := hrg170.1 1826 13 32 _ .int rfl rfl
              have g182 : -2147483648 ≤ (H169.1 1826 1) ∧ (H169.1 1826 1) ≤ 2147483647 := hrg170.1 1826 13 1 _ .int rfl rfl
              have e183 : (H169.1 1826 1) = (H151.1 1826 1) := hx169f.2.2 1 (by decide)
              have e184 : (H151.1 1826 1) = (H.1 1826 1) := hx151f.2.2 1 (by decide)
              have g185 : -2147483648 ≤ (H169.1 1826 3) ∧ (H169.1 1826 3) ≤ 2147483647 := hrg170.1 1826 13 3 _ .int rfl rfl
              have e186 : (H169.1 1826 3) = (H151.1 1826 3) := hx169f.2.2 3 (by decide)
              have e187 : (H151.1 1826 3) = (H.1 1826 3) := hx151f.2.2 3 (by decide)
              have g188 : -2147483648 ≤ (H169.1 1826 13) ∧ (H169.1 1826 13) ≤ 2147483647 := hrg170.1 1826 13 13 _ .int rfl rfl
              have e189 : (H169.1 1826 13) = (H151.1 1826 13) := hx169f.2.2 13 (by decide)
              have e190 : (H151.1 1826 13) = (H.1 1826 13) := hx151f.2.2 13 (by decide)
              have g191 : -2147483648 ≤ (H169.1 1826 19) ∧ (H169.1 1826 19) ≤ 2147483647 := hrg170.1 1826 13 19 _ .int rfl rfl
              have e192 : (H169.1 1826 19) = (H151.1 1826 19) := hx169f.2.2 19 (by decide)
              have e193 : (H151.1 1826 19) = (H.1 1826 19) := hx151f.2.2 19 (by decide)
              refine h_cv (i := 382) (j := 178) (b := 1826) (M' := mt_178) (xs := [.inl (k162 : Int)]) (rest := []) rfl rfl rfl rfl rfl rfl (Nat.le_of_ble_eq_true rfl) (Nat.le_of_ble_eq_true rfl) (by omega) (n_patterns (by omega) (by omega : 0 ≤ (H169.1 1826 30) ∧ (H169.1 1826 30) ≤ (H169.1 1826 29) ∧ (H169.1 1826 29) ≤ 1000) (by omega : 0 ≤ (H169.1 1826 35) ∧ (H169.1 1826 35) ≤ 5) (by omega : 0 ≤ (H169.1 1826 32) ∧ (H169.1 1826 32) ≤ 1000) (PWc_agp hP (agp_o ha172 (by decide)) ⟨(by omega : (H169.1 1826 1) = (H.1 1826 1)), (by omega : (H169.1 1826 3) = (H.1 1826 3)), (by omega : (H169.1 1826 8) = (H.1 1826 8)), (by omega : (H169.1 1826 13) = (H.1 1826 13)), (by omega : (H169.1 1826 19) = (H.1 1826 19))⟩) (by omega : (k162 : Int) < (H169.1 1826 8)) (fun _ => ⟨(hx169f.2.2 40 (by decide)), (hx169f.2.2 43 (by decide)), (hx169f.2.2 39 (by decide)), (hx169f.2.2 41 (by decide))⟩) (by omega : (H169.1 1826 35) = 0) (RK_fr (GB_g hx169n (by omega)) (fr_o (fr_rf [44] [] H169) (by decide)) (by decide) (by decide)) (VP_start (hx169f.2.2 40 (by decide)) (hx169f.2.2 39 (by decide)) (hx169f.2.2 43 (by decide))) hq4 (lk_1 (by decide))) ?_
              rintro _ H180 ⟨rfl, hx180n, hx180f, hx180a, hx180c, -, hx180e, hx180p⟩
              refine h_rng (fun hrg194 => ?_)
              have hf195 : fr [30, 31, 32, 33, 35, 36, 13, 39, 40, 41, 43, 44, 47] [1836, 1837, 1838, 1839, 1840, 1849, 1850, 1851, 1852, 1853, 1854] H H180 := fr_t (fr_o hf171 (by decide)) hx180f (by decide) (by decide)
              have ha196 : agp H H180 := agp_tr (agp_o ha172 (by decide)) (agp_fr hx180f (by decide) (by decide))
              replace hx180a : (H169.1 1826 30) ≤ (H180.1 1826 30) ∧ (H180.1 1826 30) ≤ (H169.1 1826 29) := hx180a
              refine h_run 0 (pc' := 113) (l' := [(0, .inr (.inr 1826)), (1, .inl (k162 : Int))]) (st' := []) rfl ?_
              refine h_run 2 (pc' := 117) (l' := [(0, .inr (.inr 1826)), (1, .inl (k162 : Int))]) (st' := [.inl (H180.1 1826 13)]) rfl ?_
              have g197 : -2147483648 ≤ (H180.1 1826 13) ∧ (H180.1 1826 13) ≤ 2147483647 := hrg194.1 1826 13 13 _ .int rfl rfl
              have e198 : (H180.1 1826 13) = (H169.1 1826 13) := hx180f.2.2 13 (by decide)
              refine h_run 2 (pc' := 119) (l' := [(0, .inr (.inr 1826)), (1, .inl (k162 : Int)), (2, .inl (H180.1 1826 13))]) (st' := [.inr (.inr 1826)]) rfl ?_
              have g199 : -2147483648 ≤ (H180.1 1826 35) ∧ (H180.1 1826 35) ≤ 2147483647 := hrg194.1 1826 13 35 _ .int rfl rfl
              refine h_cv (i := 293) (j := 158) (b := 1826) (M' := mt_158) (xs := []) (rest := []) rfl rfl rfl rfl rfl rfl (Nat.le_of_ble_eq_true rfl) (Nat.le_of_ble_eq_true rfl) (by omega) (m_good (by omega)) ?_
              rintro _ _ ⟨⟨rfl, b200⟩ | ⟨rfl, b200⟩, rfl⟩
              · have b200x : (H180.1 1826 35) = 0 := b200
                refine h_run 0 (pc' := 122) (l' := [(0, .inr (.inr 1826)), (1, .inl (k162 : Int)), (2, .inl (H180.1 1826 13))]) (st' := [.inl 1]) rfl ?_
                refine h_zeq (off := 53) (t := 175) rfl rfl (by decide) (fun c => absurd c (by decide)) (fun _ => ?_)
                obtain ⟨kl, q, hp1, hp2, hp3, hp4, hp5, hp6⟩ := hx180p (by omega)
                clear hq4
                obtain ⟨X4, hq4, hR4, hV4⟩ := GB_g hx180n (by omega)
                replace hV4 : VP H180 X4 (100 + (k162 : Int)) := by rw [show (k162 : Int) = ffd Y (adv X) by omega]; exact hV4
                refine h_run 4 (pc' := 131) (l' := [(0, .inr (.inr 1826)), (1, .inl (k162 : Int)), (2, .inl (H180.1 1826 13))]) (st' := [.inl (k162 : Int), .inl (H180.1 1826 13), .inr (.inr 1836)]) rfl ?_
                refine h_ist (c := 1836) (j := ((H180.1 1826 13)).toNat) (i := (H180.1 1826 13)) (x := (k162 : Int)) rfl rfl (by decide) (by decide) (by omega) (by omega) (by omega) ?_
                refine h_run 5 (pc' := 141) (l' := [(0, .inr (.inr 1826)), (1, .inl (k162 : Int)), (2, .inl (H180.1 1826 13))]) (st' := [.inl (H180.1 1826 43), .inl (H180.1 1826 13), .inr (.inr 1838)]) rfl ?_
                have g201 : -2147483648 ≤ (H180.1 1826 43) ∧ (H180.1 1826 43) ≤ 2147483647 := hrg194.1 1826 13 43 _ .int rfl rfl
                refine h_ist (c := 1838) (j := ((H180.1 1826 13)).toNat) (i := (H180.1 1826 13)) (x := (H180.1 1826 43)) rfl rfl (by decide) (by decide) (by omega) (by omega) (by omega) ?_
                refine h_run 2 (pc' := 144) (l' := [(0, .inr (.inr 1826)), (1, .inl (k162 : Int)), (2, .inl (H180.1 1826 13)), (3, .inl 0)]) (st' := []) rfl ?_
                have g202 : -2147483648 ≤ (H180.1 1826 30) ∧ (H180.1 1826 30) ≤ 2147483647 := hrg194.1 1826 13 30 _ .int rfl rfl
                have g203 : -2147483648 ≤ (H180.1 1826 32) ∧ (H180.1 1826 32) ≤ 2147483647 := hrg194.1 1826 13 32 _ .int rfl rfl
                have g204 : -2147483648 ≤ (H180.1 1826 31) ∧ (H180.1 1826 31) ≤ 2147483647 := hrg194.1 1826 13 31 _ .int rfl rfl
                have g205 : -2147483648 ≤ (H180.1 1826 29) ∧ (H180.1 1826 29) ≤ 2147483647 := hrg194.1 1826 13 29 _ .int rfl rfl
                have e206 : (H180.1 1826 29) = (H169.1 1826 29) := hx180f.2.2 29 (by decide)
                have g207 : -2147483648 ≤ (H180.1 1826 1) ∧ (H180.1 1826 1) ≤ 2147483647 := hrg194.1 1826 13 1 _ .int rfl rfl
                have e208 : (H180.1 1826 1) = (H169.1 1826 1) := hx180f.2.2 1 (by decide)
                have g209 : -2147483648 ≤ (H180.1 1826 3) ∧ (H180.1 1826 3) ≤ 2147483647 := hrg194.1 1826 13 3 _ .int rfl rfl
                have e210 : (H180.1 1826 3) = (H169.1 1826 3) := hx180f.2.2 3 (by decide)
                have g211 : -2147483648 ≤ (H180.1 1826 8) ∧ (H180.1 1826 8) ≤ 2147483647 := hrg194.1 1826 13 8 _ .int rfl rfl
                have e212 : (H180.1 1826 8) = (H169.1 1826 8) := hx180f.2.2 8 (by decide)
                have g213 : -2147483648 ≤ (H180.1 1826 19) ∧ (H180.1 1826 19) ≤ 2147483647 := hrg194.1 1826 13 19 _ .int rfl rfl
                have e214 : (H180.1 1826 19) = (H169.1 1826 19) := hx180f.2.2 19 (by decide)
                have g215 : -2147483648 ≤ (H180.1 1826 39) ∧ (H180.1 1826 39) ≤ 2147483647 := hrg194.1 1826 13 39 _ .int rfl rfl
                rw [show (H180.1 1826 13) = ((((H180.1 1826 13)).toNat : Nat) : Int) by omega]
                exact (n_rule_cut hd h0 hw hst hP hw0 hR hmf hq htk _).1 _ ((H180.1 1826 13)).toNat k162 0 (kl) (q) (fr_a (fr_a hf195 (by decide)) (by decide)) (by omega : (H.1 1826 30) ≤ (H180.1 1826 30) ∧ (H180.1 1826 30) ≤ (H.1 1826 29)) (by omega : 0 ≤ (H180.1 1826 35) ∧ (H180.1 1826 35) ≤ 5) (by omega : 0 ≤ (H180.1 1826 32) ∧ (H180.1 1826 32) ≤ 1000) (agp_1838 (agp_1836 ha196 (by omega : (H.1 1826 13) ≤ ((((H180.1 1826 13)).toNat : Nat) : Int))) (by omega : (H.1 1826 13) ≤ ((((H180.1 1826 13)).toNat : Nat) : Int))) (by omega : (H180.1 1826 35) = 0) (by omega : (((H180.1 1826 13)).toNat : Int) = (H.1 1826 13) ∧ (H.1 1826 13) ≤ 39) (by omega : (k162 : Int) < (H.1 1826 8)) (by omega : (H180.1 1826 1) = (H.1 1826 1) ∧ (H180.1 1826 3) = (H.1 1826 3) ∧ (H180.1 1826 8) = (H.1 1826 8) ∧ (H180.1 1826 13) = (H.1 1826 13) ∧ (H180.1 1826 19) = (H.1 1826 19)) ⟨⟨hp1, hp2, hp3⟩, hp4, hp5, hp6⟩ ⟨up_eq _ _ _, (show up (H180.1 1838) ((H180.1 1826 13)).toNat ((H180.1 1826 43)) _ = (kl : Int) by rw [up_eq]; omega)⟩ (by omega) (fun x hx => absurd hx (Nat.not_lt_zero _)) ⟨X4, hq4, RK_fr hR4 (fr_a (fr_a (fr_rf [] [1836, 1838] H180) (by decide)) (by decide)) (by decide) (by decide), VP_eq hV4 rfl rfl rfl rfl rfl rfl⟩ (Nat.lt_succ_self _)
              · have b200x : (H180.1 1826 35) ≠ 0 := b200
                refine h_run 0 (pc' := 122) (l' := [(0, .inr (.inr 1826)), (1, .inl (k162 : Int)), (2, .inl (H180.1 1826 13))]) (st' := [.inl 0]) rfl ?_
                refine h_zeq (off := 53) (t := 175) rfl rfl (by decide) (fun _ => ?_) (fun c => absurd c (by decide))
                skip
                skip
                refine h_run 2 (pc' := 178) (l' := [(0, .inr (.inr 1826)), (1, .inl (k162 : Int)), (2, .inl (H180.1 1826 13))]) (st' := [.inl 61, .inr (.inr 1826)]) rfl ?_
                refine h_cv (i := 313) (j := 166) (b := 1826) (M' := mt_166) (xs := [.inl 61]) (rest := []) rfl rfl rfl rfl rfl rfl (Nat.le_of_ble_eq_true rfl) (Nat.le_of_ble_eq_true rfl) (by omega) (n_want0 (by omega) (by omega : (H180.1 1826 35) ≠ 0)) ?_
                rintro _ _ ⟨rfl, rfl⟩
                refine h_run 0 (pc' := 181) (l' := [(0, .inr (.inr 1826)), (1, .inl (k162 : Int)), (2, .inl (H180.1 1826 13))]) (st' := []) rfl ?_
                refine h_run 2 (pc' := 183) (l' := [(0, .inr (.inr 1826)), (1, .inl (k162 : Int)), (2, .inl (H180.1 1826 13))]) (st' := [.inl 0, .inr (.inr 1826)]) rfl ?_
                refine h_puti (i := 300) (ci := 13) (k := 40) (a := 1826) (x := 0) rfl rfl rfl rfl rfl rfl (by decide) (by decide) ?_
                refine h_run 2 (pc' := 188) (l' := [(0, .inr (.inr 1826)), (1, .inl (k162 : Int)), (2, .inl (H180.1 1826 13))]) (st' := [.inl 0, .inr (.inr 1826)]) rfl ?_
                refine h_puti (i := 335) (ci := 13) (k := 41) (a := 1826) (x := 0) rfl rfl rfl rfl rfl rfl (by decide) (by decide) ?_
                refine h_run 2 (pc' := 193) (l' := [(0, .inr (.inr 1826)), (1, .inl (k162 : Int)), (2, .inl (H180.1 1826 13))]) (st' := [.inl 0, .inr (.inr 1826)]) rfl ?_
                refine h_puti (i := 303) (ci := 13) (k := 43) (a := 1826) (x := 0) rfl rfl rfl rfl rfl rfl (by decide) (by decide) ?_
                refine h_run 2 (pc' := 198) (l' := [(0, .inr (.inr 1826)), (1, .inl (k162 : Int)), (2, .inl (H180.1 1826 13))]) (st' := [.inl 1, .inr (.inr 1826)]) rfl ?_
                refine h_puti (i := 367) (ci := 13) (k := 44) (a := 1826) (x := 1) rfl rfl rfl rfl rfl rfl (by decide) (by decide) ?_
                refine h_run 1 (pc' := 202) (l' := [(0, .inr (.inr 1826)), (1, .inl (k162 : Int)), (2, .inl (H180.1 1826 13))]) (st' := [.inr (.inr 1826)]) rfl ?_
                refine h_cv (i := 293) (j := 158) (b := 1826) (M' := mt_158) (xs := []) (rest := []) rfl rfl rfl rfl rfl rfl (Nat.le_of_ble_eq_true rfl) (Nat.le_of_ble_eq_true rfl) (by omega) (m_good0 (by omega) (by omega : (H180.1 1826 35) ≠ 0)) ?_
                rintro _ _ ⟨rfl, rfl⟩
                refine h_run 0 (pc' := 205) (l' := [(0, .inr (.inr 1826)), (1, .inl (k162 : Int)), (2, .inl (H180.1 1826 13))]) (st' := [.inl 0]) rfl ?_
                refine h_zeq (off := 14) (t := 219) rfl rfl (by decide) (fun _ => ?_) (fun c => absurd c (by decide))
                refine h_run 1 (pc' := 220) (l' := [(0, .inr (.inr 1826)), (1, .inl (k162 : Int)), (2, .inl (H180.1 1826 13))]) (st' := [.inr (.inr 1826)]) rfl ?_
                refine h_cv (i := 293) (j := 158) (b := 1826) (M' := mt_158) (xs := []) (rest := []) rfl rfl rfl rfl rfl rfl (Nat.le_of_ble_eq_true rfl) (Nat.le_of_ble_eq_true rfl) (by omega) (m_good0 (by omega) (by omega : (H180.1 1826 35) ≠ 0)) ?_
                rintro _ _ ⟨rfl, rfl⟩
                refine h_run 0 (pc' := 223) (l' := [(0, .inr (.inr 1826)), (1, .inl (k162 : Int)), (2, .inl (H180.1 1826 13))]) (st' := [.inl 0]) rfl ?_
                refine h_zeq (off := 56) (t := 279) rfl rfl (by decide) (fun _ => ?_) (fun c => absurd c (by decide))
                refine h_ret rfl rfl ?_
                have g216 : -2147483648 ≤ (H180.1 1826 30) ∧ (H180.1 1826 30) ≤ 2147483647 := hrg194.1 1826 13 30 _ .int rfl rfl
                have g217 : -2147483648 ≤ (H180.1 1826 32) ∧ (H180.1 1826 32) ≤ 2147483647 := hrg194.1 1826 13 32 _ .int rfl rfl
                have g218 : -2147483648 ≤ (H180.1 1826 29) ∧ (H180.1 1826 29) ≤ 2147483647 := hrg194.1 1826 13 29 _ .int rfl rfl
                have e219 : (H180.1 1826 29) = (H169.1 1826 29) := hx180f.2.2 29 (by decide)
                have g220 : -2147483648 ≤ (H180.1 1826 1) ∧ (H180.1 1826 1) ≤ 2147483647 := hrg194.1 1826 13 1 _ .int rfl rfl
                have e221 : (H180.1 1826 1) = (H169.1 1826 1) := hx180f.2.2 1 (by decide)
                have g222 : -2147483648 ≤ (H180.1 1826 3) ∧ (H180.1 1826 3) ≤ 2147483647 := hrg194.1 1826 13 3 _ .int rfl rfl
                have e223 : (H180.1 1826 3) = (H169.1 1826 3) := hx180f.2.2 3 (by decide)
                have g224 : -2147483648 ≤ (H180.1 1826 8) ∧ (H180.1 1826 8) ≤ 2147483647 := hrg194.1 1826 13 8 _ .int rfl rfl
                have e225 : (H180.1 1826 8) = (H169.1 1826 8) := hx180f.2.2 8 (by decide)
                have g226 : -2147483648 ≤ (H180.1 1826 19) ∧ (H180.1 1826 19) ≤ 2147483647 := hrg194.1 1826 13 19 _ .int rfl rfl
                have e227 : (H180.1 1826 19) = (H169.1 1826 19) := hx180f.2.2 19 (by decide)
                exact ⟨rfl, (Or.inr ⟨(by omega : (H180.1 1826 35) ≠ 0), BD_fr (GB_b hx180n (by omega)) (fr_o (fr_o (fr_o (fr_o (fr_rf [40, 41, 43, 44] [] H180) (by decide)) (by decide)) (by decide)) (by decide)) (by decide) (by decide)⟩), (fr_o (fr_o (fr_o (fr_o hf195 (by decide)) (by decide)) (by decide)) (by decide)), (by omega : (H.1 1826 30) ≤ (H180.1 1826 30) ∧ (H180.1 1826 30) ≤ (H.1 1826 29)), (by omega : 0 ≤ (H180.1 1826 35) ∧ (H180.1 1826 35) ≤ 5), (by omega : (H.1 1826 35) ≠ 0 → (H180.1 1826 35) ≠ 0), (by omega : 0 ≤ (H180.1 1826 32) ∧ (H180.1 1826 32) ≤ 1000), (agp_o (agp_o (agp_o (agp_o ha196 (by decide)) (by decide)) (by decide)) (by decide)), (fun (q : (H180.1 1826 35) = 0) => absurd q (by omega))⟩
            · have g228 : -2147483648 ≤ (H169.1 1826 30) ∧ (H169.1 1826 30) ≤ 2147483647 := hrg170.1 1826 13 30 _ .int rfl rfl
              have g229 : -2147483648 ≤ (H169.1 1826 29) ∧ (H169.1 1826 29) ≤ 2147483647 := hrg170.1 1826 13 29 _ .int rfl rfl
              have e230 : (H169.1 1826 29) = (H151.1 1826 29) := hx169f.2.2 29 (by decide)
              have g231 : -2147483648 ≤ (H169.1 1826 8) ∧ (H169.1 1826 8) ≤ 2147483647 := hrg170.1 1826 13 8 _ .int rfl rfl
              have e232 : (H169.1 1826 8) = (H151.1 1826 8) := hx169f.2.2 8 (by decide)
              refine h_cv (i := 382) (j := 178) (b := 1826) (M' := mt_178) (xs := [.inl (k162 : Int)]) (rest := []) rfl rfl rfl rfl rfl rfl (Nat.le_of_ble_eq_true rfl) (Nat.le_of_ble_eq_true rfl) (by omega) (n_patterns0 (by omega) (f := k162) (by omega : (H169.1 1826 35) ≠ 0) (by omega)) ?_
              rintro _ H233 ⟨rfl, hx233f⟩
              refine h_rng (fun hrg234 => ?_)
              have hf235 : fr [30, 31, 32, 33, 35, 36, 13, 39, 40, 41, 43, 44, 47] [1836, 1837, 1838, 1839, 1840, 1849, 1850, 1851, 1852, 1853, 1854] H H233 := fr_t (fr_o hf171 (by decide)) hx233f (by decide) (by decide)
              have ha236 : agp H H233 := agp_tr (agp_o ha172 (by decide)) (agp_fr hx233f (by decide) (by decide))
              have hx233n : GB Y m c0 H233 False := Or.inr ⟨by rw [(hx233f.2.2 35 (by decide))]; exact (by omega : (H169.1 1826 35) ≠ 0), BD_fr (BD_fr (GB_b hx169n (by omega)) (fr_o (fr_rf [44] [] H169) (by decide)) (by decide) (by decide)) hx233f (by decide) (by decide)⟩
              refine h_run 0 (pc' := 113) (l' := [(0, .inr (.inr 1826)), (1, .inl (k162 : Int))]) (st' := []) rfl ?_
              refine h_run 2 (pc' := 117) (l' := [(0, .inr (.inr 1826)), (1, .inl (k162 : Int))]) (st' := [.inl (H233.1 1826 13)]) rfl ?_
              have g237 : -2147483648 ≤ (H233.1 1826 13) ∧ (H233.1 1826 13) ≤ 2147483647 := hrg234.1 1826 13 13 _ .int rfl rfl
              have e238 : (H233.1 1826 13) = (H169.1 1826 13) := hx233f.2.2 13 (by decide)
              have e239 : (H169.1 1826 13) = (H151.1 1826 13) := hx169f.2.2 13 (by decide)
              have e240 : (H151.1 1826 13) = (H.1 1826 13) := hx151f.2.2 13 (by decide)
              refine h_run 2 (pc' := 119) (l' := [(0, .inr (.inr 1826)), (1, .inl (k162 : Int)), (2, .inl (H233.1 1826 13))]) (st' := [.inr (.inr 1826)]) rfl ?_
              have g241 : -2147483648 ≤ (H233.1 1826 35) ∧ (H233.1 1826 35) ≤ 2147483647 := hrg234.1 1826 13 35 _ .int rfl rfl
              have e242 : (H233.1 1826 35) = (H169.1 1826 35) := hx233f.2.2 35 (by decide)
              refine h_cv (i := 293) (j := 158) (b := 1826) (M' := mt_158) (xs := []) (rest := []) rfl rfl rfl rfl rfl rfl (Nat.le_of_ble_eq_true rfl) (Nat.le_of_ble_eq_true rfl) (by omega) (m_good0 (by omega) (by omega : (H233.1 1826 35) ≠ 0)) ?_
              rintro _ _ ⟨rfl, rfl⟩
              refine h_run 0 (pc' := 122) (l' := [(0, .inr (.inr 1826)), (1, .inl (k162 : Int)), (2, .inl (H233.1 1826 13))]) (st' := [.inl 0]) rfl ?_
              refine h_zeq (off := 53) (t := 175) rfl rfl (by decide) (fun _ => ?_) (fun c => absurd c (by decide))
              skip
              skip
              refine h_run 2 (pc' := 178) (l' := [(0, .inr (.inr 1826)), (1, .inl (k162 : Int)), (2, .inl (H233.1 1826 13))]) (st' := [.inl 61, .inr (.inr 1826)]) rfl ?_
              refine h_cv (i := 313) (j := 166) (b := 1826) (M' := mt_166) (xs := [.inl 61]) (rest := []) rfl rfl rfl rfl rfl rfl (Nat.le_of_ble_eq_true rfl) (Nat.le_of_ble_eq_true rfl) (by omega) (n_want0 (by omega) (by omega : (H233.1 1826 35) ≠ 0)) ?_
              rintro _ _ ⟨rfl, rfl⟩
              refine h_run 0 (pc' := 181) (l' := [(0, .inr (.inr 1826)), (1, .inl (k162 : Int)), (2, .inl (H233.1 1826 13))]) (st' := []) rfl ?_
              refine h_run 2 (pc' := 183) (l' := [(0, .inr (.inr 1826)), (1, .inl (k162 : Int)), (2, .inl (H233.1 1826 13))]) (st' := [.inl 0, .inr (.inr 1826)]) rfl ?_
              refine h_puti (i := 300) (ci := 13) (k := 40) (a := 1826) (x := 0) rfl rfl rfl rfl rfl rfl (by decide) (by decide) ?_
              refine h_run 2 (pc' := 188) (l' := [(0, .inr (.inr 1826)), (1, .inl (k162 : Int)), (2, .inl (H233.1 1826 13))]) (st' := [.inl 0, .inr (.inr 1826)]) rfl ?_
              refine h_puti (i := 335) (ci := 13) (k := 41) (a := 1826) (x := 0) rfl rfl rfl rfl rfl rfl (by decide) (by decide) ?_
              refine h_run 2 (pc' := 193) (l' := [(0, .inr (.inr 1826)), (1, .inl (k162 : Int)), (2, .inl (H233.1 1826 13))]) (st' := [.inl 0, .inr (.inr 1826)]) rfl ?_
              refine h_puti (i := 303) (ci := 13) (k := 43) (a := 1826) (x := 0) rfl rfl rfl rfl rfl rfl (by decide) (by decide) ?_
              refine h_run 2 (pc' := 198) (l' := [(0, .inr (.inr 1826)), (1, .inl (k162 : Int)), (2, .inl (H233.1 1826 13))]) (st' := [.inl 1, .inr (.inr 1826)]) rfl ?_
              refine h_puti (i := 367) (ci := 13) (k := 44) (a := 1826) (x := 1) rfl rfl rfl rfl rfl rfl (by decide) (by decide) ?_
              refine h_run 1 (pc' := 202) (l' := [(0, .inr (.inr 1826)), (1, .inl (k162 : Int)), (2, .inl (H233.1 1826 13))]) (st' := [.inr (.inr 1826)]) rfl ?_
              refine h_cv (i := 293) (j := 158) (b := 1826) (M' := mt_158) (xs := []) (rest := []) rfl rfl rfl rfl rfl rfl (Nat.le_of_ble_eq_true rfl) (Nat.le_of_ble_eq_true rfl) (by omega) (m_good0 (by omega) (by omega : (H233.1 1826 35) ≠ 0)) ?_
              rintro _ _ ⟨rfl, rfl⟩
              refine h_run 0 (pc' := 205) (l' := [(0, .inr (.inr 1826)), (1, .inl (k162 : Int)), (2, .inl (H233.1 1826 13))]) (st' := [.inl 0]) rfl ?_
              refine h_zeq (off := 14) (t := 219) rfl rfl (by decide) (fun _ => ?_) (fun c => absurd c (by decide))
              refine h_run 1 (pc' := 220) (l' := [(0, .inr (.inr 1826)), (1, .inl (k162 : Int)), (2, .inl (H233.1 1826 13))]) (st' := [.inr (.inr 1826)]) rfl ?_
              refine h_cv (i := 293) (j := 158) (b := 1826) (M' := mt_158) (xs := []) (rest := []) rfl rfl rfl rfl rfl rfl (Nat.le_of_ble_eq_true rfl) (Nat.le_of_ble_eq_true rfl) (by omega) (m_good0 (by omega) (by omega : (H233.1 1826 35) ≠ 0)) ?_
              rintro _ _ ⟨rfl, rfl⟩
              refine h_run 0 (pc' := 223) (l' := [(0, .inr (.inr 1826)), (1, .inl (k162 : Int)), (2, .inl (H233.1 1826 13))]) (st' := [.inl 0]) rfl ?_
              refine h_zeq (off := 56) (t := 279) rfl rfl (by decide) (fun _ => ?_) (fun c => absurd c (by decide))
              refine h_ret rfl rfl ?_
              have g243 : -2147483648 ≤ (H233.1 1826 30) ∧ (H233.1 1826 30) ≤ 2147483647 := hrg234.1 1826 13 30 _ .int rfl rfl
              have e244 : (H233.1 1826 30) = (H169.1 1826 30) := hx233f.2.2 30 (by decide)
              have g245 : -2147483648 ≤ (H233.1 1826 32) ∧ (H233.1 1826 32) ≤ 2147483647 := hrg234.1 1826 13 32 _ .int rfl rfl
              have e246 : (H233.1 1826 32) = (H169.1 1826 32) := hx233f.2.2 32 (by decide)
              have g247 : -2147483648 ≤ (H233.1 1826 29) ∧ (H233.1 1826 29) ≤ 2147483647 := hrg234.1 1826 13 29 _ .int rfl rfl
              have e248 : (H233.1 1826 29) = (H169.1 1826 29) := hx233f.2.2 29 (by decide)
              have g249 : -2147483648 ≤ (H233.1 1826 1) ∧ (H233.1 1826 1) ≤ 2147483647 := hrg234.1 1826 13 1 _ .int rfl rfl
              have e250 : (H233.1 1826 1) = (H169.1 1826 1) := hx233f.2.2 1 (by decide)
              have e251 : (H169.1 1826 1) = (H151.1 1826 1) := hx169f.2.2 1 (by decide)
              have e252 : (H151.1 1826 1) = (H.1 1826 1) := hx151f.2.2 1 (by decide)
              have g253 : -2147483648 ≤ (H233.1 1826 3) ∧ (H233.1 1826 3) ≤ 2147483647 := hrg234.1 1826 13 3 _ .int rfl rfl
              have e254 : (H233.1 1826 3) = (H169.1 1826 3) := hx233f.2.2 3 (by decide)
              have e255 : (H169.1 1826 3) = (H151.1 1826 3) := hx169f.2.2 3 (by decide)
              have e256 : (H151.1 1826 3) = (H.1 1826 3) := hx151f.2.2 3 (by decide)
              have g257 : -2147483648 ≤ (H233.1 1826 8) ∧ (H233.1 1826 8) ≤ 2147483647 := hrg234.1 1826 13 8 _ .int rfl rfl
              have e258 : (H233.1 1826 8) = (H169.1 1826 8) := hx233f.2.2 8 (by decide)
              have g259 : -2147483648 ≤ (H233.1 1826 19) ∧ (H233.1 1826 19) ≤ 2147483647 := hrg234.1 1826 13 19 _ .int rfl rfl
              have e260 : (H233.1 1826 19) = (H169.1 1826 19) := hx233f.2.2 19 (by decide)
              have e261 : (H169.1 1826 19) = (H151.1 1826 19) := hx169f.2.2 19 (by decide)
              have e262 : (H151.1 1826 19) = (H.1 1826 19) := hx151f.2.2 19 (by decide)
              exact ⟨rfl, (Or.inr ⟨(by omega : (H233.1 1826 35) ≠ 0), BD_fr (GB_b hx233n (by omega)) (fr_o (fr_o (fr_o (fr_o (fr_rf [40, 41, 43, 44] [] H233) (by decide)) (by decide)) (by decide)) (by decide)) (by decide) (by decide)⟩), (fr_o (fr_o (fr_o (fr_o hf235 (by decide)) (by decide)) (by decide)) (by decide)), (by omega : (H.1 1826 30) ≤ (H233.1 1826 30) ∧ (H233.1 1826 30) ≤ (H.1 1826 29)), (by omega : 0 ≤ (H233.1 1826 35) ∧ (H233.1 1826 35) ≤ 5), (by omega : (H.1 1826 35) ≠ 0 → (H233.1 1826 35) ≠ 0), (by omega : 0 ≤ (H233.1 1826 32) ∧ (H233.1 1826 32) ≤ 1000), (agp_o (agp_o (agp_o (agp_o ha236 (by decide)) (by decide)) (by decide)) (by decide)), (fun (q : (H233.1 1826 35) = 0) => absurd q (by omega))⟩
          · exfalso
            omega
        · refine h_run 0 (pc' := 61) (l' := [(0, .inr (.inr 1826))]) (st' := [.inl (-1)]) rfl ?_
          refine h_run 3 (pc' := 67) (l' := [(0, .inr (.inr 1826)), (1, .inl (-1))]) (st' := [.inr (.inr 1826)]) rfl ?_
          refine h_cv (i := 293) (j := 158) (b := 1826) (M' := mt_158) (xs := []) (rest := []) rfl rfl rfl rfl rfl rfl (Nat.le_of_ble_eq_true rfl) (Nat.le_of_ble_eq_true rfl) (by omega) (m_good1 (by omega) (by omega : (H151.1 1826 35) = 0)) ?_
          rintro _ _ ⟨rfl, rfl⟩
          refine h_run 0 (pc' := 70) (l' := [(0, .inr (.inr 1826)), (1, .inl (-1))]) (st' := [.inl 1]) rfl ?_
          refine h_zeq (off := 13) (t := 83) rfl rfl (by decide) (fun c => absurd c (by decide)) (fun _ => ?_)
          refine h_run 2 (pc' := 75) (l' := [(0, .inr (.inr 1826)), (1, .inl (-1))]) (st' := [.inl (-1), .inl (-1)]) rfl ?_
          refine h_ine (off := 8) (t := 83) rfl rfl (by decide) (by decide) (fun c => absurd c (by decide)) (fun _ => ?_)
          refine h_run 2 (pc' := 80) (l' := [(0, .inr (.inr 1826)), (1, .inl (-1))]) (st' := [.inl 3, .inr (.inr 1826)]) rfl ?_
          refine h_cv (i := 278) (j := 159) (b := 1826) (M' := mt_159) (xs := [.inl 3]) (rest := []) rfl rfl rfl rfl rfl rfl (Nat.le_of_ble_eq_true rfl) (Nat.le_of_ble_eq_true rfl) (by omega) (m_bad0 (by omega) (by omega) (by omega : (H151.1 1826 35) = 0)) ?_
          rintro _ _ ⟨rfl, rfl⟩
          refine h_run 0 (pc' := 83) (l' := [(0, .inr (.inr 1826)), (1, .inl (-1))]) (st' := []) rfl ?_
          refine h_run 1 (pc' := 84) (l' := [(0, .inr (.inr 1826)), (1, .inl (-1))]) (st' := [.inr (.inr 1826)]) rfl ?_
          refine h_cv (i := 293) (j := 158) (b := 1826) (M' := mt_158) (xs := []) (rest := []) rfl rfl rfl rfl rfl rfl (Nat.le_of_ble_eq_true rfl) (Nat.le_of_ble_eq_true rfl) (by omega) (m_good0 (by omega) (by omega : (3 : Int) ≠ 0)) ?_
          rintro _ _ ⟨rfl, rfl⟩
          refine h_run 0 (pc' := 87) (l' := [(0, .inr (.inr 1826)), (1, .inl (-1))]) (st' := [.inl 0]) rfl ?_
          refine h_zne (off := 4) (t := 91) rfl rfl (by decide) (fun c => absurd c (by decide)) (fun _ => ?_)
          refine h_ret rfl rfl ?_
          have g263 : -2147483648 ≤ (H151.1 1826 30) ∧ (H151.1 1826 30) ≤ 2147483647 := hrg152.1 1826 13 30 _ .int rfl rfl
          have g264 : -2147483648 ≤ (H151.1 1826 32) ∧ (H151.1 1826 32) ≤ 2147483647 := hrg152.1 1826 13 32 _ .int rfl rfl
          have g265 : -2147483648 ≤ (H151.1 1826 29) ∧ (H151.1 1826 29) ≤ 2147483647 := hrg152.1 1826 13 29 _ .int rfl rfl
          have e266 : (H151.1 1826 29) = (H.1 1826 29) := hx151f.2.2 29 (by decide)
          have g267 : -2147483648 ≤ (H151.1 1826 1) ∧ (H151.1 1826 1) ≤ 2147483647 := hrg152.1 1826 13 1 _ .int rfl rfl
          have e268 : (H151.1 1826 1) = (H.1 1826 1) := hx151f.2.2 1 (by decide)
          have g269 : -2147483648 ≤ (H151.1 1826 3) ∧ (H151.1 1826 3) ≤ 2147483647 := hrg152.1 1826 13 3 _ .int rfl rfl
          have e270 : (H151.1 1826 3) = (H.1 1826 3) := hx151f.2.2 3 (by decide)
          have g271 : -2147483648 ≤ (H151.1 1826 13) ∧ (H151.1 1826 13) ≤ 2147483647 := hrg152.1 1826 13 13 _ .int rfl rfl
          have e272 : (H151.1 1826 13) = (H.1 1826 13) := hx151f.2.2 13 (by decide)
          have g273 : -2147483648 ≤ (H151.1 1826 19) ∧ (H151.1 1826 19) ≤ 2147483647 := hrg152.1 1826 13 19 _ .int rfl rfl
          have e274 : (H151.1 1826 19) = (H.1 1826 19) := hx151f.2.2 19 (by decide)
          exact ⟨rfl, (Or.inr ⟨(by omega : (3 : Int) ≠ 0), (BD_mk hR1 (fr_o (fr_o (fr_rf [35, 36] [] H151) (by decide)) (by decide)) (by decide) (by decide) (by decide : (3 : Int) ≠ 0) rfl rfl (rch_st hq (by show stDec Y nn K X = _; unfold stDec miss; (repeat (first | rw [if_pos (by omega)] | rw [if_neg (by omega)])); try (first | rfl | (exfalso; omega)))))⟩), (fr_o (fr_o hf153 (by decide)) (by decide)), (by omega : (H.1 1826 30) ≤ (H151.1 1826 30) ∧ (H151.1 1826 30) ≤ (H.1 1826 29)), (by omega : 0 ≤ (3 : Int) ∧ (3 : Int) ≤ 5), (by omega : (H.1 1826 35) ≠ 0 → (3 : Int) ≠ 0), (by omega : 0 ≤ (H151.1 1826 32) ∧ (H151.1 1826 32) ≤ 1000), (agp_o (agp_o ha154 (by decide)) (by decide)), (fun (q : (3 : Int) = 0) => absurd q (by omega))⟩
      · refine h_run 2 (pc' := 36) (l' := [(0, .inr (.inr 1826))]) (st' := [.inl 2, .inr (.inr 1826)]) rfl ?_
        refine h_cv (i := 278) (j := 159) (b := 1826) (M' := mt_159) (xs := [.inl 2]) (rest := []) rfl rfl rfl rfl rfl rfl (Nat.le_of_ble_eq_true rfl) (Nat.le_of_ble_eq_true rfl) (by omega) (m_bad0 (by omega) (by omega) (by omega : (H151.1 1826 35) = 0)) ?_
        rintro _ _ ⟨rfl, rfl⟩
        refine h_run 0 (pc' := 39) (l' := [(0, .inr (.inr 1826))]) (st' := []) rfl ?_
        refine h_run 1 (pc' := 40) (l' := [(0, .inr (.inr 1826))]) (st' := [.inr (.inr 1826)]) rfl ?_
        refine h_cv (i := 293) (j := 158) (b := 1826) (M' := mt_158) (xs := []) (rest := []) rfl rfl rfl rfl rfl rfl (Nat.le_of_ble_eq_true rfl) (Nat.le_of_ble_eq_true rfl) (by omega) (m_good0 (by omega) (by omega : (2 : Int) ≠ 0)) ?_
        rintro _ _ ⟨rfl, rfl⟩
        refine h_run 0 (pc' := 43) (l' := [(0, .inr (.inr 1826))]) (st' := [.inl 0]) rfl ?_
        refine h_zeq (off := 21) (t := 64) rfl rfl (by decide) (fun _ => ?_) (fun c => absurd c (by decide))
        refine h_run 3 (pc' := 67) (l' := [(0, .inr (.inr 1826)), (1, .inl (-1))]) (st' := [.inr (.inr 1826)]) rfl ?_
        refine h_cv (i := 293) (j := 158) (b := 1826) (M' := mt_158) (xs := []) (rest := []) rfl rfl rfl rfl rfl rfl (Nat.le_of_ble_eq_true rfl) (Nat.le_of_ble_eq_true rfl) (by omega) (m_good0 (by omega) (by omega : (2 : Int) ≠ 0)) ?_
        rintro _ _ ⟨rfl, rfl⟩
        refine h_run 0 (pc' := 70) (l' := [(0, .inr (.inr 1826)), (1, .inl (-1))]) (st' := [.inl 0]) rfl ?_
        refine h_zeq (off := 13) (t := 83) rfl rfl (by decide) (fun _ => ?_) (fun c => absurd c (by decide))
        refine h_run 1 (pc' := 84) (l' := [(0, .inr (.inr 1826)), (1, .inl (-1))]) (st' := [.inr (.inr 1826)]) rfl ?_
        refine h_cv (i := 293) (j := 158) (b := 1826) (M' := mt_158) (xs := []) (rest := []) rfl rfl rfl rfl rfl rfl (Nat.le_of_ble_eq_true rfl) (Nat.le_of_ble_eq_true rfl) (by omega) (m_good0 (by omega) (by omega : (2 : Int) ≠ 0)) ?_
        rintro _ _ ⟨rfl, rfl⟩
        refine h_run 0 (pc' := 87) (l' := [(0, .inr (.inr 1826)), (1, .inl (-1))]) (st' := [.inl 0]) rfl ?_
        refine h_zne (off := 4) (t := 91) rfl rfl (by decide) (fun c => absurd c (by decide)) (fun _ => ?_)
        refine h_ret rfl rfl ?_
        have g275 : -2147483648 ≤ (H151.1 1826 30) ∧ (H151.1 1826 30) ≤ 2147483647 := hrg152.1 1826 13 30 _ .int rfl rfl
        have g276 : -2147483648 ≤ (H151.1 1826 32) ∧ (H151.1 1826 32) ≤ 2147483647 := hrg152.1 1826 13 32 _ .int rfl rfl
        have g277 : -2147483648 ≤ (H151.1 1826 29) ∧ (H151.1 1826 29) ≤ 2147483647 := hrg152.1 1826 13 29 _ .int rfl rfl
        have e278 : (H151.1 1826 29) = (H.1 1826 29) := hx151f.2.2 29 (by decide)
        have g279 : -2147483648 ≤ (H151.1 1826 1) ∧ (H151.1 1826 1) ≤ 2147483647 := hrg152.1 1826 13 1 _ .int rfl rfl
        have e280 : (H151.1 1826 1) = (H.1 1826 1) := hx151f.2.2 1 (by decide)
        have g281 : -2147483648 ≤ (H151.1 1826 3) ∧ (H151.1 1826 3) ≤ 2147483647 := hrg152.1 1826 13 3 _ .int rfl rfl
        have e282 : (H151.1 1826 3) = (H.1 1826 3) := hx151f.2.2 3 (by decide)
        have g283 : -2147483648 ≤ (H151.1 1826 8) ∧ (H151.1 1826 8) ≤ 2147483647 := hrg152.1 1826 13 8 _ .int rfl rfl
        have e284 : (H151.1 1826 8) = (H.1 1826 8) := hx151f.2.2 8 (by decide)
        have g285 : -2147483648 ≤ (H151.1 1826 13) ∧ (H151.1 1826 13) ≤ 2147483647 := hrg152.1 1826 13 13 _ .int rfl rfl
        have e286 : (H151.1 1826 13) = (H.1 1826 13) := hx151f.2.2 13 (by decide)
        have g287 : -2147483648 ≤ (H151.1 1826 19) ∧ (H151.1 1826 19) ≤ 2147483647 := hrg152.1 1826 13 19 _ .int rfl rfl
        have e288 : (H151.1 1826 19) = (H.1 1826 19) := hx151f.2.2 19 (by decide)
        exact ⟨rfl, (Or.inr ⟨(by omega : (2 : Int) ≠ 0), (BD_mk hR1 (fr_o (fr_o (fr_rf [35, 36] [] H151) (by decide)) (by decide)) (by decide) (by decide) (by decide : (2 : Int) ≠ 0) rfl rfl (rch_st hq (by show stDec Y nn K X = _; unfold stDec miss; (repeat (first | rw [if_pos (by omega)] | rw [if_neg (by omega)])); try (first | rfl | (exfalso; omega)))))⟩), (fr_o (fr_o hf153 (by decide)) (by decide)), (by omega : (H.1 1826 30) ≤ (H151.1 1826 30) ∧ (H151.1 1826 30) ≤ (H.1 1826 29)), (by omega : 0 ≤ (2 : Int) ∧ (2 : Int) ≤ 5), (by omega : (H.1 1826 35) ≠ 0 → (2 : Int) ≠ 0), (by omega : 0 ≤ (H151.1 1826 32) ∧ (H151.1 1826 32) ≤ 1000), (agp_o (agp_o ha154 (by decide)) (by decide)), (fun (q : (2 : Int) = 0) => absurd q (by omega))⟩
    · have b156x : (H151.1 1826 35) ≠ 0 := b156
      clear hx151g
      refine h_run 0 (pc' := 23) (l' := [(0, .inr (.inr 1826))]) (st' := [.inl 0]) rfl ?_
      refine h_zeq (off := 16) (t := 39) rfl rfl (by decide) (fun _ => ?_) (fun c => absurd c (by decide))
      refine h_run 1 (pc' := 40) (l' := [(0, .inr (.inr 1826))]) (st' := [.inr (.inr 1826)]) rfl ?_
      refine h_cv (i := 293) (j := 158) (b := 1826) (M' := mt_158) (xs := []) (rest := []) rfl rfl rfl rfl rfl rfl (Nat.le_of_ble_eq_true rfl) (Nat.le_of_ble_eq_true rfl) (by omega) (m_good0 (by omega) (by omega : (H151.1 1826 35) ≠ 0)) ?_
      rintro _ _ ⟨rfl, rfl⟩
      refine h_run 0 (pc' := 43) (l' := [(0, .inr (.inr 1826))]) (st' := [.inl 0]) rfl ?_
      refine h_zeq (off := 21) (t := 64) rfl rfl (by decide) (fun _ => ?_) (fun c => absurd c (by decide))
      refine h_run 3 (pc' := 67) (l' := [(0, .inr (.inr 1826)), (1, .inl (-1))]) (st' := [.inr (.inr 1826)]) rfl ?_
      refine h_cv (i := 293) (j := 158) (b := 1826) (M' := mt_158) (xs := []) (rest := []) rfl rfl rfl rfl rfl rfl (Nat.le_of_ble_eq_true rfl) (Nat.le_of_ble_eq_true rfl) (by omega) (m_good0 (by omega) (by omega : (H151.1 1826 35) ≠ 0)) ?_
      rintro _ _ ⟨rfl, rfl⟩
      refine h_run 0 (pc' := 70) (l' := [(0, .inr (.inr 1826)), (1, .inl (-1))]) (st' := [.inl 0]) rfl ?_
      refine h_zeq (off := 13) (t := 83) rfl rfl (by decide) (fun _ => ?_) (fun c => absurd c (by decide))
      refine h_run 1 (pc' := 84) (l' := [(0, .inr (.inr 1826)), (1, .inl (-1))]) (st' := [.inr (.inr 1826)]) rfl ?_
      refine h_cv (i := 293) (j := 158) (b := 1826) (M' := mt_158) (xs := []) (rest := []) rfl rfl rfl rfl rfl rfl (Nat.le_of_ble_eq_true rfl) (Nat.le_of_ble_eq_true rfl) (by omega) (m_good0 (by omega) (by omega : (H151.1 1826 35) ≠ 0)) ?_
      rintro _ _ ⟨rfl, rfl⟩
      refine h_run 0 (pc' := 87) (l' := [(0, .inr (.inr 1826)), (1, .inl (-1))]) (st' := [.inl 0]) rfl ?_
      refine h_zne (off := 4) (t := 91) rfl rfl (by decide) (fun c => absurd c (by decide)) (fun _ => ?_)
      refine h_ret rfl rfl ?_
      have g289 : -2147483648 ≤ (H151.1 1826 30) ∧ (H151.1 1826 30) ≤ 2147483647 := hrg152.1 1826 13 30 _ .int rfl rfl
      have g290 : -2147483648 ≤ (H151.1 1826 32) ∧ (H151.1 1826 32) ≤ 2147483647 := hrg152.1 1826 13 32 _ .int rfl rfl
      have g291 : -2147483648 ≤ (H151.1 1826 29) ∧ (H151.1 1826 29) ≤ 2147483647 := hrg152.1 1826 13 29 _ .int rfl rfl
      have e292 : (H151.1 1826 29) = (H.1 1826 29) := hx151f.2.2 29 (by decide)
      have g293 : -2147483648 ≤ (H151.1 1826 1) ∧ (H151.1 1826 1) ≤ 2147483647 := hrg152.1 1826 13 1 _ .int rfl rfl
      have e294 : (H151.1 1826 1) = (H.1 1826 1) := hx151f.2.2 1 (by decide)
      have g295 : -2147483648 ≤ (H151.1 1826 3) ∧ (H151.1 1826 3) ≤ 2147483647 := hrg152.1 1826 13 3 _ .int rfl rfl
      have e296 : (H151.1 1826 3) = (H.1 1826 3) := hx151f.2.2 3 (by decide)
      have g297 : -2147483648 ≤ (H151.1 1826 8) ∧ (H151.1 1826 8) ≤ 2147483647 := hrg152.1 1826 13 8 _ .int rfl rfl
      have e298 : (H151.1 1826 8) = (H.1 1826 8) := hx151f.2.2 8 (by decide)
      have g299 : -2147483648 ≤ (H151.1 1826 13) ∧ (H151.1 1826 13) ≤ 2147483647 := hrg152.1 1826 13 13 _ .int rfl rfl
      have e300 : (H151.1 1826 13) = (H.1 1826 13) := hx151f.2.2 13 (by decide)
      have g301 : -2147483648 ≤ (H151.1 1826 19) ∧ (H151.1 1826 19) ≤ 2147483647 := hrg152.1 1826 13 19 _ .int rfl rfl
      have e302 : (H151.1 1826 19) = (H.1 1826 19) := hx151f.2.2 19 (by decide)
      exact ⟨rfl, (Or.inr ⟨(by omega : (H151.1 1826 35) ≠ 0), GB_b hx151n (by omega)⟩), hf153, (by omega : (H.1 1826 30) ≤ (H151.1 1826 30) ∧ (H151.1 1826 30) ≤ (H.1 1826 29)), (by omega : 0 ≤ (H151.1 1826 35) ∧ (H151.1 1826 35) ≤ 5), (by omega : (H.1 1826 35) ≠ 0 → (H151.1 1826 35) ≠ 0), (by omega : 0 ≤ (H151.1 1826 32) ∧ (H151.1 1826 32) ≤ 1000), ha154, (fun (q : (H151.1 1826 35) = 0) => absurd q (by omega))⟩
  · refine h_run 2 (pc' := 11) (l' := [(0, .inr (.inr 1826))]) (st' := [.inl 5, .inr (.inr 1826)]) rfl ?_
    have g303 : -2147483648 ≤ (H.1 1826 35) ∧ (H.1 1826 35) ≤ 2147483647 := hrg0.1 1826 13 35 _ .int rfl rfl
    refine h_cv (i := 278) (j := 159) (b := 1826) (M' := mt_159) (xs := [.inl 5]) (rest := []) rfl rfl rfl rfl rfl rfl (Nat.le_of_ble_eq_true rfl) (Nat.le_of_ble_eq_true rfl) (by omega) (m_bad0 (by omega) (by omega) (by omega : (H.1 1826 35) = 0)) ?_
    rintro _ _ ⟨rfl, rfl⟩
    refine h_run 0 (pc' := 14) (l' := [(0, .inr (.inr 1826))]) (st' := []) rfl ?_
    refine h_ret rfl rfl ?_
    have g304 : -2147483648 ≤ (H.1 1826 30) ∧ (H.1 1826 30) ≤ 2147483647 := hrg0.1 1826 13 30 _ .int rfl rfl
    have g305 : -2147483648 ≤ (H.1 1826 32) ∧ (H.1 1826 32) ≤ 2147483647 := hrg0.1 1826 13 32 _ .int rfl rfl
    have g306 : -2147483648 ≤ (H.1 1826 29) ∧ (H.1 1826 29) ≤ 2147483647 := hrg0.1 1826 13 29 _ .int rfl rfl
    have g307 : -2147483648 ≤ (H.1 1826 1) ∧ (H.1 1826 1) ≤ 2147483647 := hrg0.1 1826 13 1 _ .int rfl rfl
    have g308 : -2147483648 ≤ (H.1 1826 3) ∧ (H.1 1826 3) ≤ 2147483647 := hrg0.1 1826 13 3 _ .int rfl rfl
    have g309 : -2147483648 ≤ (H.1 1826 8) ∧ (H.1 1826 8) ≤ 2147483647 := hrg0.1 1826 13 8 _ .int rfl rfl
    have g310 : -2147483648 ≤ (H.1 1826 19) ∧ (H.1 1826 19) ≤ 2147483647 := hrg0.1 1826 13 19 _ .int rfl rfl
    exact ⟨rfl, (Or.inr ⟨(by omega : (5 : Int) ≠ 0), (BD_mk hR (fr_o (fr_o (fr_rf [35, 36] [] H) (by decide)) (by decide)) (by decide) (by decide) (by decide : (5 : Int) ≠ 0) rfl rfl (rch_st hq (by show stDec Y nn K X = _; unfold stDec miss; (repeat (first | rw [if_pos (by omega)] | rw [if_neg (by omega)])); try (first | rfl | (exfalso; omega)))))⟩), (fr_o (fr_o (fr_rf _ _ _) (by decide)) (by decide)), (by omega : (H.1 1826 30) ≤ (H.1 1826 30) ∧ (H.1 1826 30) ≤ (H.1 1826 29)), (by omega : 0 ≤ (5 : Int) ∧ (5 : Int) ≤ 5), (by omega : (H.1 1826 35) ≠ 0 → (5 : Int) ≠ 0), (by omega : 0 ≤ (H.1 1826 32) ∧ (H.1 1826 32) ≤ 1000), (agp_o (agp_o (agp_rf _) (by decide)) (by decide)), (fun (q : (5 : Int) = 0) => absurd q (by omega))⟩
