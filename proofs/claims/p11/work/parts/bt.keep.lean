/-! the reference: what holds between calls -/
theorem tm_agp {P K : hp} {vn : Int} {a : Nat → Int} {k i n : Nat} (hP : PWc P) (g : agp P K) (h : tm (ma (P.1 1833) (P.1 1830)) (m_sg (P.1 1826 3) (P.1 1826 8) vn) a k i n) : tm (ma (K.1 1833) (K.1 1830)) (m_sg (K.1 1826 3) (K.1 1826 8) vn) a k i n := by
  obtain ⟨⟨b1, b2, b3, b4, b5⟩, -⟩ := (id hP : PW P (P.1 1826 1) (P.1 1826 3) (P.1 1826 8) (P.1 1826 13) (P.1 1826 19))
  obtain ⟨⟨-, g2, g3, -, -⟩, g6, g7, -⟩ := g
  refine tm_mono h (fun j _ _ ho => ⟨rfl, m_sg_mono g2 g3 (Int.le_refl _) ho, ma_eq (fun c hc => (g6 c hc).2.1) (fun f hf => (g7 f hf).1) ?_⟩)
  unfold m_sg at ho
  omega
theorem tmf_agp {P K : hp} {a : Nat → Int} {k i n : Nat} (hP : PWc P) (g : agp P K) (h : tm (ma (P.1 1833) (P.1 1830)) (okf P) a k i n) : tm (ma (K.1 1833) (K.1 1830)) (okf K) a k i n := by
  obtain ⟨⟨b1, b2, b3, b4, b5⟩, -⟩ := (id hP : PW P (P.1 1826 1) (P.1 1826 3) (P.1 1826 8) (P.1 1826 13) (P.1 1826 19))
  obtain ⟨⟨-, g2, g3, -, -⟩, g6, g7, -⟩ := g
  refine tm_mono h (fun j _ _ ho => ⟨rfl, ?_, ma_eq (fun c hc => (g6 c hc).2.1) (fun f hf => (g7 f hf).1) ?_⟩)
  · rcases ho with ho | ho
    · exact Or.inl (m_sg_mono g2 g3 (Int.le_refl _) ho)
    · exact Or.inr ho
  · unfold okf m_sg at ho
    omega
theorem gok_agp {P K H : hp} {x : Nat} (hP : PWc P) (g : agp P K) (h : gok P H x) : gok K H x := by
  refine ⟨fun s hs => ?_, ?_⟩
  · obtain ⟨k, k1, k2, k3⟩ := h.1 s hs
    exact ⟨k, k1, k2, tm_agp hP g k3⟩
  · obtain ⟨n, n1, n2, n3⟩ := h.2
    refine ⟨n, n1, n2, fun y hy => ?_⟩
    obtain ⟨k, k1, k2, k3⟩ := n3 y hy
    exact ⟨k, k1, k2, tmf_agp hP g k3⟩
theorem OS_agp {P K H : hp} {n : Nat} (hP : PWc P) (g : agp P K) (h : OS P H n) : OS K H n := by
  obtain ⟨h1, h2, h3⟩ := h
  refine ⟨h1, fun k hk => ?_, h3⟩
  obtain ⟨x, a1, a2, a3, a4⟩ := h2 k hk
  exact ⟨x, a1, a2, a3, gok_agp hP g a4⟩
def cl (H K : hp) : Prop := K.2 = H.2 ∧ ∀ c, c < 1826 → K.1 c = H.1 c
theorem cl_rf (H : hp) : cl H H := ⟨rfl, fun _ _ => rfl⟩
theorem cl_fr {ob ar : List Nat} {H K : hp} (f : fr ob ar H K) (h : ar.all (fun c => Nat.ble 1826 c) = true) : cl H K := ⟨f.1, fun c hc => f.2.1 c (by omega) (fun hm => by have h1 := List.all_eq_true.mp h c hm; have h2 := Nat.le_of_ble_eq_true h1; omega)⟩
def GI (H : hp) : Prop := PWc H ∧ (0 ≤ (H.1 1826 28) ∧ (H.1 1826 28) ≤ 1000) ∧ (0 ≤ (H.1 1826 32) ∧ (H.1 1826 32) ≤ 1000) ∧ (0 ≤ (H.1 1826 59) ∧ (H.1 1826 59) ≤ 8000) ∧ GP H ∧ TVa (H.1 1826 67) (H.1 1826 19) (H.1 1826 3) (H.1 1826 8) (H.1 1845) (H.1 1833) (H.1 1830) (H.1 1867)
theorem TV_agp {H K : hp} {ob ar : List Nat} (hP : PWc H) (h : TVa (H.1 1826 67) (H.1 1826 19) (H.1 1826 3) (H.1 1826 8) (H.1 1845) (H.1 1833) (H.1 1830) (H.1 1867)) (f : fr ob ar H K) (g : agp H K) (h3 : 67 ∉ ob ∧ 1867 ∉ ar) : TVa (K.1 1826 67) (K.1 1826 19) (K.1 1826 3) (K.1 1826 8) (K.1 1845) (K.1 1833) (K.1 1830) (K.1 1867) := by
  rcases h with h | ⟨l, l1, l2, l3⟩
  · exact Or.inl ((f.2.2 67 h3.1).trans h)
  · refine Or.inr ⟨l, (f.2.2 67 h3.1).trans l1, Int.lt_of_lt_of_le l2 g.1.2.2.2.2, fun v hv => ?_⟩
    rw [(g.2.2.2.2 l l2).1] at hv
    obtain ⟨k, k1, k2⟩ := l3 v hv
    refine ⟨k, k1, ?_⟩
    rw [f.2.1 1867 (by decide) h3.2]
    exact tm_agp hP g k2
theorem TV_fr {H K : hp} {ob ar : List Nat} (h : TVa (H.1 1826 67) (H.1 1826 19) (H.1 1826 3) (H.1 1826 8) (H.1 1845) (H.1 1833) (H.1 1830) (H.1 1867)) (f : fr ob ar H K) (h1 : ∀ c ∈ [1829, 1830, 1831, 1833, 1834, 1835, 1836, 1837, 1838, 1839, 1840, 1842, 1843, 1845, 1846], c ∉ ar) (h2 : ∀ j ∈ [1, 3, 8, 13, 19], j ∉ ob) (h3 : 67 ∉ ob ∧ 1867 ∉ ar) : TVa (K.1 1826 67) (K.1 1826 19) (K.1 1826 3) (K.1 1826 8) (K.1 1845) (K.1 1833) (K.1 1830) (K.1 1867) := by
  rw [f.2.2 67 h3.1, f.2.2 19 (h2 _ (by decide)), f.2.2 3 (h2 _ (by decide)), f.2.2 8 (h2 _ (by decide)), f.2.1 1845 (by decide) (h1 _ (by decide)), f.2.1 1833 (by decide) (h1 _ (by decide)), f.2.1 1830 (by decide) (h1 _ (by decide)), f.2.1 1867 (by decide) h3.2]
  exact h
/-- a call that leaves the tape and what was told -/
theorem GI_k {H K : hp} {ob ar : List Nat} (h : GI H) (f : fr ob ar H K) (h1 : ∀ c ∈ [1829, 1830, 1831, 1833, 1834, 1835, 1836, 1837, 1838, 1839, 1840, 1842, 1843, 1845, 1846], c ∉ ar) (h2 : ∀ j ∈ [1, 3, 8, 13, 19], j ∉ ob) (h3 : 28 ∉ ob ∧ 32 ∉ ob) (ho : 0 ≤ (K.1 1826 59) ∧ (K.1 1826 59) ≤ 8000) (hg : GP K) (ht : TVa (K.1 1826 67) (K.1 1826 19) (K.1 1826 3) (K.1 1826 8) (K.1 1845) (K.1 1833) (K.1 1830) (K.1 1867)) : GI K := ⟨PWc_fr h.1 f h1 h2, by rw [f.2.2 28 h3.1]; exact h.2.1, by rw [f.2.2 32 h3.2]; exact h.2.2.1, ho, hg, ht⟩
def GQ (H : hp) (t : Int) (r9 : Option zv) (K : hp) : Prop := (∃ r0 : Int, r9 = some (.inl r0)) ∧ GI K ∧ cl H K ∧ (K.1 1826 28) = t
theorem GQ_rf {H : hp} {r9 : Option zv} (h : GI H) (hr : ∃ r0 : Int, r9 = some (.inl r0)) : GQ H (H.1 1826 28) r9 H := ⟨hr, h, cl_rf H, rfl⟩

theorem g_fault {zC : Nat → Option zsh} {d : Nat} (hd : 12 ≤ d) {H : hp} (hI : GI H)  : hG (zs zC) d mt_193 0 (zargs 0 [.inr (.inr 1826)]) [] H (GQ H (H.1 1826 28)) := by
  obtain ⟨hP, ht, hst, hou, hG9, hT⟩ := id hI
  refine h_mono (m_fault (by omega)) (fun r K h => ?_)
  obtain ⟨h1, rfl⟩ := h
  exact GQ_rf hI h1
theorem g_count {zC : Nat → Option zsh} {d : Nat} (hd : 12 ≤ d) {H : hp} {x : Int} (hI : GI H) (hx : -2147483648 ≤ x ∧ x ≤ 2147483647) : hG (zs zC) d mt_194 0 (zargs 0 [.inr (.inr 1826), .inl x]) [] H (GQ H (H.1 1826 28)) := by
  obtain ⟨hP, ht, hst, hou, hG9, hT⟩ := id hI
  refine h_mono (m_count (by omega) hx) (fun r K h => ?_)
  obtain ⟨h1, rfl⟩ := h
  exact GQ_rf hI h1

theorem g_about {zC : Nat → Option zsh} {d : Nat} (hd : 12 ≤ d) {H : hp} {x y : Int} (hI : GI H) (hx : -2147483648 ≤ x ∧ x ≤ 2147483647) (hy : -2147483648 ≤ y ∧ y ≤ 2147483647) : hG (zs zC) d mt_195 0 (zargs 0 [.inr (.inr 1826), .inl x, .inl y]) [] H (GQ H (H.1 1826 28)) := by
  obtain ⟨hP, ht, hst, hou, hG9, hT⟩ := id hI
  obtain ⟨⟨b1, b2, b3, b4, b5⟩, -⟩ := (id hP : PW H (H.1 1826 1) (H.1 1826 3) (H.1 1826 8) (H.1 1826 13) (H.1 1826 19))
  refine h_mono (m_about (by omega) hx hy (by omega)) (fun r K h => ?_)
  obtain ⟨h1, rfl⟩ := h
  exact GQ_rf hI h1
theorem g_steps {zC : Nat → Option zsh} {d : Nat} (hd : 12 ≤ d) {H : hp} (hI : GI H)  : hG (zs zC) d mt_202 0 (zargs 0 [.inr (.inr 1826)]) [] H (GQ H (H.1 1826 28)) := by
  obtain ⟨hP, ht, hst, hou, hG9, hT⟩ := id hI
  refine h_mono (m_steps (by omega)) (fun r K h => ?_)
  obtain ⟨h1, rfl⟩ := h
  exact GQ_rf hI h1
theorem g_printed {zC : Nat → Option zsh} {d : Nat} (hd : 12 ≤ d) {H : hp} {x : Int} (hI : GI H) (hx : -2147483648 ≤ x ∧ x ≤ 2147483647) : hG (zs zC) d mt_207 0 (zargs 0 [.inr (.inr 1826), .inl x]) [] H (GQ H (H.1 1826 28)) := by
  obtain ⟨hP, ht, hst, hou, hG9, hT⟩ := id hI
  refine h_mono (m_printed (by omega) hx hou.2) (fun r K h => ?_)
  obtain ⟨h1, rfl⟩ := h
  exact GQ_rf hI h1
theorem g_unfold {zC : Nat → Option zsh} {d : Nat} (hd : 12 ≤ d) {H : hp} {s y : Int} (hI : GI H) (hs : -2147483648 ≤ s ∧ s ≤ 2147483647) (hy : -2147483648 ≤ y ∧ y ≤ 2147483647) : hG (zs zC) d mt_237 0 (zargs 0 [.inr (.inr 1826), .inl s, .inl y]) [] H (GQ H (H.1 1826 28)) := by
  obtain ⟨hP, ht, hst, hou, hG9, hT⟩ := id hI
  refine h_mono (m_unfold (by omega) hP hG9 hs hy) (fun r K h => ?_)
  obtain ⟨f, h1, h2⟩ := h
  exact ⟨h2, GI_k hI f (by decide) (by decide) (by decide) (by rw [f.2.2 59 (by decide)]; exact hou) h1 (TV_fr hT f (by decide) (by decide) (by decide)), cl_fr f rfl, f.2.2 28 (by decide)⟩
theorem g_law {zC : Nat → Option zsh} {d : Nat} (hd : 12 ≤ d) {H : hp} {x b s y : Int} (hI : GI H) (hx : -2147483648 ≤ x ∧ x ≤ 2147483647) (hb : 0 ≤ b ∧ b ≤ 1) (hs : -2147483648 ≤ s ∧ s ≤ 2147483647) (hy : -2147483648 ≤ y ∧ y ≤ 2147483647) : hG (zs zC) d mt_243 0 (zargs 0 [.inr (.inr 1826), .inl x, .inl b, .inl s, .inl y]) [] H (GQ H (H.1 1826 28)) := by
  obtain ⟨hP, ht, hst, hou, hG9, hT⟩ := id hI
  refine h_mono (m_lawC (by omega) hP hG9 hx hs hy hb) (fun r K h => ?_)
  obtain ⟨f, h1, h2⟩ := h
  exact ⟨h2, GI_k hI f (by decide) (by decide) (by decide) (by rw [f.2.2 59 (by decide)]; exact hou) h1 (TV_fr hT f (by decide) (by decide) (by decide)), cl_fr f rfl, f.2.2 28 (by decide)⟩
theorem g_hypothesis {zC : Nat → Option zsh} {d : Nat} (hd : 12 ≤ d) {H : hp} {x b s y : Int} (hI : GI H) (hx : -2147483648 ≤ x ∧ x ≤ 2147483647) (hb : 0 ≤ b ∧ b ≤ 1) (hs : -2147483648 ≤ s ∧ s ≤ 2147483647) (hy : -2147483648 ≤ y ∧ y ≤ 2147483647) : hG (zs zC) d mt_245 0 (zargs 0 [.inr (.inr 1826), .inl x, .inl b, .inl s, .inl y]) [] H (GQ H (H.1 1826 28)) := by
  obtain ⟨hP, ht, hst, hou, hG9, hT⟩ := id hI
  refine h_mono (m_hypothesis (by omega) hP hG9 hx hs hy hb) (fun r K h => ?_)
  obtain ⟨f, h1, h2⟩ := h
  exact ⟨h2, GI_k hI f (by decide) (by decide) (by decide) (by rw [f.2.2 59 (by decide)]; exact hou) h1 (TV_fr hT f (by decide) (by decide) (by decide)), cl_fr f rfl, f.2.2 28 (by decide)⟩
theorem g_induction {zC : Nat → Option zsh} {d : Nat} (hd : 12 ≤ d) {H : hp} {v : Int} (hI : GI H) (hv : -2147483648 ≤ v ∧ v ≤ 2147483647) : hG (zs zC) d mt_252 0 (zargs 0 [.inr (.inr 1826), .inl v]) [] H (GQ H (H.1 1826 28)) := by
  obtain ⟨hP, ht, hst, hou, hG9, hT⟩ := id hI
  refine h_mono (m_induction (by omega) hP hG9 hv) (fun r K h => ?_)
  obtain ⟨f, h1, h2⟩ := h
  exact ⟨h2, GI_k hI f (by decide) (by decide) (by decide) (by rw [f.2.2 59 (by decide)]; exact hou) h1 (TV_fr hT f (by decide) (by decide) (by decide)), cl_fr f rfl, f.2.2 28 (by decide)⟩
theorem g_cases {zC : Nat → Option zsh} {d : Nat} (hd : 12 ≤ d) {H : hp} {s y : Int} (hI : GI H) (hs : -2147483648 ≤ s ∧ s ≤ 2147483647) (hy : -2147483648 ≤ y ∧ y ≤ 2147483647) : hG (zs zC) d mt_255 0 (zargs 0 [.inr (.inr 1826), .inl s, .inl y]) [] H (GQ H (H.1 1826 28)) := by
  obtain ⟨hP, ht, hst, hou, hG9, hT⟩ := id hI
  refine h_mono (m_cases (by omega) hP hG9 hs hy) (fun r K h => ?_)
  obtain ⟨f, h1, h2⟩ := h
  exact ⟨h2, GI_k hI f (by decide) (by decide) (by decide) (by rw [f.2.2 59 (by decide)]; exact hou) h1 (TV_fr hT f (by decide) (by decide) (by decide)), cl_fr f rfl, f.2.2 28 (by decide)⟩
theorem g_same {zC : Nat → Option zsh} {d : Nat} (hd : 12 ≤ d) {H : hp} (hI : GI H)  : hG (zs zC) d mt_261 0 (zargs 0 [.inr (.inr 1826)]) [] H (GQ H (H.1 1826 28)) := by
  obtain ⟨hP, ht, hst, hou, hG9, hT⟩ := id hI
  by_cases hz : (H.1 1826 77) = 0
  · refine h_mono (m_same0 (by omega) hz) (fun r K h => ?_)
    obtain ⟨h1, rfl⟩ := h
    exact GQ_rf hI ⟨_, h1⟩
  · obtain ⟨n, o, hS, ho, ho2, -⟩ := GP_SI hP hG9 hz
    refine h_mono (m_same (by omega) hP hS.2.1 hS.2.2.1 hS.2.2.2.1 ho) (fun r K h => ?_)
    obtain ⟨f, hor, hvv, h3⟩ := h
    have hPF : PF2 K ∧ ∃ r0 : Int, r = some (.inl r0) := by
      rcases h3 with (⟨h4, hO⟩ | ⟨h4, hO⟩) | ⟨n2, h4, hn, hO⟩
      · exact ⟨SI_PF (SI_v hS f (by decide) (by decide) (by decide) hO hvv), _, h4⟩
      · exact ⟨SI_PF (SI_v hS f (by decide) (by decide) (by decide) hO hvv), _, h4⟩
      · exact ⟨PF_v hS f (by decide) (by decide) (by decide) hor hvv hn hO, _, h4⟩
    exact ⟨hPF.2, GI_k hI f (by decide) (by decide) (by decide) (by rw [f.2.2 59 (by decide)]; exact hou) (PF_GP hPF.1) (TV_fr hT f (by decide) (by decide) (by decide)), cl_fr f rfl, f.2.2 28 (by decide)⟩
theorem g_parts {zC : Nat → Option zsh} {d : Nat} (hd : 12 ≤ d) {H : hp} (hI : GI H)  : hG (zs zC) d mt_262 0 (zargs 0 [.inr (.inr 1826)]) [] H (GQ H (H.1 1826 28)) := by
  obtain ⟨hP, ht, hst, hou, hG9, hT⟩ := id hI
  by_cases hz : (H.1 1826 77) = 0
  · refine h_mono (m_parts0 (by omega) hz) (fun r K h => ?_)
    obtain ⟨h1, rfl⟩ := h
    exact GQ_rf hI ⟨_, h1⟩
  · obtain ⟨n, o, hS, ho, ho2, -⟩ := GP_SI hP hG9 hz
    refine h_mono (m_parts (by omega) hP hS.2.1 hS.2.2.1 hS.2.2.2.1 ho) (fun r K h => ?_)
    obtain ⟨f, hor, hvv, h3⟩ := h
    have hPF : PF2 K ∧ ∃ r0 : Int, r = some (.inl r0) := by
      rcases h3 with (⟨h4, hO⟩ | ⟨h4, hO⟩) | ⟨n2, h4, hn, hO⟩
      · exact ⟨SI_PF (SI_v hS f (by decide) (by decide) (by decide) hO hvv), _, h4⟩
      · exact ⟨SI_PF (SI_v hS f (by decide) (by decide) (by decide) hO hvv), _, h4⟩
      · exact ⟨PF_v hS f (by decide) (by decide) (by decide) hor hvv hn hO, _, h4⟩
    exact ⟨hPF.2, GI_k hI f (by decide) (by decide) (by decide) (by rw [f.2.2 59 (by decide)]; exact hou) (PF_GP hPF.1) (TV_fr hT f (by decide) (by decide) (by decide)), cl_fr f rfl, f.2.2 28 (by decide)⟩
theorem g_search {zC : Nat → Option zsh} {d : Nat} (hd : 12 ≤ d) {H : hp} {x : Int} (hI : GI H) (hx : -2147483648 ≤ x ∧ x ≤ 2147483647) : hG (zs zC) d mt_266 0 (zargs 0 [.inr (.inr 1826), .inl x]) [] H (GQ H (H.1 1826 28)) := by
  obtain ⟨hP, ht, hst, hou, hG9, hT⟩ := id hI
  by_cases hz : (H.1 1826 77) = 0
  · refine h_mono (m_search0 (by omega) hz hx) (fun r K h => ?_)
    obtain ⟨h1, rfl⟩ := h
    exact GQ_rf hI h1
  · obtain ⟨n, o, hS, ho, ho2, -⟩ := GP_SI hP hG9 hz
    refine h_mono (m_search (by omega) hS hx) (fun r K h => ?_)
    obtain ⟨f, h1, h2⟩ := h
    exact ⟨h2, GI_k hI f (by decide) (by decide) (by decide) (by rw [f.2.2 59 (by decide)]; exact hou) (PF_GP h1) (TV_fr hT f (by decide) (by decide) (by decide)), cl_fr f rfl, f.2.2 28 (by decide)⟩
theorem g_show {zC : Nat → Option zsh} {d : Nat} (hd : 12 ≤ d) {H : hp} {k s : Int} (hI : GI H) (hk : -2147483648 ≤ k ∧ k ≤ 2147483647) (hs : -2147483648 ≤ s ∧ s ≤ 2147483647) : hG (zs zC) d mt_270 0 (zargs 0 [.inr (.inr 1826), .inl k, .inl s]) [] H (GQ H (H.1 1826 28)) := by
  obtain ⟨hP, ht, hst, hou, hG9, hT⟩ := id hI
  refine h_mono (m_show (by omega) hP hG9 hou hk hs) (fun r K h => ?_)
  obtain ⟨f, h1, h2⟩ := h
  exact ⟨h2, GI_k hI f (by decide) (by decide) (by decide) h1 (GP_fr hG9 f (by decide) (by decide) (by decide) (by decide)) (TV_fr hT f (by decide) (by decide) (by decide)), cl_fr f rfl, f.2.2 28 (by decide)⟩
theorem g_showHypothesis {zC : Nat → Option zsh} {d : Nat} (hd : 12 ≤ d) {H : hp} {k s : Int} (hI : GI H) (hk : -2147483648 ≤ k ∧ k ≤ 2147483647) (hs : -2147483648 ≤ s ∧ s ≤ 2147483647) : hG (zs zC) d mt_271 0 (zargs 0 [.inr (.inr 1826), .inl k, .inl s]) [] H (GQ H (H.1 1826 28)) := by
  obtain ⟨hP, ht, hst, hou, hG9, hT⟩ := id hI
  refine h_mono (m_showHypothesis (by omega) hP hG9 hou hk hs) (fun r K h => ?_)
  obtain ⟨f, h1, h2⟩ := h
  exact ⟨h2, GI_k hI f (by decide) (by decide) (by decide) h1 (GP_fr hG9 f (by decide) (by decide) (by decide) (by decide)) (TV_fr hT f (by decide) (by decide) (by decide)), cl_fr f rfl, f.2.2 28 (by decide)⟩
theorem g_showLaw {zC : Nat → Option zsh} {d : Nat} (hd : 12 ≤ d) {H : hp} {l s : Int} (hI : GI H) (hl : -2147483648 ≤ l ∧ l ≤ 2147483647) (hs : -2147483648 ≤ s ∧ s ≤ 2147483647) : hG (zs zC) d mt_272 0 (zargs 0 [.inr (.inr 1826), .inl l, .inl s]) [] H (GQ H (H.1 1826 28)) := by
  obtain ⟨hP, ht, hst, hou, hG9, hT⟩ := id hI
  refine h_mono (m_showLaw (by omega) hP hou hl hs) (fun r K h => ?_)
  obtain ⟨f, h1, h2⟩ := h
  exact ⟨h2, GI_k hI f (by decide) (by decide) (by decide) h1 (GP_fr hG9 f (by decide) (by decide) (by decide) (by decide)) (TV_fr hT f (by decide) (by decide) (by decide)), cl_fr f rfl, f.2.2 28 (by decide)⟩
theorem g_told {zC : Nat → Option zsh} {d : Nat} (hd : 12 ≤ d) {H : hp} {x : Int} (hI : GI H) (hx : -2147483648 ≤ x ∧ x ≤ 2147483647) : hG (zs zC) d mt_220 0 (zargs 0 [.inr (.inr 1826), .inl x]) [] H (GQ H (H.1 1826 28)) := by
  obtain ⟨hP, ht, hst, hou, hG9, hT⟩ := id hI
  refine h_mono (m_told (by omega) hP hT hou hx) (fun r K h => ?_)
  obtain ⟨f, h1, h2⟩ := h
  exact ⟨h2, GI_k hI f (by decide) (by decide) (by decide) h1 (GP_fr hG9 f (by decide) (by decide) (by decide) (by decide)) (TV_fr hT f (by decide) (by decide) (by decide)), cl_fr f rfl, f.2.2 28 (by decide)⟩
theorem g_test {zC : Nat → Option zsh} {d : Nat} (hd : 12 ≤ d) {H : hp} {x y b : Int} (hI : GI H) (hx : -2147483648 ≤ x ∧ x ≤ 2147483647) (hy : -2147483648 ≤ y ∧ y ≤ 2147483647) (hb : 0 ≤ b ∧ b ≤ 1) : hG (zs zC) d mt_218 0 (zargs 0 [.inr (.inr 1826), .inl x, .inl y, .inl b]) [] H (GQ H (H.1 1826 28)) := by
  obtain ⟨hP, ht, hst, hou, hG9, hT⟩ := id hI
  refine h_mono (m_test (by omega) hP hT hb hx hy) (fun r K h => ?_)
  obtain ⟨f, h1, h2⟩ := h
  exact ⟨h2, GI_k hI f (by decide) (by decide) (by decide) (by rw [f.2.2 59 (by decide)]; exact hou) (GP_fr hG9 f (by decide) (by decide) (by decide) (by decide)) h1, cl_fr f rfl, f.2.2 28 (by decide)⟩
theorem g_begin {zC : Nat → Option zsh} {d : Nat} (hd : 12 ≤ d) {H : hp} {x b : Int} (hI : GI H) (hx : -2147483648 ≤ x ∧ x ≤ 2147483647) (hb : 0 ≤ b ∧ b ≤ 1) : hG (zs zC) d mt_227 0 (zargs 0 [.inr (.inr 1826), .inl x, .inl b]) [] H (GQ H (H.1 1826 28)) := by
  obtain ⟨hP, ht, hst, hou, hG9, hT⟩ := id hI
  obtain ⟨⟨b1, b2, b3, b4, b5⟩, -⟩ := (id hP : PW H (H.1 1826 1) (H.1 1826 3) (H.1 1826 8) (H.1 1826 13) (H.1 1826 19))
  refine h_mono (m_begin (by omega) hP hx hb) (fun r K h => ?_)
  rcases h with ⟨h1, rfl⟩ | ⟨h1, f, hO, hor, hvv, hpr⟩
  · exact GQ_rf hI ⟨_, h1⟩
  · have hG8 : GP K := ⟨hor, hvv, by rw [f.2.2 97 (by decide)]; exact hG9.2.2.1, 1, hO.1.1, Or.inr ⟨OS_P (sP_fr2 f (by decide) (by decide)) hO, hpr.1, by omega⟩⟩
    exact ⟨⟨_, h1⟩, GI_k hI f (by decide) (by decide) (by decide) (by rw [f.2.2 59 (by decide)]; exact hou) hG8 (TV_fr hT f (by decide) (by decide) (by decide)), cl_fr f rfl, f.2.2 28 (by decide)⟩
theorem g_work {zC : Nat → Option zsh} {d : Nat} (hd : 12 ≤ d) {H : hp} {x : Int} (hI : GI H) (hx : -2147483648 ≤ x ∧ x ≤ 2147483647) : hG (zs zC) d mt_201 0 (zargs 0 [.inr (.inr 1826), .inl x]) [] H (GQ H 0) := by
  obtain ⟨hP, ht, hst, hou, hG9, hT⟩ := id hI
  refine h_mono (m_work2 (by omega) hx ht hst hP hou) (fun r K h => ?_)
  obtain ⟨h1, f, h2, h3, h4⟩ := h
  exact ⟨h1, ⟨PWc_fr hP f (by decide) (by decide), by rw [h2]; decide, h3, h4, GP_fr hG9 f (by decide) (by decide) (by decide) (by decide), TV_fr hT f (by decide) (by decide) (by decide)⟩, cl_fr f rfl, h2⟩
theorem g_read {zC : Nat → Option zsh} {d : Nat} (hd : 12 ≤ d) {H : hp} (hI : GI H)  : hG (zs zC) d mt_192 0 (zargs 0 [.inr (.inr 1826)]) [] H (GQ H 0) := by
  obtain ⟨hP, ht, hst, hou, hG9, hT⟩ := id hI
  obtain ⟨⟨b1, b2, b3, b4, b5⟩, -⟩ := (id hP : PW H (H.1 1826 1) (H.1 1826 3) (H.1 1826 8) (H.1 1826 13) (H.1 1826 19))
  refine h_mono (m_read (by omega) ht hst hP) (fun r K h => ?_)
  obtain ⟨h1, f, h2, h3, ha, hPK, h4⟩ := h
  have hG8 : GP K := by
    obtain ⟨g1, g2, g3, n, g4, g5⟩ := hG9
    have o1 := f.2.1 1871 (by decide) (by decide)
    rcases h4 with h4 | ⟨h4, h5, -⟩
    · exact ⟨by rw [o1]; exact g1, by rw [f.2.2 89 (by decide)]; exact g2, by rw [f.2.2 97 (by decide)]; exact g3, 0, h4, Or.inl rfl⟩
    · refine ⟨by rw [o1]; exact g1, by rw [f.2.2 89 (by decide)]; exact g2, by rw [f.2.2 97 (by decide)]; exact g3, n, h4.trans g4, ?_⟩
      rcases g5 with q | ⟨q1, q2⟩
      · exact Or.inl q
      · refine Or.inr ⟨OS_agp hP ha (RS_s q1 h4 o1 (f.2.1 1872 (by decide) (by decide)) (fun x => ⟨sS_fr f (by decide) x, sH_fr f (by decide) x⟩)), by rw [h5]; exact q2⟩
  exact ⟨h1, ⟨hPK, by rw [h2]; decide, h3, by rw [f.2.2 59 (by decide)]; exact hou, hG8, TV_agp hP hT f ha (by decide)⟩, cl_fr f rfl, h2⟩
theorem g_feed {zC : Nat → Option zsh} {d : Nat} (hd : 12 ≤ d) {H : hp} {x1 x2 x3 x4 x5 : Int} (hI : GI H) : hG (zs zC) d mt_189 0 (zargs 0 [.inr (.inr 1826), .inl x1, .inl x2, .inl x3, .inl x4, .inl x5]) [] H (fun r9 K => ∃ r0 : Int, r9 = some (.inl r0) ∧ GI K ∧ cl H K ∧ (((K.1 1826 0) = 1 ∧ (K.1 1826 28) = (H.1 1826 28) ∧ 980 < (H.1 1826 28)) ∨ ((K.1 1826 0) = 0 ∧ (K.1 1826 28) = (H.1 1826 28) + 20 ∧ (H.1 1826 28) ≤ 980 ∧ r0 = (H.1 1826 28) + 20))) := by
  obtain ⟨hP, ht, hst, hou, hG9, hT⟩ := id hI
  refine h_mono (m_feed (by omega) ht) (fun r K h => ?_)
  obtain ⟨r0, h1, f, h2⟩ := h
  exact ⟨r0, h1, ⟨PWc_fr hP f (by decide) (by decide), by rcases h2 with ⟨-, h3, h4⟩ | ⟨-, h3, h4, -⟩ <;> omega, by rw [f.2.2 32 (by decide)]; exact hst, by rw [f.2.2 59 (by decide)]; exact hou, GP_fr hG9 f (by decide) (by decide) (by decide) (by decide), TV_fr hT f (by decide) (by decide) (by decide)⟩, cl_fr f rfl, h2⟩
theorem g_end {zC : Nat → Option zsh} {d : Nat} (hd : 12 ≤ d) {H : hp} {x : Int} (hI : GI H) (hx : -2147483648 ≤ x ∧ x ≤ 2147483647) : hG (zs zC) d mt_190 0 (zargs 0 [.inr (.inr 1826), .inl x]) [] H (fun r9 K => r9 = none ∧ GI K ∧ cl H K ∧ (((K.1 1826 0) = 1 ∧ (K.1 1826 28) = (H.1 1826 28) ∧ (x < 0 ∨ (H.1 1826 28) < x)) ∨ ((K.1 1826 0) = 0 ∧ (K.1 1826 28) = x ∧ 0 ≤ x ∧ x ≤ (H.1 1826 28)))) := by
  obtain ⟨hP, ht, hst, hou, hG9, hT⟩ := id hI
  refine h_mono (m_end (by omega) hx ht) (fun r K h => ?_)
  obtain ⟨h1, f, h2⟩ := h
  exact ⟨h1, ⟨PWc_fr hP f (by decide) (by decide), by rcases h2 with ⟨-, h3, h4⟩ | ⟨-, h3, h4, h5⟩ <;> omega, by rw [f.2.2 32 (by decide)]; exact hst, by rw [f.2.2 59 (by decide)]; exact hou, GP_fr hG9 f (by decide) (by decide) (by decide) (by decide), TV_fr hT f (by decide) (by decide) (by decide)⟩, cl_fr f rfl, h2⟩
