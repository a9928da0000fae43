/-! steps -/
set_option maxRecDepth 100000 in
theorem n_steps {zC : Nat → Option zsh} {d : Nat} (hd : 1 ≤ d) {H : hp}   : hG (zs zC) d mt_202 0 (zargs 0 [.inr (.inr 1826)]) [] H (fun r9 H2 => r9 = some (.inl (H.1 1826 57)) ∧ H = H2) := by
  refine h_rng (fun hrg0 => ?_)
  refine h_run 0 (pc' := 0) (l' := [(0, .inr (.inr 1826))]) (st' := []) rfl ?_
  refine h_run 2 (pc' := 4) (l' := [(0, .inr (.inr 1826))]) (st' := [.inl (H.1 1826 57)]) rfl ?_
  have g1 : -2147483648 ≤ (H.1 1826 57) ∧ (H.1 1826 57) ≤ 2147483647 := hrg0.1 1826 13 57 _ .int rfl rfl
  refine h_reti (x := (H.1 1826 57)) rfl rfl ?_
  exact ⟨rfl, rfl⟩

/-! steps -/
set_option maxRecDepth 100000 in
theorem kb_steps {d : Nat} (hd : 1 ≤ d) {H : hp} (hI : Inv H)   : hG (zs zK) d mt_8 0 (zargs 0 [.inr (.inr 1)]) [] H (fun r9 H9 => ∃ z : Int, r9 = some (.inl z) ∧ ((-2147483648 ≤ z ∧ z ≤ 2147483647) ∧ (z = H.1 1 8)) ∧ H = H9) := by
  refine k_run 0 (pc' := 0) (l' := [(0, .inr (.inr 1))]) (st' := []) rfl ?_
  refine k_run 2 (pc' := 4) (l' := [(0, .inr (.inr 1))]) (st' := [.inl (H.1 1 8)]) rfl ?_
  have g1 : -2147483648 ≤ (H.1 1 8) ∧ (H.1 1 8) ≤ 2147483647 := kn (x := kx_1) hI rfl 8
  refine h_reti (x := (H.1 1 8)) rfl rfl ?_
  exact ⟨_, rfl, (by omega), rfl⟩


/-! steps: as many on both sides -/
def SL (H : hp) : Prop := H.1 1 8 = H.1 1826 57
def GXs (H : hp) : Prop := GX H ∧ SL H
def BXs (s t : Int) (r9 : Option zv) (K : hp) : Prop := (∃ r0 : Int, r9 = some (.inl r0)) ∧ Inv K ∧ GXs K ∧ K.1 2 1 = s ∧ K.1 1826 28 = t
theorem BXs_of {s t : Int} {r9 : Option zv} {K : hp} (h : BX s t r9 K) (g : SL K) : BXs s t r9 K := ⟨h.1, h.2.1, ⟨h.2.2.1, g⟩, h.2.2.2.1, h.2.2.2.2⟩
theorem SL_c {ob : List (Nat × Nat)} {ar : List Nat} {gl : Bool} {H K : hp} (h : SL H) (f : fq ob ar gl H K) (h1 : 1 ∉ ar) (h2 : (1, 8) ∉ ob) (g : ∀ c, 1826 ≤ c → K.1 c = H.1 c) : SL K := by
  unfold SL
  rw [(f.1 1 8 rfl h1 h2).1, g 1826 (by decide)]
  exact h
theorem SL_r {H K : hp} (h : SL H) (g : cl H K) (e : K.1 1826 57 = H.1 1826 57) : SL K := by
  unfold SL
  rw [g.2 1 (by decide), e]
  exact h
theorem SL_work {x : Int} {H K K2 : hp} (h : SL H) (g : ∀ c, 1826 ≤ c → K.1 c = H.1 c) (hc : cl K K2) (h2 : (K.1 1 8 = H.1 1 8 ∧ K2.1 1826 57 = K.1 1826 57) ∨ K.1 1 8 = K2.1 1826 57) : SL K2 := by
  unfold SL at h ⊢
  rw [hc.2 1 (by decide)]
  rcases h2 with ⟨a, b⟩ | a
  · rw [a, b, g 1826 (by decide)]
    exact h
  · exact a
def GZs (H : hp) (t : Int) (r9 : Option zv) (K : hp) : Prop := GZ9 H t r9 K ∧ K.1 1826 57 = H.1 1826 57
theorem GZs_BX {H K : hp} {t : Int} {r9 : Option zv} (hI : Inv H) (hG : GXs H) (h : GZs H t r9 K) : BXs (H.1 2 1) t r9 K := BXs_of (GZ9_BX hI hG.1 h.1) (SL_r hG.2 h.1.2.2.1 h.2)
theorem GZs_rf {H : hp} {r9 : Option zv} (h : GI H) (hr : ∃ r0 : Int, r9 = some (.inl r0)) : GZs H (H.1 1826 28) r9 H := ⟨GZ9_rf h hr, rfl⟩
theorem us_fault {zC : Nat → Option zsh} {d : Nat} (hd : 12 ≤ d) {H : hp} (hI : GI H)  : hG (zs zC) d mt_193 0 (zargs 0 [.inr (.inr 1826)]) [] H (GZs H (H.1 1826 28)) := by
  obtain ⟨hP, ht, hst, hou, hG9, hT⟩ := id hI
  refine h_mono (m_fault (by omega)) (fun r K h => ?_)
  obtain ⟨h1, rfl⟩ := h
  exact GZs_rf hI h1
theorem us_count {zC : Nat → Option zsh} {d : Nat} (hd : 12 ≤ d) {H : hp} {x : Int} (hI : GI H) (hx : -2147483648 ≤ x ∧ x ≤ 2147483647) : hG (zs zC) d mt_194 0 (zargs 0 [.inr (.inr 1826), .inl x]) [] H (GZs H (H.1 1826 28)) := by
  obtain ⟨hP, ht, hst, hou, hG9, hT⟩ := id hI
  refine h_mono (m_count (by omega) hx) (fun r K h => ?_)
  obtain ⟨h1, rfl⟩ := h
  exact GZs_rf hI h1
theorem us_about {zC : Nat → Option zsh} {d : Nat} (hd : 12 ≤ d) {H : hp} {x y : Int} (hI : GI H) (hx : -2147483648 ≤ x ∧ x ≤ 2147483647) (hy : -2147483648 ≤ y ∧ y ≤ 2147483647) : hG (zs zC) d mt_195 0 (zargs 0 [.inr (.inr 1826), .inl x, .inl y]) [] H (GZs H (H.1 1826 28)) := by
  obtain ⟨hP, ht, hst, hou, hG9, hT⟩ := id hI
  obtain ⟨⟨b1, b2, b3, b4, b5⟩, -⟩ := (id hP : PW H (H.1 1826 1) (H.1 1826 3) (H.1 1826 8) (H.1 1826 13) (H.1 1826 19))
  refine h_mono (m_about (by omega) hx hy (by omega)) (fun r K h => ?_)
  obtain ⟨h1, rfl⟩ := h
  exact GZs_rf hI h1
theorem us_printed {zC : Nat → Option zsh} {d : Nat} (hd : 12 ≤ d) {H : hp} {x : Int} (hI : GI H) (hx : -2147483648 ≤ x ∧ x ≤ 2147483647) : hG (zs zC) d mt_207 0 (zargs 0 [.inr (.inr 1826), .inl x]) [] H (GZs H (H.1 1826 28)) := by
  obtain ⟨hP, ht, hst, hou, hG9, hT⟩ := id hI
  refine h_mono (m_printed (by omega) hx hou.2) (fun r K h => ?_)
  obtain ⟨h1, rfl⟩ := h
  exact GZs_rf hI h1
theorem us_unfold {zC : Nat → Option zsh} {d : Nat} (hd : 12 ≤ d) {H : hp} {s y : Int} (hI : GI H) (hs : -2147483648 ≤ s ∧ s ≤ 2147483647) (hy : -2147483648 ≤ y ∧ y ≤ 2147483647) : hG (zs zC) d mt_237 0 (zargs 0 [.inr (.inr 1826), .inl s, .inl y]) [] H (GZs H (H.1 1826 28)) := by
  obtain ⟨hP, ht, hst, hou, hG9, hT⟩ := id hI
  refine h_mono (m_unfold (by omega) hP hG9 hs hy) (fun r K h => ?_)
  obtain ⟨f, h1, h2⟩ := h
  exact ⟨⟨h2, GI_k hI f (by decide) (by decide) (by decide) (by rw [f.2.2 59 (by decide)]; exact hou) h1 (TV_fr hT f (by decide) (by decide) (by decide)), cl_fr f rfl, f.2.2 28 (by decide), ft_fr f (by decide) (by decide)⟩, f.2.2 57 (by decide)⟩
theorem us_law {zC : Nat → Option zsh} {d : Nat} (hd : 12 ≤ d) {H : hp} {x b s y : Int} (hI : GI H) (hx : -2147483648 ≤ x ∧ x ≤ 2147483647) (hb : 0 ≤ b ∧ b ≤ 1) (hs : -2147483648 ≤ s ∧ s ≤ 2147483647) (hy : -2147483648 ≤ y ∧ y ≤ 2147483647) : hG (zs zC) d mt_243 0 (zargs 0 [.inr (.inr 1826), .inl x, .inl b, .inl s, .inl y]) [] H (GZs H (H.1 1826 28)) := by
  obtain ⟨hP, ht, hst, hou, hG9, hT⟩ := id hI
  refine h_mono (m_lawC (by omega) hP hG9 hx hs hy hb) (fun r K h => ?_)
  obtain ⟨f, h1, h2⟩ := h
  exact ⟨⟨h2, GI_k hI f (by decide) (by decide) (by decide) (by rw [f.2.2 59 (by decide)]; exact hou) h1 (TV_fr hT f (by decide) (by decide) (by decide)), cl_fr f rfl, f.2.2 28 (by decide), ft_fr f (by decide) (by decide)⟩, f.2.2 57 (by decide)⟩
theorem us_hypothesis {zC : Nat → Option zsh} {d : Nat} (hd : 12 ≤ d) {H : hp} {x b s y : Int} (hI : GI H) (hx : -2147483648 ≤ x ∧ x ≤ 2147483647) (hb : 0 ≤ b ∧ b ≤ 1) (hs : -2147483648 ≤ s ∧ s ≤ 2147483647) (hy : -2147483648 ≤ y ∧ y ≤ 2147483647) : hG (zs zC) d mt_245 0 (zargs 0 [.inr (.inr 1826), .inl x, .inl b, .inl s, .inl y]) [] H (GZs H (H.1 1826 28)) := by
  obtain ⟨hP, ht, hst, hou, hG9, hT⟩ := id hI
  refine h_mono (m_hypothesis (by omega) hP hG9 hx hs hy hb) (fun r K h => ?_)
  obtain ⟨f, h1, h2⟩ := h
  exact ⟨⟨h2, GI_k hI f (by decide) (by decide) (by decide) (by rw [f.2.2 59 (by decide)]; exact hou) h1 (TV_fr hT f (by decide) (by decide) (by decide)), cl_fr f rfl, f.2.2 28 (by decide), ft_fr f (by decide) (by decide)⟩, f.2.2 57 (by decide)⟩
theorem us_induction {zC : Nat → Option zsh} {d : Nat} (hd : 12 ≤ d) {H : hp} {v : Int} (hI : GI H) (hv : -2147483648 ≤ v ∧ v ≤ 2147483647) : hG (zs zC) d mt_252 0 (zargs 0 [.inr (.inr 1826), .inl v]) [] H (GZs H (H.1 1826 28)) := by
  obtain ⟨hP, ht, hst, hou, hG9, hT⟩ := id hI
  refine h_mono (m_induction (by omega) hP hG9 hv) (fun r K h => ?_)
  obtain ⟨f, h1, h2⟩ := h
  exact ⟨⟨h2, GI_k hI f (by decide) (by decide) (by decide) (by rw [f.2.2 59 (by decide)]; exact hou) h1 (TV_fr hT f (by decide) (by decide) (by decide)), cl_fr f rfl, f.2.2 28 (by decide), ft_fr f (by decide) (by decide)⟩, f.2.2 57 (by decide)⟩
theorem us_cases {zC : Nat → Option zsh} {d : Nat} (hd : 12 ≤ d) {H : hp} {s y : Int} (hI : GI H) (hs : -2147483648 ≤ s ∧ s ≤ 2147483647) (hy : -2147483648 ≤ y ∧ y ≤ 2147483647) : hG (zs zC) d mt_255 0 (zargs 0 [.inr (.inr 1826), .inl s, .inl y]) [] H (GZs H (H.1 1826 28)) := by
  obtain ⟨hP, ht, hst, hou, hG9, hT⟩ := id hI
  refine h_mono (m_cases (by omega) hP hG9 hs hy) (fun r K h => ?_)
  obtain ⟨f, h1, h2⟩ := h
  exact ⟨⟨h2, GI_k hI f (by decide) (by decide) (by decide) (by rw [f.2.2 59 (by decide)]; exact hou) h1 (TV_fr hT f (by decide) (by decide) (by decide)), cl_fr f rfl, f.2.2 28 (by decide), ft_fr f (by decide) (by decide)⟩, f.2.2 57 (by decide)⟩
theorem us_same {zC : Nat → Option zsh} {d : Nat} (hd : 12 ≤ d) {H : hp} (hI : GI H)  : hG (zs zC) d mt_261 0 (zargs 0 [.inr (.inr 1826)]) [] H (GZs H (H.1 1826 28)) := by
  obtain ⟨hP, ht, hst, hou, hG9, hT⟩ := id hI
  by_cases hz : (H.1 1826 77) = 0
  · refine h_mono (m_same0 (by omega) hz) (fun r K h => ?_)
    obtain ⟨h1, rfl⟩ := h
    exact GZs_rf hI ⟨_, h1⟩
  · obtain ⟨n, o, hS, ho, ho2, -⟩ := GP_SI hP hG9 hz
    refine h_mono (m_same (by omega) hP hS.2.1 hS.2.2.1 hS.2.2.2.1 ho) (fun r K h => ?_)
    obtain ⟨f, hor, hvv, h3⟩ := h
    have hPF : PF2 K ∧ ∃ r0 : Int, r = some (.inl r0) := by
      rcases h3 with (⟨h4, hO⟩ | ⟨h4, hO⟩) | ⟨n2, h4, hn, hO⟩
      · exact ⟨SI_PF (SI_v hS f (by decide) (by decide) (by decide) hO hvv), _, h4⟩
      · exact ⟨SI_PF (SI_v hS f (by decide) (by decide) (by decide) hO hvv), _, h4⟩
      · exact ⟨PF_v hS f (by decide) (by decide) (by decide) hor hvv hn hO, _, h4⟩
    exact ⟨⟨hPF.2, GI_k hI f (by decide) (by decide) (by decide) (by rw [f.2.2 59 (by decide)]; exact hou) (PF_GP hPF.1) (TV_fr hT f (by decide) (by decide) (by decide)), cl_fr f rfl, f.2.2 28 (by decide), ft_fr f (by decide) (by decide)⟩, f.2.2 57 (by decide)⟩
theorem us_parts {zC : Nat → Option zsh} {d : Nat} (hd : 12 ≤ d) {H : hp} (hI : GI H)  : hG (zs zC) d mt_262 0 (zargs 0 [.inr (.inr 1826)]) [] H (GZs H (H.1 1826 28)) := by
  obtain ⟨hP, ht, hst, hou, hG9, hT⟩ := id hI
  by_cases hz : (H.1 1826 77) = 0
  · refine h_mono (m_parts0 (by omega) hz) (fun r K h => ?_)
    obtain ⟨h1, rfl⟩ := h
    exact GZs_rf hI ⟨_, h1⟩
  · obtain ⟨n, o, hS, ho, ho2, -⟩ := GP_SI hP hG9 hz
    refine h_mono (m_parts (by omega) hP hS.2.1 hS.2.2.1 hS.2.2.2.1 ho) (fun r K h => ?_)
    obtain ⟨f, hor, hvv, h3⟩ := h
    have hPF : PF2 K ∧ ∃ r0 : Int, r = some (.inl r0) := by
      rcases h3 with (⟨h4, hO⟩ | ⟨h4, hO⟩) | ⟨n2, h4, hn, hO⟩
      · exact ⟨SI_PF (SI_v hS f (by decide) (by decide) (by decide) hO hvv), _, h4⟩
      · exact ⟨SI_PF (SI_v hS f (by decide) (by decide) (by decide) hO hvv), _, h4⟩
      · exact ⟨PF_v hS f (by decide) (by decide) (by decide) hor hvv hn hO, _, h4⟩
    exact ⟨⟨hPF.2, GI_k hI f (by decide) (by decide) (by decide) (by rw [f.2.2 59 (by decide)]; exact hou) (PF_GP hPF.1) (TV_fr hT f (by decide) (by decide) (by decide)), cl_fr f rfl, f.2.2 28 (by decide), ft_fr f (by decide) (by decide)⟩, f.2.2 57 (by decide)⟩
theorem us_search {zC : Nat → Option zsh} {d : Nat} (hd : 12 ≤ d) {H : hp} {x : Int} (hI : GI H) (hx : -2147483648 ≤ x ∧ x ≤ 2147483647) : hG (zs zC) d mt_266 0 (zargs 0 [.inr (.inr 1826), .inl x]) [] H (GZs H (H.1 1826 28)) := by
  obtain ⟨hP, ht, hst, hou, hG9, hT⟩ := id hI
  by_cases hz : (H.1 1826 77) = 0
  · refine h_mono (m_search0 (by omega) hz hx) (fun r K h => ?_)
    obtain ⟨h1, rfl⟩ := h
    exact GZs_rf hI h1
  · obtain ⟨n, o, hS, ho, ho2, -⟩ := GP_SI hP hG9 hz
    refine h_mono (m_search (by omega) hS hx) (fun r K h => ?_)
    obtain ⟨f, h1, h2⟩ := h
    exact ⟨⟨h2, GI_k hI f (by decide) (by decide) (by decide) (by rw [f.2.2 59 (by decide)]; exact hou) (PF_GP h1) (TV_fr hT f (by decide) (by decide) (by decide)), cl_fr f rfl, f.2.2 28 (by decide), ft_fr f (by decide) (by decide)⟩, f.2.2 57 (by decide)⟩
theorem us_show {zC : Nat → Option zsh} {d : Nat} (hd : 12 ≤ d) {H : hp} {k s : Int} (hI : GI H) (hk : -2147483648 ≤ k ∧ k ≤ 2147483647) (hs : -2147483648 ≤ s ∧ s ≤ 2147483647) : hG (zs zC) d mt_270 0 (zargs 0 [.inr (.inr 1826), .inl k, .inl s]) [] H (GZs H (H.1 1826 28)) := by
  obtain ⟨hP, ht, hst, hou, hG9, hT⟩ := id hI
  refine h_mono (m_show (by omega) hP hG9 hou hk hs) (fun r K h => ?_)
  obtain ⟨f, h1, h2⟩ := h
  exact ⟨⟨h2, GI_k hI f (by decide) (by decide) (by decide) h1 (GP_fr hG9 f (by decide) (by decide) (by decide) (by decide)) (TV_fr hT f (by decide) (by decide) (by decide)), cl_fr f rfl, f.2.2 28 (by decide), ft_fr f (by decide) (by decide)⟩, f.2.2 57 (by decide)⟩
theorem us_showHypothesis {zC : Nat → Option zsh} {d : Nat} (hd : 12 ≤ d) {H : hp} {k s : Int} (hI : GI H) (hk : -2147483648 ≤ k ∧ k ≤ 2147483647) (hs : -2147483648 ≤ s ∧ s ≤ 2147483647) : hG (zs zC) d mt_271 0 (zargs 0 [.inr (.inr 1826), .inl k, .inl s]) [] H (GZs H (H.1 1826 28)) := by
  obtain ⟨hP, ht, hst, hou, hG9, hT⟩ := id hI
  refine h_mono (m_showHypothesis (by omega) hP hG9 hou hk hs) (fun r K h => ?_)
  obtain ⟨f, h1, h2⟩ := h
  exact ⟨⟨h2, GI_k hI f (by decide) (by decide) (by decide) h1 (GP_fr hG9 f (by decide) (by decide) (by decide) (by decide)) (TV_fr hT f (by decide) (by decide) (by decide)), cl_fr f rfl, f.2.2 28 (by decide), ft_fr f (by decide) (by decide)⟩, f.2.2 57 (by decide)⟩
theorem us_showLaw {zC : Nat → Option zsh} {d : Nat} (hd : 12 ≤ d) {H : hp} {l s : Int} (hI : GI H) (hl : -2147483648 ≤ l ∧ l ≤ 2147483647) (hs : -2147483648 ≤ s ∧ s ≤ 2147483647) : hG (zs zC) d mt_272 0 (zargs 0 [.inr (.inr 1826), .inl l, .inl s]) [] H (GZs H (H.1 1826 28)) := by
  obtain ⟨hP, ht, hst, hou, hG9, hT⟩ := id hI
  refine h_mono (m_showLaw (by omega) hP hou hl hs) (fun r K h => ?_)
  obtain ⟨f, h1, h2⟩ := h
  exact ⟨⟨h2, GI_k hI f (by decide) (by decide) (by decide) h1 (GP_fr hG9 f (by decide) (by decide) (by decide) (by decide)) (TV_fr hT f (by decide) (by decide) (by decide)), cl_fr f rfl, f.2.2 28 (by decide), ft_fr f (by decide) (by decide)⟩, f.2.2 57 (by decide)⟩
theorem us_told {zC : Nat → Option zsh} {d : Nat} (hd : 12 ≤ d) {H : hp} {x : Int} (hI : GI H) (hx : -2147483648 ≤ x ∧ x ≤ 2147483647) : hG (zs zC) d mt_220 0 (zargs 0 [.inr (.inr 1826), .inl x]) [] H (GZs H (H.1 1826 28)) := by
  obtain ⟨hP, ht, hst, hou, hG9, hT⟩ := id hI
  refine h_mono (m_told (by omega) hP hT hou hx) (fun r K h => ?_)
  obtain ⟨f, h1, h2⟩ := h
  exact ⟨⟨h2, GI_k hI f (by decide) (by decide) (by decide) h1 (GP_fr hG9 f (by decide) (by decide) (by decide) (by decide)) (TV_fr hT f (by decide) (by decide) (by decide)), cl_fr f rfl, f.2.2 28 (by decide), ft_fr f (by decide) (by decide)⟩, f.2.2 57 (by decide)⟩
theorem us_test {zC : Nat → Option zsh} {d : Nat} (hd : 12 ≤ d) {H : hp} {x y b : Int} (hI : GI H) (hx : -2147483648 ≤ x ∧ x ≤ 2147483647) (hy : -2147483648 ≤ y ∧ y ≤ 2147483647) (hb : 0 ≤ b ∧ b ≤ 1) : hG (zs zC) d mt_218 0 (zargs 0 [.inr (.inr 1826), .inl x, .inl y, .inl b]) [] H (GZs H (H.1 1826 28)) := by
  obtain ⟨hP, ht, hst, hou, hG9, hT⟩ := id hI
  refine h_mono (m_test (by omega) hP hT hb hx hy) (fun r K h => ?_)
  obtain ⟨f, h1, h2⟩ := h
  exact ⟨⟨h2, GI_k hI f (by decide) (by decide) (by decide) (by rw [f.2.2 59 (by decide)]; exact hou) (GP_fr hG9 f (by decide) (by decide) (by decide) (by decide)) h1, cl_fr f rfl, f.2.2 28 (by decide), ft_fr f (by decide) (by decide)⟩, f.2.2 57 (by decide)⟩
theorem us_begin {zC : Nat → Option zsh} {d : Nat} (hd : 12 ≤ d) {H : hp} {x b : Int} (hI : GI H) (hx : -2147483648 ≤ x ∧ x ≤ 2147483647) (hb : 0 ≤ b ∧ b ≤ 1) : hG (zs zC) d mt_227 0 (zargs 0 [.inr (.inr 1826), .inl x, .inl b]) [] H (GZs H (H.1 1826 28)) := by
  obtain ⟨hP, ht, hst, hou, hG9, hT⟩ := id hI
  obtain ⟨⟨b1, b2, b3, b4, b5⟩, -⟩ := (id hP : PW H (H.1 1826 1) (H.1 1826 3) (H.1 1826 8) (H.1 1826 13) (H.1 1826 19))
  refine h_mono (m_begin (by omega) hP hx hb) (fun r K h => ?_)
  rcases h with ⟨h1, rfl⟩ | ⟨h1, f, hO, hor, hvv, hpr⟩
  · exact GZs_rf hI ⟨_, h1⟩
  · have hG8 : GP K := ⟨hor, hvv, by rw [f.2.2 97 (by decide)]; exact hG9.2.2.1, 1, hO.1.1, Or.inr ⟨OS_P (sP_fr2 f (by decide) (by decide)) hO, hpr.1, by omega⟩⟩
    exact ⟨⟨⟨_, h1⟩, GI_k hI f (by decide) (by decide) (by decide) (by rw [f.2.2 59 (by decide)]; exact hou) hG8 (TV_fr hT f (by decide) (by decide) (by decide)), cl_fr f rfl, f.2.2 28 (by decide), ft_fr f (by decide) (by decide)⟩, f.2.2 57 (by decide)⟩
theorem vs_c_fault {d : Nat} (hd : 50 ≤ d) {H : hp} (hI : Inv H) (hG9 : GXs H)   : hE d mt_4 [.inr (.inr 1)] H (BXs (H.1 2 1) (H.1 1826 28)) := by
  refine hE_of ?_
  refine h_mono (k_fault (by omega) hI ) (fun r K h => ?_)
  obtain ⟨z, h1, -, rfl⟩ := h
  exact ⟨⟨z, h1⟩, hI, hG9, rfl, rfl⟩
theorem vs_c_count {d : Nat} (hd : 50 ≤ d) {H : hp} (hI : Inv H) (hG9 : GXs H) {a : Int} (ha : -2147483648 ≤ a ∧ a ≤ 2147483647) : hE d mt_5 [.inr (.inr 1), .inl a] H (BXs (H.1 2 1) (H.1 1826 28)) := by
  refine hE_of ?_
  refine h_mono (k_count (by omega) hI ha) (fun r K h => ?_)
  obtain ⟨z, h1, -, rfl⟩ := h
  exact ⟨⟨z, h1⟩, hI, hG9, rfl, rfl⟩
theorem vs_c_about {d : Nat} (hd : 50 ≤ d) {H : hp} (hI : Inv H) (hG9 : GXs H) {a : Int} {b : Int} (ha : -2147483648 ≤ a ∧ a ≤ 2147483647) (hb : -2147483648 ≤ b ∧ b ≤ 2147483647) : hE d mt_6 [.inr (.inr 1), .inl a, .inl b] H (BXs (H.1 2 1) (H.1 1826 28)) := by
  refine hE_of ?_
  refine h_mono (k_about (by omega) hI ha hb) (fun r K h => ?_)
  obtain ⟨z, h1, -, rfl⟩ := h
  exact ⟨⟨z, h1⟩, hI, hG9, rfl, rfl⟩
theorem vs_c_test {d : Nat} (hd : 50 ≤ d) {H : hp} (hI : Inv H) (hG9 : GXs H) {a : Int} {b : Int} {c : Int} (ha : -2147483648 ≤ a ∧ a ≤ 2147483647) (hb : -2147483648 ≤ b ∧ b ≤ 2147483647) (hc : 0 ≤ c ∧ c ≤ 1) : hE d mt_9 [.inr (.inr 1), .inl a, .inl b, .inl c] H (BXs (H.1 2 1) (H.1 1826 28)) := by
  refine hE_mono (h_own (i := 9) rfl rfl (cl_xs [a, b, c]) hI (h_names (by decide +kernel : gM gG mt_9 = true) (k_test (by omega) hI ha hb hc))) (fun r K h9 => ?_)
  obtain ⟨⟨h, hn⟩, hs9⟩ := h9
  obtain ⟨z, h1, -, h3, f⟩ := h
  exact BXs_of (fq_BX hG9.1 hn hs9 h1 h3 f (f.1 2 1 rfl (by decide) (by decide)).1 (by first | exact Or.inl rfl | exact Or.inr rfl) rfl rfl (by decide) (by decide)) (SL_c hG9.2 f (by decide) (by decide) (fq_up f rfl rfl))
theorem vs_c_told {d : Nat} (hd : 50 ≤ d) {H : hp} (hI : Inv H) (hG9 : GXs H) {a : Int} (ha : -2147483648 ≤ a ∧ a ≤ 2147483647) : hE d mt_10 [.inr (.inr 1), .inl a] H (BXs (H.1 2 1) (H.1 1826 28)) := by
  refine hE_mono (h_own (i := 10) rfl rfl (cl_xs [a]) hI (h_names (by decide +kernel : gM gG mt_10 = true) (k_told (by omega) hI ha))) (fun r K h9 => ?_)
  obtain ⟨⟨h, hn⟩, hs9⟩ := h9
  obtain ⟨z, h1, -, h3, f⟩ := h
  exact BXs_of (fq_BX hG9.1 hn hs9 h1 h3 f (f.1 2 1 rfl (by decide) (by decide)).1 (by first | exact Or.inl rfl | exact Or.inr rfl) rfl rfl (by decide) (by decide)) (SL_c hG9.2 f (by decide) (by decide) (fq_up f rfl rfl))
theorem vs_c_begin {d : Nat} (hd : 50 ≤ d) {H : hp} (hI : Inv H) (hG9 : GXs H) {a : Int} {b : Int} (ha : -2147483648 ≤ a ∧ a ≤ 2147483647) (hb : 0 ≤ b ∧ b ≤ 1) : hE d mt_11 [.inr (.inr 1), .inl a, .inl b] H (BXs (H.1 2 1) (H.1 1826 28)) := by
  refine hE_mono (h_own (i := 11) rfl rfl (cl_xs [a, b]) hI (h_names (by decide +kernel : gM gG mt_11 = true) (k_begin (by omega) hI ha hb))) (fun r K h9 => ?_)
  obtain ⟨⟨h, hn⟩, hs9⟩ := h9
  obtain ⟨z, h1, -, h3, f⟩ := h
  exact BXs_of (fq_BX hG9.1 hn hs9 h1 h3 f (f.1 2 1 rfl (by decide) (by decide)).1 (by first | exact Or.inl rfl | exact Or.inr rfl) rfl rfl (by decide) (by decide)) (SL_c hG9.2 f (by decide) (by decide) (fq_up f rfl rfl))
theorem vs_c_unfold {d : Nat} (hd : 50 ≤ d) {H : hp} (hI : Inv H) (hG9 : GXs H) {a : Int} {b : Int} (ha : -2147483648 ≤ a ∧ a ≤ 2147483647) (hb : -2147483648 ≤ b ∧ b ≤ 2147483647) : hE d mt_12 [.inr (.inr 1), .inl a, .inl b] H (BXs (H.1 2 1) (H.1 1826 28)) := by
  refine hE_mono (h_own (i := 12) rfl rfl (cl_xs [a, b]) hI (h_names (by decide +kernel : gM gG mt_12 = true) (k_unfold (by omega) hI ha hb))) (fun r K h9 => ?_)
  obtain ⟨⟨h, hn⟩, hs9⟩ := h9
  obtain ⟨z, h1, -, h3, f⟩ := h
  exact BXs_of (fq_BX hG9.1 hn hs9 h1 h3 f (f.1 2 1 rfl (by decide) (by decide)).1 (by first | exact Or.inl rfl | exact Or.inr rfl) rfl rfl (by decide) (by decide)) (SL_c hG9.2 f (by decide) (by decide) (fq_up f rfl rfl))
theorem vs_c_law {d : Nat} (hd : 50 ≤ d) {H : hp} (hI : Inv H) (hG9 : GXs H) {a : Int} {b : Int} {c : Int} {e : Int} (ha : -2147483648 ≤ a ∧ a ≤ 2147483647) (hb : 0 ≤ b ∧ b ≤ 1) (hc : -2147483648 ≤ c ∧ c ≤ 2147483647) (he : -2147483648 ≤ e ∧ e ≤ 2147483647) : hE d mt_13 [.inr (.inr 1), .inl a, .inl b, .inl c, .inl e] H (BXs (H.1 2 1) (H.1 1826 28)) := by
  refine hE_mono (h_own (i := 13) rfl rfl (cl_xs [a, b, c, e]) hI (h_names (by decide +kernel : gM gG mt_13 = true) (k_law (by omega) hI ha hb hc he))) (fun r K h9 => ?_)
  obtain ⟨⟨h, hn⟩, hs9⟩ := h9
  obtain ⟨z, h1, -, h3, f⟩ := h
  exact BXs_of (fq_BX hG9.1 hn hs9 h1 h3 f (f.1 2 1 rfl (by decide) (by decide)).1 (by first | exact Or.inl rfl | exact Or.inr rfl) rfl rfl (by decide) (by decide)) (SL_c hG9.2 f (by decide) (by decide) (fq_up f rfl rfl))
theorem vs_c_hypothesis {d : Nat} (hd : 50 ≤ d) {H : hp} (hI : Inv H) (hG9 : GXs H) {a : Int} {b : Int} {c : Int} {e : Int} (ha : -2147483648 ≤ a ∧ a ≤ 2147483647) (hb : 0 ≤ b ∧ b ≤ 1) (hc : -2147483648 ≤ c ∧ c ≤ 2147483647) (he : -2147483648 ≤ e ∧ e ≤ 2147483647) : hE d mt_14 [.inr (.inr 1), .inl a, .inl b, .inl c, .inl e] H (BXs (H.1 2 1) (H.1 1826 28)) := by
  refine hE_mono (h_own (i := 14) rfl rfl (cl_xs [a, b, c, e]) hI (h_names (by decide +kernel : gM gG mt_14 = true) (k_hypothesis (by omega) hI ha hb hc he))) (fun r K h9 => ?_)
  obtain ⟨⟨h, hn⟩, hs9⟩ := h9
  obtain ⟨z, h1, -, h3, f⟩ := h
  exact BXs_of (fq_BX hG9.1 hn hs9 h1 h3 f (f.1 2 1 rfl (by decide) (by decide)).1 (by first | exact Or.inl rfl | exact Or.inr rfl) rfl rfl (by decide) (by decide)) (SL_c hG9.2 f (by decide) (by decide) (fq_up f rfl rfl))
theorem vs_c_induction {d : Nat} (hd : 50 ≤ d) {H : hp} (hI : Inv H) (hG9 : GXs H) {a : Int} (ha : -2147483648 ≤ a ∧ a ≤ 2147483647) : hE d mt_15 [.inr (.inr 1), .inl a] H (BXs (H.1 2 1) (H.1 1826 28)) := by
  refine hE_mono (h_own (i := 15) rfl rfl (cl_xs [a]) hI (h_names (by decide +kernel : gM gG mt_15 = true) (k_induction (by omega) hI ha))) (fun r K h9 => ?_)
  obtain ⟨⟨h, hn⟩, hs9⟩ := h9
  obtain ⟨z, h1, -, h3, f⟩ := h
  exact BXs_of (fq_BX hG9.1 hn hs9 h1 h3 f (f.1 2 1 rfl (by decide) (by decide)).1 (by first | exact Or.inl rfl | exact Or.inr rfl) rfl rfl (by decide) (by decide)) (SL_c hG9.2 f (by decide) (by decide) (fq_up f rfl rfl))
theorem vs_c_cases {d : Nat} (hd : 50 ≤ d) {H : hp} (hI : Inv H) (hG9 : GXs H) {a : Int} {b : Int} (ha : -2147483648 ≤ a ∧ a ≤ 2147483647) (hb : -2147483648 ≤ b ∧ b ≤ 2147483647) : hE d mt_16 [.inr (.inr 1), .inl a, .inl b] H (BXs (H.1 2 1) (H.1 1826 28)) := by
  refine hE_mono (h_own (i := 16) rfl rfl (cl_xs [a, b]) hI (h_names (by decide +kernel : gM gG mt_16 = true) (k_cases (by omega) hI ha hb))) (fun r K h9 => ?_)
  obtain ⟨⟨h, hn⟩, hs9⟩ := h9
  obtain ⟨z, h1, -, h3, f⟩ := h
  exact BXs_of (fq_BX hG9.1 hn hs9 h1 h3 f (f.1 2 1 rfl (by decide) (by decide)).1 (by first | exact Or.inl rfl | exact Or.inr rfl) rfl rfl (by decide) (by decide)) (SL_c hG9.2 f (by decide) (by decide) (fq_up f rfl rfl))
theorem vs_c_same {d : Nat} (hd : 50 ≤ d) {H : hp} (hI : Inv H) (hG9 : GXs H)   : hE d mt_17 [.inr (.inr 1)] H (BXs (H.1 2 1) (H.1 1826 28)) := by
  refine hE_mono (h_own (i := 17) rfl rfl (cl_xs []) hI (h_names (by decide +kernel : gM gG mt_17 = true) (k_same (by omega) hI ))) (fun r K h9 => ?_)
  obtain ⟨⟨h, hn⟩, hs9⟩ := h9
  obtain ⟨z, h1, -, h3, f⟩ := h
  exact BXs_of (fq_BX hG9.1 hn hs9 h1 h3 f (f.1 2 1 rfl (by decide) (by decide)).1 (by first | exact Or.inl rfl | exact Or.inr rfl) rfl rfl (by decide) (by decide)) (SL_c hG9.2 f (by decide) (by decide) (fq_up f rfl rfl))
theorem vs_c_parts {d : Nat} (hd : 50 ≤ d) {H : hp} (hI : Inv H) (hG9 : GXs H)   : hE d mt_18 [.inr (.inr 1)] H (BXs (H.1 2 1) (H.1 1826 28)) := by
  refine hE_mono (h_own (i := 18) rfl rfl (cl_xs []) hI (h_names (by decide +kernel : gM gG mt_18 = true) (k_parts (by omega) hI ))) (fun r K h9 => ?_)
  obtain ⟨⟨h, hn⟩, hs9⟩ := h9
  obtain ⟨z, h1, -, h3, f⟩ := h
  exact BXs_of (fq_BX hG9.1 hn hs9 h1 h3 f (f.1 2 1 rfl (by decide) (by decide)).1 (by first | exact Or.inl rfl | exact Or.inr rfl) rfl rfl (by decide) (by decide)) (SL_c hG9.2 f (by decide) (by decide) (fq_up f rfl rfl))
theorem vs_c_search {d : Nat} (hd : 50 ≤ d) {H : hp} (hI : Inv H) (hG9 : GXs H) {a : Int} (ha : -2147483648 ≤ a ∧ a ≤ 2147483647) : hE d mt_19 [.inr (.inr 1), .inl a] H (BXs (H.1 2 1) (H.1 1826 28)) := by
  refine hE_mono (h_own (i := 19) rfl rfl (cl_xs [a]) hI (h_names (by decide +kernel : gM gG mt_19 = true) (k_search (by omega) hI ha))) (fun r K h9 => ?_)
  obtain ⟨⟨h, hn⟩, hs9⟩ := h9
  obtain ⟨z, h1, -, h3, f⟩ := h
  exact BXs_of (fq_BX hG9.1 hn hs9 h1 h3 f (f.1 2 1 rfl (by decide) (by decide)).1 (by first | exact Or.inl rfl | exact Or.inr rfl) rfl rfl (by decide) (by decide)) (SL_c hG9.2 f (by decide) (by decide) (fq_up f rfl rfl))
theorem vs_c_show {d : Nat} (hd : 50 ≤ d) {H : hp} (hI : Inv H) (hG9 : GXs H) {a : Int} {b : Int} (ha : -2147483648 ≤ a ∧ a ≤ 2147483647) (hb : -2147483648 ≤ b ∧ b ≤ 2147483647) : hE d mt_20 [.inr (.inr 1), .inl a, .inl b] H (BXs (H.1 2 1) (H.1 1826 28)) := by
  refine hE_mono (h_own (i := 20) rfl rfl (cl_xs [a, b]) hI (h_names (by decide +kernel : gM gG mt_20 = true) (k_show (by omega) hI ha hb))) (fun r K h9 => ?_)
  obtain ⟨⟨h, hn⟩, hs9⟩ := h9
  obtain ⟨z, h1, -, h3, f⟩ := h
  exact BXs_of (fq_BX hG9.1 hn hs9 h1 h3 f (f.1 2 1 rfl (by decide) (by decide)).1 (by first | exact Or.inl rfl | exact Or.inr rfl) rfl rfl (by decide) (by decide)) (SL_c hG9.2 f (by decide) (by decide) (fq_up f rfl rfl))
theorem vs_c_showHypothesis {d : Nat} (hd : 50 ≤ d) {H : hp} (hI : Inv H) (hG9 : GXs H) {a : Int} {b : Int} (ha : -2147483648 ≤ a ∧ a ≤ 2147483647) (hb : -2147483648 ≤ b ∧ b ≤ 2147483647) : hE d mt_21 [.inr (.inr 1), .inl a, .inl b] H (BXs (H.1 2 1) (H.1 1826 28)) := by
  refine hE_mono (h_own (i := 21) rfl rfl (cl_xs [a, b]) hI (h_names (by decide +kernel : gM gG mt_21 = true) (k_showHypothesis (by omega) hI ha hb))) (fun r K h9 => ?_)
  obtain ⟨⟨h, hn⟩, hs9⟩ := h9
  obtain ⟨z, h1, -, h3, f⟩ := h
  exact BXs_of (fq_BX hG9.1 hn hs9 h1 h3 f (f.1 2 1 rfl (by decide) (by decide)).1 (by first | exact Or.inl rfl | exact Or.inr rfl) rfl rfl (by decide) (by decide)) (SL_c hG9.2 f (by decide) (by decide) (fq_up f rfl rfl))
theorem vs_c_showLaw {d : Nat} (hd : 50 ≤ d) {H : hp} (hI : Inv H) (hG9 : GXs H) {a : Int} {b : Int} (ha : -2147483648 ≤ a ∧ a ≤ 2147483647) (hb : -2147483648 ≤ b ∧ b ≤ 2147483647) : hE d mt_22 [.inr (.inr 1), .inl a, .inl b] H (BXs (H.1 2 1) (H.1 1826 28)) := by
  refine hE_mono (h_own (i := 22) rfl rfl (cl_xs [a, b]) hI (h_names (by decide +kernel : gM gG mt_22 = true) (k_showLaw (by omega) hI ha hb))) (fun r K h9 => ?_)
  obtain ⟨⟨h, hn⟩, hs9⟩ := h9
  obtain ⟨z, h1, -, h3, f⟩ := h
  exact BXs_of (fq_BX hG9.1 hn hs9 h1 h3 f (f.1 2 1 rfl (by decide) (by decide)).1 (by first | exact Or.inl rfl | exact Or.inr rfl) rfl rfl (by decide) (by decide)) (SL_c hG9.2 f (by decide) (by decide) (fq_up f rfl rfl))
theorem vs_c_printed {d : Nat} (hd : 50 ≤ d) {H : hp} (hI : Inv H) (hG9 : GXs H) {a : Int} (ha : -2147483648 ≤ a ∧ a ≤ 2147483647) : hE d mt_23 [.inr (.inr 1), .inl a] H (BXs (H.1 2 1) (H.1 1826 28)) := by
  refine hE_of ?_
  refine h_mono (k_printed (by omega) hI ha) (fun r K h => ?_)
  obtain ⟨z, h1, -, rfl⟩ := h
  exact ⟨⟨z, h1⟩, hI, hG9, rfl, rfl⟩
theorem vs_r_fault {d : Nat} (hd : 50 ≤ d) {H : hp} (hK : Inv H) (hI : GXs H)  : hG (zs zK) d mt_193 0 (zargs 0 [.inr (.inr 1826)]) [] H (BXs (H.1 2 1) (H.1 1826 28)) := h_mono (us_fault (by omega) hI.1.1 ) (fun _ _ h => GZs_BX hK hI h)
theorem vs_r_count {d : Nat} (hd : 50 ≤ d) {H : hp} (hK : Inv H) (hI : GXs H) {x : Int} (hx : -2147483648 ≤ x ∧ x ≤ 2147483647) : hG (zs zK) d mt_194 0 (zargs 0 [.inr (.inr 1826), .inl x]) [] H (BXs (H.1 2 1) (H.1 1826 28)) := h_mono (us_count (by omega) hI.1.1 hx) (fun _ _ h => GZs_BX hK hI h)
theorem vs_r_about {d : Nat} (hd : 50 ≤ d) {H : hp} (hK : Inv H) (hI : GXs H) {x y : Int} (hx : -2147483648 ≤ x ∧ x ≤ 2147483647) (hy : -2147483648 ≤ y ∧ y ≤ 2147483647) : hG (zs zK) d mt_195 0 (zargs 0 [.inr (.inr 1826), .inl x, .inl y]) [] H (BXs (H.1 2 1) (H.1 1826 28)) := h_mono (us_about (by omega) hI.1.1 hx hy) (fun _ _ h => GZs_BX hK hI h)
theorem vs_r_test {d : Nat} (hd : 50 ≤ d) {H : hp} (hK : Inv H) (hI : GXs H) {x y b : Int} (hx : -2147483648 ≤ x ∧ x ≤ 2147483647) (hy : -2147483648 ≤ y ∧ y ≤ 2147483647) (hb : 0 ≤ b ∧ b ≤ 1) : hG (zs zK) d mt_218 0 (zargs 0 [.inr (.inr 1826), .inl x, .inl y, .inl b]) [] H (BXs (H.1 2 1) (H.1 1826 28)) := h_mono (us_test (by omega) hI.1.1 hx hy hb) (fun _ _ h => GZs_BX hK hI h)
theorem vs_r_told {d : Nat} (hd : 50 ≤ d) {H : hp} (hK : Inv H) (hI : GXs H) {x : Int} (hx : -2147483648 ≤ x ∧ x ≤ 2147483647) : hG (zs zK) d mt_220 0 (zargs 0 [.inr (.inr 1826), .inl x]) [] H (BXs (H.1 2 1) (H.1 1826 28)) := h_mono (us_told (by omega) hI.1.1 hx) (fun _ _ h => GZs_BX hK hI h)
theorem vs_r_begin {d : Nat} (hd : 50 ≤ d) {H : hp} (hK : Inv H) (hI : GXs H) {x b : Int} (hx : -2147483648 ≤ x ∧ x ≤ 2147483647) (hb : 0 ≤ b ∧ b ≤ 1) : hG (zs zK) d mt_227 0 (zargs 0 [.inr (.inr 1826), .inl x, .inl b]) [] H (BXs (H.1 2 1) (H.1 1826 28)) := h_mono (us_begin (by omega) hI.1.1 hx hb) (fun _ _ h => GZs_BX hK hI h)
theorem vs_r_unfold {d : Nat} (hd : 50 ≤ d) {H : hp} (hK : Inv H) (hI : GXs H) {s y : Int} (hs : -2147483648 ≤ s ∧ s ≤ 2147483647) (hy : -2147483648 ≤ y ∧ y ≤ 2147483647) : hG (zs zK) d mt_237 0 (zargs 0 [.inr (.inr 1826), .inl s, .inl y]) [] H (BXs (H.1 2 1) (H.1 1826 28)) := h_mono (us_unfold (by omega) hI.1.1 hs hy) (fun _ _ h => GZs_BX hK hI h)
theorem vs_r_law {d : Nat} (hd : 50 ≤ d) {H : hp} (hK : Inv H) (hI : GXs H) {x b s y : Int} (hx : -2147483648 ≤ x ∧ x ≤ 2147483647) (hb : 0 ≤ b ∧ b ≤ 1) (hs : -2147483648 ≤ s ∧ s ≤ 2147483647) (hy : -2147483648 ≤ y ∧ y ≤ 2147483647) : hG (zs zK) d mt_243 0 (zargs 0 [.inr (.inr 1826), .inl x, .inl b, .inl s, .inl y]) [] H (BXs (H.1 2 1) (H.1 1826 28)) := h_mono (us_law (by omega) hI.1.1 hx hb hs hy) (fun _ _ h => GZs_BX hK hI h)
theorem vs_r_hypothesis {d : Nat} (hd : 50 ≤ d) {H : hp} (hK : Inv H) (hI : GXs H) {x b s y : Int} (hx : -2147483648 ≤ x ∧ x ≤ 2147483647) (hb : 0 ≤ b ∧ b ≤ 1) (hs : -2147483648 ≤ s ∧ s ≤ 2147483647) (hy : -2147483648 ≤ y ∧ y ≤ 2147483647) : hG (zs zK) d mt_245 0 (zargs 0 [.inr (.inr 1826), .inl x, .inl b, .inl s, .inl y]) [] H (BXs (H.1 2 1) (H.1 1826 28)) := h_mono (us_hypothesis (by omega) hI.1.1 hx hb hs hy) (fun _ _ h => GZs_BX hK hI h)
theorem vs_r_induction {d : Nat} (hd : 50 ≤ d) {H : hp} (hK : Inv H) (hI : GXs H) {v : Int} (hv : -2147483648 ≤ v ∧ v ≤ 2147483647) : hG (zs zK) d mt_252 0 (zargs 0 [.inr (.inr 1826), .inl v]) [] H (BXs (H.1 2 1) (H.1 1826 28)) := h_mono (us_induction (by omega) hI.1.1 hv) (fun _ _ h => GZs_BX hK hI h)
theorem vs_r_cases {d : Nat} (hd : 50 ≤ d) {H : hp} (hK : Inv H) (hI : GXs H) {s y : Int} (hs : -2147483648 ≤ s ∧ s ≤ 2147483647) (hy : -2147483648 ≤ y ∧ y ≤ 2147483647) : hG (zs zK) d mt_255 0 (zargs 0 [.inr (.inr 1826), .inl s, .inl y]) [] H (BXs (H.1 2 1) (H.1 1826 28)) := h_mono (us_cases (by omega) hI.1.1 hs hy) (fun _ _ h => GZs_BX hK hI h)
theorem vs_r_same {d : Nat} (hd : 50 ≤ d) {H : hp} (hK : Inv H) (hI : GXs H)  : hG (zs zK) d mt_261 0 (zargs 0 [.inr (.inr 1826)]) [] H (BXs (H.1 2 1) (H.1 1826 28)) := h_mono (us_same (by omega) hI.1.1 ) (fun _ _ h => GZs_BX hK hI h)
theorem vs_r_parts {d : Nat} (hd : 50 ≤ d) {H : hp} (hK : Inv H) (hI : GXs H)  : hG (zs zK) d mt_262 0 (zargs 0 [.inr (.inr 1826)]) [] H (BXs (H.1 2 1) (H.1 1826 28)) := h_mono (us_parts (by omega) hI.1.1 ) (fun _ _ h => GZs_BX hK hI h)
theorem vs_r_search {d : Nat} (hd : 50 ≤ d) {H : hp} (hK : Inv H) (hI : GXs H) {x : Int} (hx : -2147483648 ≤ x ∧ x ≤ 2147483647) : hG (zs zK) d mt_266 0 (zargs 0 [.inr (.inr 1826), .inl x]) [] H (BXs (H.1 2 1) (H.1 1826 28)) := h_mono (us_search (by omega) hI.1.1 hx) (fun _ _ h => GZs_BX hK hI h)
theorem vs_r_show {d : Nat} (hd : 50 ≤ d) {H : hp} (hK : Inv H) (hI : GXs H) {k s : Int} (hk : -2147483648 ≤ k ∧ k ≤ 2147483647) (hs : -2147483648 ≤ s ∧ s ≤ 2147483647) : hG (zs zK) d mt_270 0 (zargs 0 [.inr (.inr 1826), .inl k, .inl s]) [] H (BXs (H.1 2 1) (H.1 1826 28)) := h_mono (us_show (by omega) hI.1.1 hk hs) (fun _ _ h => GZs_BX hK hI h)
theorem vs_r_showHypothesis {d : Nat} (hd : 50 ≤ d) {H : hp} (hK : Inv H) (hI : GXs H) {k s : Int} (hk : -2147483648 ≤ k ∧ k ≤ 2147483647) (hs : -2147483648 ≤ s ∧ s ≤ 2147483647) : hG (zs zK) d mt_271 0 (zargs 0 [.inr (.inr 1826), .inl k, .inl s]) [] H (BXs (H.1 2 1) (H.1 1826 28)) := h_mono (us_showHypothesis (by omega) hI.1.1 hk hs) (fun _ _ h => GZs_BX hK hI h)
theorem vs_r_showLaw {d : Nat} (hd : 50 ≤ d) {H : hp} (hK : Inv H) (hI : GXs H) {l s : Int} (hl : -2147483648 ≤ l ∧ l ≤ 2147483647) (hs : -2147483648 ≤ s ∧ s ≤ 2147483647) : hG (zs zK) d mt_272 0 (zargs 0 [.inr (.inr 1826), .inl l, .inl s]) [] H (BXs (H.1 2 1) (H.1 1826 28)) := h_mono (us_showLaw (by omega) hI.1.1 hl hs) (fun _ _ h => GZs_BX hK hI h)
theorem vs_r_printed {d : Nat} (hd : 50 ≤ d) {H : hp} (hK : Inv H) (hI : GXs H) {x : Int} (hx : -2147483648 ≤ x ∧ x ≤ 2147483647) : hG (zs zK) d mt_207 0 (zargs 0 [.inr (.inr 1826), .inl x]) [] H (BXs (H.1 2 1) (H.1 1826 28)) := h_mono (us_printed (by omega) hI.1.1 hx) (fun _ _ h => GZs_BX hK hI h)
theorem us_feed {zC : Nat → Option zsh} {d : Nat} (hd : 12 ≤ d) {H : hp} {x1 x2 x3 x4 x5 : Int} (hI : GI H) : hG (zs zC) d mt_189 0 (zargs 0 [.inr (.inr 1826), .inl x1, .inl x2, .inl x3, .inl x4, .inl x5]) [] H (fun r9 K => ∃ r0 : Int, r9 = some (.inl r0) ∧ GI K ∧ cl H K ∧ (((K.1 1826 0) = 1 ∧ (K.1 1826 28) = (H.1 1826 28) ∧ 980 < (H.1 1826 28) ∧ ft H K) ∨ ((K.1 1826 0) = 0 ∧ (K.1 1826 28) = (H.1 1826 28) + 20 ∧ (H.1 1826 28) ≤ 980 ∧ r0 = (H.1 1826 28) + 20 ∧ FR x1 x2 x3 x4 x5 20 H K ∧ fr [0, 28] [1848] H K)) ∧ (K.1 1826 57) = (H.1 1826 57)) := by
  obtain ⟨hP, ht, hst, hou, hG9, hT⟩ := id hI
  refine h_mono (n_feed (by omega) ht) (fun r K h => ?_)
  obtain ⟨r0, h1, f, h2⟩ := h
  refine ⟨r0, h1, ⟨PWc_fr hP f (by decide) (by decide), by rcases h2 with ⟨-, h3, h4, -⟩ | ⟨-, h3, h4, -⟩ <;> omega, by rw [f.2.2 32 (by decide)]; exact hst, by rw [f.2.2 59 (by decide)]; exact hou, GP_fr hG9 f (by decide) (by decide) (by decide) (by decide), TV_fr hT f (by decide) (by decide) (by decide)⟩, cl_fr f rfl, ?_, f.2.2 57 (by decide)⟩
  rcases h2 with ⟨a, b, c, e⟩ | ⟨a, b, c, e, q⟩
  · refine Or.inl ⟨a, b, c, fun c9 hc => ?_, fun j hj => f.2.2 j (fun m => ?_)⟩
    · by_cases e9 : c9 = 1848
      · rw [e9]; exact e
      · refine f.2.1 c9 (fun q9 => ?_) (fun m => e9 (List.mem_singleton.mp m))
        rw [q9] at hc
        exact absurd hc (by decide)
    · simp only [List.mem_cons, List.not_mem_nil, or_false] at m hj
      omega
  · exact Or.inr ⟨a, b, c, e, q, f⟩
theorem us_end {zC : Nat → Option zsh} {d : Nat} (hd : 12 ≤ d) {H : hp} {x : Int} (hI : GI H) (hx : -2147483648 ≤ x ∧ x ≤ 2147483647) : hG (zs zC) d mt_190 0 (zargs 0 [.inr (.inr 1826), .inl x]) [] H (fun r9 K => r9 = none ∧ GI K ∧ cl H K ∧ (((K.1 1826 0) = 1 ∧ (K.1 1826 28) = (H.1 1826 28) ∧ (x < 0 ∨ (H.1 1826 28) < x)) ∨ ((K.1 1826 0) = 0 ∧ (K.1 1826 28) = x ∧ 0 ≤ x ∧ x ≤ (H.1 1826 28))) ∧ ft H K ∧ (K.1 1826 57) = (H.1 1826 57)) := by
  obtain ⟨hP, ht, hst, hou, hG9, hT⟩ := id hI
  refine h_mono (m_end (by omega) hx ht) (fun r K h => ?_)
  obtain ⟨h1, f, h2⟩ := h
  exact ⟨h1, ⟨PWc_fr hP f (by decide) (by decide), by rcases h2 with ⟨-, h3, h4⟩ | ⟨-, h3, h4, h5⟩ <;> omega, by rw [f.2.2 32 (by decide)]; exact hst, by rw [f.2.2 59 (by decide)]; exact hou, GP_fr hG9 f (by decide) (by decide) (by decide) (by decide), TV_fr hT f (by decide) (by decide) (by decide)⟩, cl_fr f rfl, h2, ft_fr f (by decide) (by decide), f.2.2 57 (by decide)⟩
theorem ws_c_read {d : Nat} (hd : 50 ≤ d) {H : hp} {X : rx} (hI : Inv H) (hg : GI H) (hE : ER H) (hT : TC H X) (h0 : X 0 0 = 0) (hA : TA (H.1 1826 8) H X) (hS : SC H X) (hM : MI X) : hG (zs zK) d mt_3 0 (zargs 0 [.inr (.inr 1)]) [] H (fun r K => ∃ z : Int, r = some (.inl z) ∧ (-2147483648 ≤ z ∧ z ≤ 2147483647) ∧ Inv K ∧ GI K ∧ K.1 2 1 = 0 ∧ (∀ c, 1826 ≤ c → K.1 c = H.1 c) ∧ RX (H.1 3, (H.1 2 1).toNat) X z K ∧ K.1 1 8 = H.1 1 8) := by
  obtain ⟨q1, q2, q3⟩ := TA_P hg.1 hA
  refine h_mono (q_read (by omega) hI hT hE q1 h0 (fun K X1 r => J_all q2 q3 r) (fun n X1 r => V_all h0 r) hS (fun n X1 r => JL_all q2 q3 hM r)) (fun r K h => ?_)
  obtain ⟨z, h1, hr, h3, f, h4, h5⟩ := h
  exact ⟨z, h1, hr, h3, GI_up hg (fq_up f rfl rfl), h4, fq_up f rfl rfl, h5, (f.1 1 8 rfl (by decide) (by decide)).1⟩
theorem ws_r_read {zC : Nat → Option zsh} {d : Nat} (hd : 50 ≤ d) {H : hp} {Y : yx} {X : rx} (hI : GI H) (hB : TB Y H) (h00 : X 0 0 = 0) (hA : TA (H.1 1826 8) H X) (hRS : RS9 H X) (hM : MI X) : hG (zs zC) d mt_192 0 (zargs 0 [.inr (.inr 1826)]) [] H (fun r K => ∃ z : Int, r = some (.inl z) ∧ RQ9 Y X z K ∧ GI K ∧ cl H K ∧ K.1 1826 28 = 0 ∧ K.1 1826 57 = H.1 1826 57) := by
  obtain ⟨hP, ht, hst, hou, hG9, hT⟩ := id hI
  obtain ⟨q1, q2, q3⟩ := TA_P hP hA
  obtain ⟨⟨b1, b2, b3, b4, b5⟩, -⟩ := (id hP : PW H (H.1 1826 1) (H.1 1826 3) (H.1 1826 8) (H.1 1826 13) (H.1 1826 19))
  refine h_mono (n_read (by omega) ht hst hP hB h00 hA q1 q2 q3 hRS hM) (fun r K h => ?_)
  obtain ⟨⟨r0, h1, hRQ⟩, f, h2, h3, ha, hPK, h4⟩ := h
  have hG8 : GP K := by
    obtain ⟨g1, g2, g3, n, g4, g5⟩ := hG9
    have o1 := f.2.1 1871 (by decide) (by decide)
    rcases h4 with h4 | ⟨h4, h5, -⟩
    · exact ⟨by rw [o1]; exact g1, by rw [f.2.2 89 (by decide)]; exact g2, by rw [f.2.2 97 (by decide)]; exact g3, 0, h4, Or.inl rfl⟩
    · refine ⟨by rw [o1]; exact g1, by rw [f.2.2 89 (by decide)]; exact g2, by rw [f.2.2 97 (by decide)]; exact g3, n, h4.trans g4, ?_⟩
      rcases g5 with q | ⟨q1, q2⟩
      · exact Or.inl q
      · refine Or.inr ⟨OS_agp hP ha (RS_s q1 h4 o1 (f.2.1 1872 (by decide) (by decide)) (fun x => ⟨sS_fr f (by decide) x, sH_fr f (by decide) x⟩)), by rw [h5]; exact q2⟩
  exact ⟨r0, h1, hRQ, ⟨hPK, by rw [h2]; decide, h3, by rw [f.2.2 59 (by decide)]; exact hou, hG8, TV_agp hP hT f ha (by decide)⟩, cl_fr f rfl, h2, f.2.2 57 (by decide)⟩
