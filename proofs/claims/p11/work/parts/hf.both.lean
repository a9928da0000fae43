/-! both read: the answers are the same, and so is what was told -/
theorem TA_P {m : Int} {H : hp} {X : rx} (hP : PWc H) (h : TA m H X) : AB X ∧ P0 X ∧ NN X := by
  obtain ⟨⟨b1, b2, b3, b4, b5⟩, p1, p2, -, -⟩ := (id hP : PW H (H.1 1826 1) (H.1 1826 3) (H.1 1826 8) (H.1 1826 13) (H.1 1826 19))
  obtain ⟨⟨a1, -⟩, ⟨a2, c2⟩, ⟨a3, c3⟩, ⟨⟨a4, a5⟩, -⟩, -⟩ := h
  refine ⟨⟨fun k hk => ?_, fun k hk => ?_⟩, ⟨by omega, by omega, by omega, by omega, by omega⟩, fun k hk => ?_, fun k hk => ?_⟩
  · have := (p1 k (by omega)).1
    have := (c2 k hk).2.2.1
    omega
  · have := (p2 k (by omega)).1
    have := (c3 k hk).2.1
    omega
  · have := (p1 k (by omega)).1
    have := (c2 k hk).2.2.1
    omega
  · have := (p2 k (by omega)).1
    have := (c3 k hk).2.1
    omega
theorem TC_sT9 {H : hp} {X X1 : rx} (h : TC H X) (e : sT X X1) : TC H X1 := by
  unfold TC
  rw [e.1 1 (by decide) (by decide), e.1 2 (by decide) (by decide), e.1 3 (by decide) (by decide), e.1 4 (by decide) (by decide), e.1 5 (by decide) (by decide), e.1 6 (by decide) (by decide), e.1 7 (by decide) (by decide), e.1 8 (by decide) (by decide), e.1 9 (by decide) (by decide), e.2.1, e.2.2 3 (by decide) (by decide), e.2.2 4 (by decide) (by decide), e.2.2 5 (by decide) (by decide), e.2.2 6 (by decide) (by decide), e.2.2 7 (by decide) (by decide)]
  exact h
theorem sT_90 (X : rx) (z : Int) : sT X (xu (xu X 0 9 z) 0 0 0) := sT_tr (sT_x0 X z (Or.inr (by decide))) (sT_x0 _ _ (Or.inl (by decide)))
/-- the class reads -/
theorem w_c_read {d : Nat} (hd : 50 ≤ d) {H : hp} {X : rx} (hI : Inv H) (hg : GI H) (hEr : ER H) (hT : TC H X) (h0 : X 0 0 = 0) (hA : TA (H.1 1826 8) H X) (hS : SC H X) (hM : MI X) (hVQ : VRQ H) (hCL : CLw H) : hE d mt_3 [.inr (.inr 1)] H (fun r K => ∃ z : Int, r = some (.inl z) ∧ (-2147483648 ≤ z ∧ z ≤ 2147483647) ∧ Inv K ∧ GI K ∧ K.1 2 1 = 0 ∧ (∀ c, 1826 ≤ c → K.1 c = H.1 c) ∧ RX (H.1 3, (H.1 2 1).toNat) X z K ∧ VRQ K ∧ (TKw H K ∧ CLw K) ∧ K.1 372 10 = H.1 372 10) := by
  obtain ⟨q1, q2, q3⟩ := TA_P hg.1 hA
  refine hE_mono (h_ownw (i := 3) rfl rfl (cl_xsw []) hI hCL (hE_of (q_read (by omega) hI hT hEr q1 h0 (fun K X1 r => J_all q2 q3 r) (fun n X1 r => V_all h0 r) hS (fun n X1 r => JL_all q2 q3 hM r)))) (fun r K h => ?_)
  obtain ⟨⟨z, h1, hr, h3, f, h4, h5⟩, hw9⟩ := h
  exact ⟨z, h1, hr, h3, GI_up hg (fq_up f rfl rfl), h4, fq_up f rfl rfl, h5, VRQ_fq hVQ f (by decide) (by decide), hw9, (f.1 372 10 rfl (by decide) (by decide)).1⟩
/-- the reference reads -/
theorem w_r_read {zC : Nat → Option zsh} {d : Nat} (hd : 50 ≤ d) {H : hp} {Y : yx} {X : rx} (hI : GI H) (hB : TB Y H) (h00 : X 0 0 = 0) (hA : TA (H.1 1826 8) H X) (hRS : RS9 H X) (hM : MI X) : hG (zs zC) d mt_192 0 (zargs 0 [.inr (.inr 1826)]) [] H (fun r K => ∃ z : Int, r = some (.inl z) ∧ RQ9 Y X z K ∧ GI K ∧ cl H K ∧ K.1 1826 28 = 0 ∧ agp H K ∧ K.1 1826 67 = H.1 1826 67 ∧ K.1 1867 = H.1 1867) := by
  obtain ⟨hP, ht, hst, hou, hG9, hT⟩ := id hI
  obtain ⟨q1, q2, q3⟩ := TA_P hP hA
  obtain ⟨⟨b1, b2, b3, b4, b5⟩, -⟩ := (id hP : PW H (H.1 1826 1) (H.1 1826 3) (H.1 1826 8) (H.1 1826 13) (H.1 1826 19))
  refine h_mono (n_read (by omega) ht hst hP hB h00 hA q1 q2 q3 hRS hM) (fun r K h => ?_)
  obtain ⟨⟨r0, h1, hRQ⟩, f, h2, h3, ha, hPK, h4⟩ := h
  have hG8 : GP K := by
    obtain ⟨g1, g2, g3, n, g4, g5⟩ := hG9
    have o1 := f.2.1 1871 (by decide) (by decide)
    rcases h4 with h4 | ⟨h4, h5, -⟩
    · exact ⟨by rw [o1]; exact g1, by rw [f.2.2 89 (by decide)]; exact g2, by rw [f.2.2 97 (by decide)]; exact g3, 0, h4, Or.inl rfl⟩
    · refine ⟨by rw [o1]; exact g1, by rw [f.2.2 89 (by decide)]; exact g2, by rw [f.2.2 97 (by decide)]; exact g3, n, h4.trans g4, ?_⟩
      rcases g5 with q | ⟨q1, q2⟩
      · exact Or.inl q
      · refine Or.inr ⟨OS_agp hP ha (RS_s q1 h4 o1 (f.2.1 1872 (by decide) (by decide)) (fun x => ⟨sS_fr f (by decide) x, sH_fr f (by decide) x⟩)), by rw [h5]; exact q2⟩
  exact ⟨r0, h1, hRQ, ⟨hPK, by rw [h2]; decide, h3, by rw [f.2.2 59 (by decide)]; exact hou, hG8, TV_agp hP hT f ha (by decide)⟩, cl_fr f rfl, h2, ha, f.2.2 67 (by decide), f.2.1 1867 (by decide) (by decide)⟩
theorem read_same {Y : yx} {X : rx} {z z' : Int} {K K2 : hp} (h0 : X 0 0 = 0) (h1 : RX Y X z K) (h2 : RQ9 Y X z' K2) (hc : cl K K2) (hM : MI X ∧ NI X) : z = z' ∧ ER K2 ∧ ∃ X2 : rx, TC K2 X2 ∧ X2 0 0 = 0 ∧ TA (K2.1 1826 8) K2 X2 ∧ SC K2 X2 ∧ (MI X2 ∧ NI X2) ∧ RS9 K2 X2 := by
  have r90 : ∀ (X9 : rx) (z9 : Int) (c : Nat), 100 ≤ c → xu (xu X9 0 9 z9) 0 0 0 c = X9 c := fun X9 z9 c hc9 => (xu_ne _ _ _ (by omega)).trans (xu_ne _ _ _ (by omega))
  rcases h1 with ⟨X1, a1, -, t1, -, e1, s1⟩ | ⟨Xf, k, p, a1, b1, -, t1, e1, s1⟩
  · rcases h2 with ⟨X2, a2, t2, u2⟩ | ⟨Xg, k2, p2, a2, b2, -, t2, u2⟩
    · have e := rch_fin a1 a2 (Or.inl rfl) (Or.inl rfl)
      have e2 : xu X1 0 9 z = xu X2 0 9 z' := congrArg Prod.snd e
      have e3 : z = z' := by
        have q := congrFun (congrFun e2 0) 9
        rw [xu_1, xu_1] at q
        exact q
      refine ⟨e3, ER_cl e1 hc, xu (xu X1 0 9 z) 0 0 0, TC_cl (TC_sT9 t1 (sT_90 X1 z)) hc, xu_1 _ _ _ _, ?_, SC_cl (SC_x s1 (r90 X1 z) rfl rfl rfl rfl) hc, ⟨MI_x (M_rch (q := ([(6, 0, 0, 0)], X)) hM.1 a1) (by omega), NI_x (N_rch (q := ([(6, 0, 0, 0)], X)) hM.2 a1) (by omega)⟩, ?_⟩
      · rw [e2]
        exact TA_sT t2 (sT_90 X2 z')
      · rw [e2]
        exact RS9_x u2 (r90 X2 z') rfl rfl
    · have e := congrArg Prod.fst (rch_fin a1 a2 (Or.inl rfl) (Or.inr ⟨_, _, _, _, rfl⟩))
      cases e
  · rcases h2 with ⟨X2, a2, t2, u2⟩ | ⟨Xg, k2, p2, a2, b2, -, t2, u2⟩
    · have e := congrArg Prod.fst (rch_fin a1 a2 (Or.inr ⟨_, _, _, _, rfl⟩) (Or.inl rfl))
      cases e
    · have e := congrArg Prod.fst (rch_fin a1 a2 (Or.inr ⟨_, _, _, _, rfl⟩) (Or.inr ⟨_, _, _, _, rfl⟩))
      have e2 : [((0 : Nat), k, p, (0 : Int))] = [(0, k2, p2, 0)] := e
      injection e2 with e3 _
      injection e3 with _ e4
      injection e4 with e5 e6
      injection e6 with e7 _
      exact ⟨by rw [b1, b2, e7], ER_cl e1 hc, X, TC_cl t1 hc, h0, t2, SC_cl s1 hc, hM, u2⟩
/-- the class's tape, for the reference -/
theorem TB_of {H K : hp} (h : ∀ j : Nat, (j : Int) < H.1 2 1 → z_and (H.1 1848 j) 255 = H.1 3 j) (hl : H.1 2 1 = H.1 1826 28) (h0 : 0 ≤ H.1 2 1 ∧ H.1 2 1 ≤ 1000) (g : ∀ c, 1826 ≤ c → K.1 c = H.1 c) : TB (H.1 3, (H.1 2 1).toNat) K := by
  refine ⟨⟨?_, ?_⟩, fun j hj => ?_⟩
  · rw [g 1826 (by decide)]
    show H.1 1826 28 = (((H.1 2 1).toNat : Nat) : Int)
    omega
  · show (H.1 2 1).toNat ≤ 1000
    omega
  · have hj : j < (H.1 2 1).toNat := hj
    rw [g 1848 (by decide)]
    exact h j (by omega)
/-- feed, both halves -/
theorem u_feed {zC : Nat → Option zsh} {d : Nat} (hd : 12 ≤ d) {H : hp} {x1 x2 x3 x4 x5 : Int} (hI : GI H) : hG (zs zC) d mt_189 0 (zargs 0 [.inr (.inr 1826), .inl x1, .inl x2, .inl x3, .inl x4, .inl x5]) [] H (fun r9 K => ∃ r0 : Int, r9 = some (.inl r0) ∧ GI K ∧ cl H K ∧ (((K.1 1826 0) = 1 ∧ (K.1 1826 28) = (H.1 1826 28) ∧ 980 < (H.1 1826 28) ∧ ft H K) ∨ ((K.1 1826 0) = 0 ∧ (K.1 1826 28) = (H.1 1826 28) + 20 ∧ (H.1 1826 28) ≤ 980 ∧ r0 = (H.1 1826 28) + 20 ∧ FR x1 x2 x3 x4 x5 20 H K ∧ fr [0, 28] [1848] H K)) ∧ fv H K) := by
  obtain ⟨hP, ht, hst, hou, hG9, hT⟩ := id hI
  refine h_mono (n_feed (by omega) ht) (fun r K h => ?_)
  obtain ⟨r0, h1, f, h2⟩ := h
  refine ⟨r0, h1, ⟨PWc_fr hP f (by decide) (by decide), by rcases h2 with ⟨-, h3, h4, -⟩ | ⟨-, h3, h4, -⟩ <;> omega, by rw [f.2.2 32 (by decide)]; exact hst, by rw [f.2.2 59 (by decide)]; exact hou, GP_fr hG9 f (by decide) (by decide) (by decide) (by decide), TV_fr hT f (by decide) (by decide) (by decide)⟩, cl_fr f rfl, ?_, f.2.2 67 (by decide), f.2.1 1867 (by decide) (by decide)⟩
  rcases h2 with ⟨a, b, c, e⟩ | ⟨a, b, c, e, q⟩
  · refine Or.inl ⟨a, b, c, fun c9 hc => ?_, fun j hj => f.2.2 j (fun m => ?_)⟩
    · by_cases e9 : c9 = 1848
      · rw [e9]; exact e
      · refine f.2.1 c9 (fun q9 => ?_) (fun m => e9 (List.mem_singleton.mp m))
        rw [q9] at hc
        exact absurd hc (by decide)
    · simp only [List.mem_cons, List.not_mem_nil, or_false] at m hj
      omega
  · exact Or.inr ⟨a, b, c, e, q, f⟩
theorem LX_feed {H H1 K : hp} {x1 x2 x3 x4 x5 : Int} (h : LX H) (hl : H.1 2 1 = H.1 1826 28) (h0 : 0 ≤ H.1 2 1) (f : fq [(2, 1)] [3] false H H1) (h1 : H1.1 2 1 = H.1 2 1 + 20) (hd : FD x1 x2 x3 x4 x5 H H1) (hN : NE 0 H H1) (hFN : FN H H1) (g : cl H1 K) (hr : FR x1 x2 x3 x4 x5 20 H1 K) (fr9 : fr [0, 28] [1848] H1 K) : LX K := by
  have gu : ∀ c, 1826 ≤ c → H1.1 c = H.1 c := fq_up f rfl rfl
  obtain ⟨⟨a, ⟨X, b, c, e, s2, s3, s4⟩, q, qv, qc⟩, qt⟩ := h
  refine ⟨⟨ER_cl (ER_fq a f (by decide) (by decide)) g, ⟨X, TC_cl (TC_fq b f (by decide) (by decide) (fq_nm f)) g, c, ?_, SC_cl (SC_fr s2 hN) g, s3, RS9_fr (RS9_ft s4 (ft_up gu)) fr9 (by decide)⟩, fun j hj => ?_, VRQ_cl (VRQ_fq qv f (by decide) (by decide)) g, CL_cl (show CLw H1 by unfold CLw; rw [hFN.1]; exact qc) g⟩, TOx_e (TOx_c qt (fun v hv => ⟨hFN.2 _ _ (by omega), fun j hj => hFN.2 _ _ (by omega)⟩) (hFN.2 _ _ (by decide)) gu) g (show fv H1 K from ⟨fr9.2.2 67 (by decide), fr9.2.1 1867 (by decide) (by decide)⟩) (fr9.2.2 3 (by decide)) (fr9.2.2 19 (by decide)) (fr9.2.1 1845 (by decide) (by decide)) (fr9.2.1 1830 (by decide) (by decide)) (fr9.2.1 1833 (by decide) (by decide))⟩
  · have e1 : TA (H.1 1826 8) H1 X := TA_same e (ft_up gu)
    rw [fr9.2.2 8 (by decide), gu 1826 (by decide)]
    exact TA_fr e1 fr9 (by decide) (by decide)
  · rw [g.2 2 (by decide), h1] at hj
    rw [g.2 3 (by decide)]
    have e28 : H1.1 1826 28 = H.1 2 1 := by rw [gu 1826 (by decide), hl]
    by_cases hj2 : (j : Int) < H.1 2 1
    · rw [hd.1 j hj2, hr.1 j (by omega), gu 1848 (by decide)]
      exact q j hj2
    · obtain ⟨i, hi⟩ : ∃ i : Nat, (j : Int) = H.1 2 1 + i := ⟨((j : Int) - H.1 2 1).toNat, by omega⟩
      have e1 := hd.2 i (by omega)
      have e2 := hr.2 i (by omega)
      rw [e28, ← hi] at e2
      rw [← hi] at e1
      exact e2.trans e1.symm
/-- end, both halves -/
theorem u_end {zC : Nat → Option zsh} {d : Nat} (hd : 12 ≤ d) {H : hp} {x : Int} (hI : GI H) (hx : -2147483648 ≤ x ∧ x ≤ 2147483647) : hG (zs zC) d mt_190 0 (zargs 0 [.inr (.inr 1826), .inl x]) [] H (fun r9 K => r9 = none ∧ GI K ∧ cl H K ∧ (((K.1 1826 0) = 1 ∧ (K.1 1826 28) = (H.1 1826 28) ∧ (x < 0 ∨ (H.1 1826 28) < x)) ∨ ((K.1 1826 0) = 0 ∧ (K.1 1826 28) = x ∧ 0 ≤ x ∧ x ≤ (H.1 1826 28))) ∧ ft H K ∧ fv H K) := by
  obtain ⟨hP, ht, hst, hou, hG9, hT⟩ := id hI
  refine h_mono (m_end (by omega) hx ht) (fun r K h => ?_)
  obtain ⟨h1, f, h2⟩ := h
  exact ⟨h1, ⟨PWc_fr hP f (by decide) (by decide), by rcases h2 with ⟨-, h3, h4⟩ | ⟨-, h3, h4, h5⟩ <;> omega, by rw [f.2.2 32 (by decide)]; exact hst, by rw [f.2.2 59 (by decide)]; exact hou, GP_fr hG9 f (by decide) (by decide) (by decide) (by decide), TV_fr hT f (by decide) (by decide) (by decide)⟩, cl_fr f rfl, h2, ft_fr f (by decide) (by decide), f.2.2 67 (by decide), f.2.1 1867 (by decide) (by decide)⟩
theorem LX_end {H H1 : hp} {a : Int} (h : LX H) (f : fq [(2, 1)] [] false H H1) (h1 : H1.1 2 1 = a) (ha : a ≤ H.1 2 1) (hN : NE 0 H H1) (hFN : FN H H1) : LX H1 := by
  have gu : ∀ c, 1826 ≤ c → H1.1 c = H.1 c := fq_up f rfl rfl
  obtain ⟨⟨q1, ⟨X, b, c, e, s2, s3, s4⟩, q, qv, qc⟩, qt⟩ := h
  refine ⟨⟨ER_fq q1 f (by decide) (by decide), ⟨X, TC_fq b f (by decide) (by decide) (fq_nm f), c, ?_, SC_fr s2 hN, s3, RS9_ft s4 (ft_up gu)⟩, fun j hj => ?_, VRQ_fq qv f (by decide) (by decide), (show CLw H1 by unfold CLw; rw [hFN.1]; exact qc)⟩, TOx_c qt (fun v hv => ⟨hFN.2 _ _ (by omega), fun j hj => hFN.2 _ _ (by omega)⟩) (hFN.2 _ _ (by decide)) gu⟩
  · rw [gu 1826 (by decide)]
    exact TA_same e (ft_up gu)
  · rw [gu 1848 (by decide), (f.1 3 j rfl (by decide) (fun m => by simp at m)).1]
    exact q j (by omega)
