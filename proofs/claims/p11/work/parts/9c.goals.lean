/-! the reference: the type of a place -/
def stk (H : hp) (ou no : Nat → Int) (dp : Nat) : Prop := ∀ x, x < dp → m_sg (H.1 1826 3) (H.1 1826 8) 60 (ou x) ∧ 0 ≤ no x ∧ no x ≤ ma (H.1 1833) (H.1 1830) (ou x)
theorem stk_le {H : hp} {ou no : Nat → Int} {dp e : Nat} (h : stk H ou no dp) (he : e ≤ dp) : stk H ou no e := fun x hx => h x (by omega)
theorem stk_push {H : hp} {ou no : Nat → Int} {dp : Nat} {s : Int} (h : stk H ou no dp) (hs : m_sg (H.1 1826 3) (H.1 1826 8) 60 s) (ha : 0 ≤ ma (H.1 1833) (H.1 1830) s) : stk H (up ou dp s) (up no dp 0) (dp + 1) := by
  intro x hx
  by_cases e : x = dp
  · rw [e, up_eq, up_eq]
    exact ⟨hs, by omega, ha⟩
  · rw [up_ne _ _ e, up_ne _ _ e]
    exact h x (by omega)
theorem stk_inc {H : hp} {ou no : Nat → Int} {dp e : Nat} (h : stk H ou no dp) (he : e < dp) (hn : no e ≠ ma (H.1 1833) (H.1 1830) (ou e)) : stk H ou (up no e (no e + 1)) dp := by
  intro x hx
  have h9 := h x hx
  by_cases q : x = e
  · rw [q, up_eq]
    rw [q] at h9
    exact ⟨h9.1, by omega, by omega⟩
  · rw [up_ne _ _ q]
    exact h9
theorem ma_nn {H : hp} (hP : PWc H) {s : Int} (hs : m_sg (H.1 1826 3) (H.1 1826 8) 60 s) : 0 ≤ ma (H.1 1833) (H.1 1830) s := by
  unfold m_sg at hs
  by_cases h : (1 ≤ s ∧ s ≤ (H.1 1826 3)) ∨ (100 ≤ s ∧ s < 100 + (H.1 1826 8) ∧ s < 1000)
  · obtain ⟨h1, -, -⟩ := sg_ar hP (s := s) (by omega)
    exact h1.1
  · rw [ma_0 (by omega)]
    omega

/-! typeAt -/
set_option maxRecDepth 100000 in
theorem m_typeAt_cut {zC : Nat → Option zsh} {d : Nat} (hd : 2 ≤ d) {H : hp} {root : Int} {pl N : Nat} (hP : PWc H) (hT : tm (ma (H.1 1833) (H.1 1830)) (m_sg (H.1 1826 3) (H.1 1826 8) 60) (H.1 1884) N 0 1) (hN : N ≤ 60 ∧ pl < N) : ∀ w : Nat, (∀ (H1 : hp) (dp : Nat) (ty : Int) (i : Nat), (fr [] [1852, 1853] H H1) → (i ≤ pl + 1 ∧ dp ≤ i) → (stk H (H1.1 1852) (H1.1 1853) dp) → 1000 * (pl + 1 - i) + 500 < w → hG (zs zC) d mt_231 8 [(0, .inr (.inr 1826)), (1, .inl root), (2, .inl (pl : Int)), (3, .inl (dp : Int)), (4, .inl ty), (5, .inl (i : Int))] [] H1 (fun r9 H2 => (∃ r0 : Int, r9 = some (.inl r0)) ∧ fr [] [1852, 1853] H H2)) ∧ (∀ (H1 : hp) (dp : Nat) (ty : Int) (i : Nat), (fr [] [1852, 1853] H H1) → (i ≤ pl + 1 ∧ dp ≤ i) → (i ≤ pl) → (stk H (H1.1 1852) (H1.1 1853) dp) → 1000 * (pl + 1 - i) + dp < w → hG (zs zC) d mt_231 14 [(0, .inr (.inr 1826)), (1, .inl root), (2, .inl (pl : Int)), (3, .inl (dp : Int)), (4, .inl ty), (5, .inl (i : Int))] [] H1 (fun r9 H2 => (∃ r0 : Int, r9 = some (.inl r0)) ∧ fr [] [1852, 1853] H H2)) := by
  intro w
  induction w with
  | zero => exact ⟨fun _ _ _ _ _ _ _ h => absurd h (Nat.not_lt_zero _), fun _ _ _ _ _ _ _ _ h => absurd h (Nat.not_lt_zero _)⟩
  | succ w ih =>
    refine ⟨?_, ?_⟩
    · intro H1 dp ty i hf hi hs hw
      refine h_rng (fun hrg1 => ?_)
      obtain ⟨⟨pb1, pb2, pb3, pb4, pb5⟩, pw1, pw2, pw3, pw4⟩ := (id hP : PW H (H.1 1826 1) (H.1 1826 3) (H.1 1826 8) (H.1 1826 13) (H.1 1826 19))
      have hP1 := PWc_fr hP hf (by decide) (by decide)
      have e_funArity : (H1.1 1833) = (H.1 1833) := hf.2.1 1833 (by decide) (by decide)
      have e_conArity : (H1.1 1830) = (H.1 1830) := hf.2.1 1830 (by decide) (by decide)
      have e_now : (H1.1 1884) = (H.1 1884) := hf.2.1 1884 (by decide) (by decide)
      have f_cons : (H1.1 1826 3) = (H.1 1826 3) := hf.2.2 3 (by decide)
      have f_funs : (H1.1 1826 8) = (H.1 1826 8) := hf.2.2 8 (by decide)
      refine h_run 2 (pc' := 11) (l' := [(0, .inr (.inr 1826)), (1, .inl root), (2, .inl (pl : Int)), (3, .inl (dp : Int)), (4, .inl ty), (5, .inl (i : Int))]) (st' := [.inl (pl : Int), .inl (i : Int)]) rfl ?_
      refine h_igt (off := 111) (t := 122) rfl rfl (by omega) (by omega) (fun c2 => ?_) (fun c2 => ?_)
      · refine h_run 1 (pc' := 124) (l' := [(0, .inr (.inr 1826)), (1, .inl root), (2, .inl (pl : Int)), (3, .inl (dp : Int)), (4, .inl ty), (5, .inl (i : Int))]) (st' := [.inl ty]) rfl ?_
        refine h_reti (x := ty) rfl rfl ?_
        exact ⟨⟨_, rfl⟩, hf⟩
      · exact ih.2 _ dp ty i hf (by omega) (by omega) hs (by omega : 1000 * (pl + 1 - i) + dp < w)
    · intro H1 dp ty i hf hi hip hs hw
      refine h_rng (fun hrg3 => ?_)
      obtain ⟨⟨pb1, pb2, pb3, pb4, pb5⟩, pw1, pw2, pw3, pw4⟩ := (id hP : PW H (H.1 1826 1) (H.1 1826 3) (H.1 1826 8) (H.1 1826 13) (H.1 1826 19))
      have hP1 := PWc_fr hP hf (by decide) (by decide)
      have e_funArity : (H1.1 1833) = (H.1 1833) := hf.2.1 1833 (by decide) (by decide)
      have e_conArity : (H1.1 1830) = (H.1 1830) := hf.2.1 1830 (by decide) (by decide)
      have e_now : (H1.1 1884) = (H.1 1884) := hf.2.1 1884 (by decide) (by decide)
      have f_cons : (H1.1 1826 3) = (H.1 1826 3) := hf.2.2 3 (by decide)
      have f_funs : (H1.1 1826 8) = (H.1 1826 8) := hf.2.2 8 (by decide)
      have hsx := tm_ok hT i (by omega)
      rw [Nat.zero_add] at hsx
      have hax := ma_nn hP hsx
      refine h_run 1 (pc' := 15) (l' := [(0, .inr (.inr 1826)), (1, .inl root), (2, .inl (pl : Int)), (3, .inl (dp : Int)), (4, .inl ty), (5, .inl (i : Int))]) (st' := [.inl (dp : Int)]) rfl ?_
      refine h_zle (off := 32) (t := 47) rfl rfl (by omega) (fun c4 => ?_) (fun c4 => ?_)
      · refine h_run 1 (pc' := 48) (l' := [(0, .inr (.inr 1826)), (1, .inl root), (2, .inl (pl : Int)), (3, .inl (dp : Int)), (4, .inl ty), (5, .inl (i : Int))]) (st' := [.inl (dp : Int)]) rfl ?_
        refine h_zne (off := 7) (t := 55) rfl rfl (by omega) (fun c5 => ?_) (fun c5 => ?_)
        · have hne : (H1.1 1853) ((dp : Int) - 1).toNat ≠ ma (H1.1 1833) (H1.1 1830) ((H1.1 1852) ((dp : Int) - 1).toNat) := by omega
          refine h_run 6 (pc' := 63) (l' := [(0, .inr (.inr 1826)), (1, .inl root), (2, .inl (pl : Int)), (3, .inl (dp : Int)), (4, .inl ty), (5, .inl (i : Int))]) (st' := [.inl ((dp : Int) - 1), .inr (.inr 1852), .inr (.inr 1826)]) rfl ?_
          refine h_ild (c := 1852) (j := (((dp : Int) - 1)).toNat) (i := ((dp : Int) - 1)) rfl rfl (by decide) (by omega) (by omega) ?_
          have g6 : -2147483648 ≤ (H1.1 1852 (((dp : Int) - 1)).toNat) ∧ (H1.1 1852 (((dp : Int) - 1)).toNat) ≤ 2147483647 := hrg3.2 1852 (((dp : Int) - 1)).toNat 64 .int rfl (by omega)
          refine h_run 0 (pc' := 64) (l' := [(0, .inr (.inr 1826)), (1, .inl root), (2, .inl (pl : Int)), (3, .inl (dp : Int)), (4, .inl ty), (5, .inl (i : Int))]) (st' := [.inl (H1.1 1852 (((dp : Int) - 1)).toNat), .inr (.inr 1826)]) rfl ?_
          refine h_run 5 (pc' := 71) (l' := [(0, .inr (.inr 1826)), (1, .inl root), (2, .inl (pl : Int)), (3, .inl (dp : Int)), (4, .inl ty), (5, .inl (i : Int))]) (st' := [.inl ((dp : Int) - 1), .inr (.inr 1853), .inl (H1.1 1852 (((dp : Int) - 1)).toNat), .inr (.inr 1826)]) rfl ?_
          refine h_ild (c := 1853) (j := (((dp : Int) - 1)).toNat) (i := ((dp : Int) - 1)) rfl rfl (by decide) (by omega) (by omega) ?_
          have g7 : -2147483648 ≤ (H1.1 1853 (((dp : Int) - 1)).toNat) ∧ (H1.1 1853 (((dp : Int) - 1)).toNat) ≤ 2147483647 := hrg3.2 1853 (((dp : Int) - 1)).toNat 64 .int rfl (by omega)
          refine h_run 0 (pc' := 72) (l' := [(0, .inr (.inr 1826)), (1, .inl root), (2, .inl (pl : Int)), (3, .inl (dp : Int)), (4, .inl ty), (5, .inl (i : Int))]) (st' := [.inl (H1.1 1853 (((dp : Int) - 1)).toNat), .inl (H1.1 1852 (((dp : Int) - 1)).toNat), .inr (.inr 1826)]) rfl ?_
          refine h_cv (i := 331) (j := 175) (b := 1826) (M' := mt_175) (xs := [.inl (H1.1 1853 (((dp : Int) - 1)).toNat), .inl (H1.1 1852 (((dp : Int) - 1)).toNat)]) (rest := []) rfl rfl rfl rfl rfl rfl (Nat.le_of_ble_eq_true rfl) (Nat.le_of_ble_eq_true rfl) (by omega) (m_argType (by omega) (by omega)) ?_
          rintro _ _ ⟨rfl, rfl⟩
          refine h_run 0 (pc' := 75) (l' := [(0, .inr (.inr 1826)), (1, .inl root), (2, .inl (pl : Int)), (3, .inl (dp : Int)), (4, .inl ty), (5, .inl (i : Int))]) (st' := [.inl (aty H1 (H1.1 1852 (((dp : Int) - 1)).toNat) (H1.1 1853 (((dp : Int) - 1)).toNat))]) rfl ?_
          refine h_run 2 (pc' := 78) (l' := [(0, .inr (.inr 1826)), (1, .inl root), (2, .inl (pl : Int)), (3, .inl (dp : Int)), (4, .inl (aty H1 (H1.1 1852 (((dp : Int) - 1)).toNat) (H1.1 1853 (((dp : Int) - 1)).toNat))), (5, .inl (i : Int))]) (st' := [.inl (dp : Int)]) rfl ?_
          refine h_zle (off := 15) (t := 93) rfl rfl (by omega) (fun c8 => ?_) (fun c8 => ?_)
          · refine h_run 6 (pc' := 104) (l' := [(0, .inr (.inr 1826)), (1, .inl root), (2, .inl (pl : Int)), (3, .inl (dp : Int)), (4, .inl (aty H1 (H1.1 1852 (((dp : Int) - 1)).toNat) (H1.1 1853 (((dp : Int) - 1)).toNat))), (5, .inl (i : Int))]) (st' := [.inl (i : Int), .inr (.inr 1884), .inl (dp : Int), .inr (.inr 1852)]) rfl ?_
            refine h_ild (c := 1884) (j := i) (i := (i : Int)) rfl rfl (by decide) rfl (by omega) ?_
            have g9 : -2147483648 ≤ (H1.1 1884 i) ∧ (H1.1 1884 i) ≤ 2147483647 := hrg3.2 1884 i 128 .int rfl (by omega)
            have e10 : (H1.1 1884 i) = (H.1 1884 i) := congrFun (hf.2.1 1884 (by decide) (by decide)) i
            refine h_run 0 (pc' := 105) (l' := [(0, .inr (.inr 1826)), (1, .inl root), (2, .inl (pl : Int)), (3, .inl (dp : Int)), (4, .inl (aty H1 (H1.1 1852 (((dp : Int) - 1)).toNat) (H1.1 1853 (((dp : Int) - 1)).toNat))), (5, .inl (i : Int))]) (st' := [.inl (H1.1 1884 i), .inl (dp : Int), .inr (.inr 1852)]) rfl ?_
            refine h_ist (c := 1852) (j := dp) (i := (dp : Int)) (x := (H1.1 1884 i)) rfl rfl (by decide) (by decide) rfl (by omega) (by omega) ?_
            refine h_run 4 (pc' := 112) (l' := [(0, .inr (.inr 1826)), (1, .inl root), (2, .inl (pl : Int)), (3, .inl (dp : Int)), (4, .inl (aty H1 (H1.1 1852 (((dp : Int) - 1)).toNat) (H1.1 1853 (((dp : Int) - 1)).toNat))), (5, .inl (i : Int))]) (st' := [.inl 0, .inl (dp : Int), .inr (.inr 1853)]) rfl ?_
            refine h_ist (c := 1853) (j := dp) (i := (dp : Int)) (x := 0) rfl rfl (by decide) (by decide) rfl (by omega) (by decide) ?_
            refine h_run 3 (pc' := 8) (l' := [(0, .inr (.inr 1826)), (1, .inl root), (2, .inl (pl : Int)), (3, .inl ((dp : Int) + 1)), (4, .inl (aty H1 (H1.1 1852 (((dp : Int) - 1)).toNat) (H1.1 1853 (((dp : Int) - 1)).toNat))), (5, .inl ((i : Int) + 1))]) (st' := []) rfl ?_
            rw [show ((dp : Int) + 1) = (((dp + 1) : Nat) : Int) by omega]
            rw [show ((i : Int) + 1) = (((i + 1) : Nat) : Int) by omega]
            exact ih.1 _ (dp + 1) (aty H1 (H1.1 1852 (((dp : Int) - 1)).toNat) (H1.1 1853 (((dp : Int) - 1)).toNat)) (i + 1) (fr_a (fr_a hf (by decide)) (by decide)) (by omega) (by show stk H (up (H1.1 1852) dp ((H1.1 1884) i)) (up (H1.1 1853) dp 0) (dp + 1); rw [e_now]; exact stk_push hs hsx hax) (by omega : 1000 * (pl + 1 - (i + 1)) + 500 < w)
          · exfalso
            omega
        · refine h_run 4 (pc' := 78) (l' := [(0, .inr (.inr 1826)), (1, .inl root), (2, .inl (pl : Int)), (3, .inl (dp : Int)), (4, .inl root), (5, .inl (i : Int))]) (st' := [.inl (dp : Int)]) rfl ?_
          refine h_zle (off := 15) (t := 93) rfl rfl (by omega) (fun c11 => ?_) (fun c11 => ?_)
          · refine h_run 6 (pc' := 104) (l' := [(0, .inr (.inr 1826)), (1, .inl root), (2, .inl (pl : Int)), (3, .inl (dp : Int)), (4, .inl root), (5, .inl (i : Int))]) (st' := [.inl (i : Int), .inr (.inr 1884), .inl (dp : Int), .inr (.inr 1852)]) rfl ?_
            refine h_ild (c := 1884) (j := i) (i := (i : Int)) rfl rfl (by decide) rfl (by omega) ?_
            have g12 : -2147483648 ≤ (H1.1 1884 i) ∧ (H1.1 1884 i) ≤ 2147483647 := hrg3.2 1884 i 128 .int rfl (by omega)
            have e13 : (H1.1 1884 i) = (H.1 1884 i) := congrFun (hf.2.1 1884 (by decide) (by decide)) i
            refine h_run 0 (pc' := 105) (l' := [(0, .inr (.inr 1826)), (1, .inl root), (2, .inl (pl : Int)), (3, .inl (dp : Int)), (4, .inl root), (5, .inl (i : Int))]) (st' := [.inl (H1.1 1884 i), .inl (dp : Int), .inr (.inr 1852)]) rfl ?_
            refine h_ist (c := 1852) (j := dp) (i := (dp : Int)) (x := (H1.1 1884 i)) rfl rfl (by decide) (by decide) rfl (by omega) (by omega) ?_
            refine h_run 4 (pc' := 112) (l' := [(0, .inr (.inr 1826)), (1, .inl root), (2, .inl (pl : Int)), (3, .inl (dp : Int)), (4, .inl root), (5, .inl (i : Int))]) (st' := [.inl 0, .inl (dp : Int), .inr (.inr 1853)]) rfl ?_
            refine h_ist (c := 1853) (j := dp) (i := (dp : Int)) (x := 0) rfl rfl (by decide) (by decide) rfl (by omega) (by decide) ?_
            refine h_run 3 (pc' := 8) (l' := [(0, .inr (.inr 1826)), (1, .inl root), (2, .inl (pl : Int)), (3, .inl ((dp : Int) + 1)), (4, .inl root), (5, .inl ((i : Int) + 1))]) (st' := []) rfl ?_
            rw [show ((dp : Int) + 1) = (((dp + 1) : Nat) : Int) by omega]
            rw [show ((i : Int) + 1) = (((i + 1) : Nat) : Int) by omega]
            exact ih.1 _ (dp + 1) root (i + 1) (fr_a (fr_a hf (by decide)) (by decide)) (by omega) (by show stk H (up (H1.1 1852) dp ((H1.1 1884) i)) (up (H1.1 1853) dp 0) (dp + 1); rw [e_now]; exact stk_push hs hsx hax) (by omega : 1000 * (pl + 1 - (i + 1)) + 500 < w)
          · exfalso
            omega
      · obtain ⟨q1, q2, q3⟩ := hs ((dp : Int) - 1).toNat (by omega)
        have hs9 : sg0 ((H1.1 1852) ((dp : Int) - 1).toNat) := by unfold m_sg at q1; unfold sg0; omega
        have q3x : (H1.1 1853) ((dp : Int) - 1).toNat ≤ ma (H1.1 1833) (H1.1 1830) ((H1.1 1852) ((dp : Int) - 1).toNat) := by rw [e_funArity, e_conArity]; exact q3
        have hr1 : ma (H1.1 1833) (H1.1 1830) ((H1.1 1852) ((dp : Int) - 1).toNat) = 0 ∨ ((1 ≤ (H1.1 1852) ((dp : Int) - 1).toNat ∧ (H1.1 1852) ((dp : Int) - 1).toNat ≤ (H1.1 1826 3)) ∨ (100 ≤ (H1.1 1852) ((dp : Int) - 1).toNat ∧ (H1.1 1852) ((dp : Int) - 1).toNat < 100 + (H1.1 1826 8))) := by unfold m_sg at q1; by_cases h9 : (1 ≤ (H1.1 1852) ((dp : Int) - 1).toNat ∧ (H1.1 1852) ((dp : Int) - 1).toNat ≤ (H.1 1826 3)) ∨ (100 ≤ (H1.1 1852) ((dp : Int) - 1).toNat ∧ (H1.1 1852) ((dp : Int) - 1).toNat < 100 + (H.1 1826 8)); { exact Or.inr (by omega) }; { exact Or.inl (ma_0 (by omega)) }
        have hr2 : 0 ≤ ma (H1.1 1833) (H1.1 1830) ((H1.1 1852) ((dp : Int) - 1).toNat) ∧ ma (H1.1 1833) (H1.1 1830) ((H1.1 1852) ((dp : Int) - 1).toNat) ≤ 4 ∧ ((H1.1 1852) ((dp : Int) - 1).toNat ≤ 16 → ma (H1.1 1833) (H1.1 1830) ((H1.1 1852) ((dp : Int) - 1).toNat) ≤ 3) := by rcases hr1 with h9 | h9; { omega }; { obtain ⟨x1, x2, -⟩ := sg_ar hP1 h9; exact ⟨x1.1, x1.2, x2⟩ }
        refine h_run 5 (pc' := 25) (l' := [(0, .inr (.inr 1826)), (1, .inl root), (2, .inl (pl : Int)), (3, .inl (dp : Int)), (4, .inl ty), (5, .inl (i : Int))]) (st' := [.inl ((dp : Int) - 1), .inr (.inr 1853)]) rfl ?_
        refine h_ild (c := 1853) (j := (((dp : Int) - 1)).toNat) (i := ((dp : Int) - 1)) rfl rfl (by decide) (by omega) (by omega) ?_
        have g14 : -2147483648 ≤ (H1.1 1853 (((dp : Int) - 1)).toNat) ∧ (H1.1 1853 (((dp : Int) - 1)).toNat) ≤ 2147483647 := hrg3.2 1853 (((dp : Int) - 1)).toNat 64 .int rfl (by omega)
        refine h_run 0 (pc' := 26) (l' := [(0, .inr (.inr 1826)), (1, .inl root), (2, .inl (pl : Int)), (3, .inl (dp : Int)), (4, .inl ty), (5, .inl (i : Int))]) (st' := [.inl (H1.1 1853 (((dp : Int) - 1)).toNat)]) rfl ?_
        refine h_run 6 (pc' := 34) (l' := [(0, .inr (.inr 1826)), (1, .inl root), (2, .inl (pl : Int)), (3, .inl (dp : Int)), (4, .inl ty), (5, .inl (i : Int))]) (st' := [.inl ((dp : Int) - 1), .inr (.inr 1852), .inr (.inr 1826), .inl (H1.1 1853 (((dp : Int) - 1)).toNat)]) rfl ?_
        refine h_ild (c := 1852) (j := (((dp : Int) - 1)).toNat) (i := ((dp : Int) - 1)) rfl rfl (by decide) (by omega) (by omega) ?_
        have g15 : -2147483648 ≤ (H1.1 1852 (((dp : Int) - 1)).toNat) ∧ (H1.1 1852 (((dp : Int) - 1)).toNat) ≤ 2147483647 := hrg3.2 1852 (((dp : Int) - 1)).toNat 64 .int rfl (by omega)
        refine h_run 0 (pc' := 35) (l' := [(0, .inr (.inr 1826)), (1, .inl root), (2, .inl (pl : Int)), (3, .inl (dp : Int)), (4, .inl ty), (5, .inl (i : Int))]) (st' := [.inl (H1.1 1852 (((dp : Int) - 1)).toNat), .inr (.inr 1826), .inl (H1.1 1853 (((dp : Int) - 1)).toNat)]) rfl ?_
        refine h_cv (i := 244) (j := 154) (b := 1826) (M' := mt_154) (xs := [.inl (H1.1 1852 (((dp : Int) - 1)).toNat)]) (rest := [.inl (H1.1 1853 (((dp : Int) - 1)).toNat)]) rfl rfl rfl rfl rfl rfl (Nat.le_of_ble_eq_true rfl) (Nat.le_of_ble_eq_true rfl) (by omega) (m_arity (by omega) hs9) ?_
        rintro _ _ ⟨rfl, rfl⟩
        refine h_run 0 (pc' := 38) (l' := [(0, .inr (.inr 1826)), (1, .inl root), (2, .inl (pl : Int)), (3, .inl (dp : Int)), (4, .inl ty), (5, .inl (i : Int))]) (st' := [.inl (ma (H1.1 1833) (H1.1 1830) (H1.1 1852 (((dp : Int) - 1)).toNat)), .inl (H1.1 1853 (((dp : Int) - 1)).toNat)]) rfl ?_
        refine h_ine (off := 9) (t := 47) rfl rfl (by omega) (by omega) (fun c16 => ?_) (fun c16 => ?_)
        · refine h_run 1 (pc' := 48) (l' := [(0, .inr (.inr 1826)), (1, .inl root), (2, .inl (pl : Int)), (3, .inl (dp : Int)), (4, .inl ty), (5, .inl (i : Int))]) (st' := [.inl (dp : Int)]) rfl ?_
          refine h_zne (off := 7) (t := 55) rfl rfl (by omega) (fun c17 => ?_) (fun c17 => ?_)
          · have hne : (H1.1 1853) ((dp : Int) - 1).toNat ≠ ma (H1.1 1833) (H1.1 1830) ((H1.1 1852) ((dp : Int) - 1).toNat) := by omega
            refine h_run 6 (pc' := 63) (l' := [(0, .inr (.inr 1826)), (1, .inl root), (2, .inl (pl : Int)), (3, .inl (dp : Int)), (4, .inl ty), (5, .inl (i : Int))]) (st' := [.inl ((dp : Int) - 1), .inr (.inr 1852), .inr (.inr 1826)]) rfl ?_
            refine h_ild (c := 1852) (j := (((dp : Int) - 1)).toNat) (i := ((dp : Int) - 1)) rfl rfl (by decide) (by omega) (by omega) ?_
            refine h_run 0 (pc' := 64) (l' := [(0, .inr (.inr 1826)), (1, .inl root), (2, .inl (pl : Int)), (3, .inl (dp : Int)), (4, .inl ty), (5, .inl (i : Int))]) (st' := [.inl (H1.1 1852 (((dp : Int) - 1)).toNat), .inr (.inr 1826)]) rfl ?_
            refine h_run 5 (pc' := 71) (l' := [(0, .inr (.inr 1826)), (1, .inl root), (2, .inl (pl : Int)), (3, .inl (dp : Int)), (4, .inl ty), (5, .inl (i : Int))]) (st' := [.inl ((dp : Int) - 1), .inr (.inr 1853), .inl (H1.1 1852 (((dp : Int) - 1)).toNat), .inr (.inr 1826)]) rfl ?_
            refine h_ild (c := 1853) (j := (((dp : Int) - 1)).toNat) (i := ((dp : Int) - 1)) rfl rfl (by decide) (by omega) (by omega) ?_
            refine h_run 0 (pc' := 72) (l' := [(0, .inr (.inr 1826)), (1, .inl root), (2, .inl (pl : Int)), (3, .inl (dp : Int)), (4, .inl ty), (5, .inl (i : Int))]) (st' := [.inl (H1.1 1853 (((dp : Int) - 1)).toNat), .inl (H1.1 1852 (((dp : Int) - 1)).toNat), .inr (.inr 1826)]) rfl ?_
            refine h_cv (i := 331) (j := 175) (b := 1826) (M' := mt_175) (xs := [.inl (H1.1 1853 (((dp : Int) - 1)).toNat), .inl (H1.1 1852 (((dp : Int) - 1)).toNat)]) (rest := []) rfl rfl rfl rfl rfl rfl (Nat.le_of_ble_eq_true rfl) (Nat.le_of_ble_eq_true rfl) (by omega) (m_argType (by omega) (by omega)) ?_
            rintro _ _ ⟨rfl, rfl⟩
            refine h_run 0 (pc' := 75) (l' := [(0, .inr (.inr 1826)), (1, .inl root), (2, .inl (pl : Int)), (3, .inl (dp : Int)), (4, .inl ty), (5, .inl (i : Int))]) (st' := [.inl (aty H1 (H1.1 1852 (((dp : Int) - 1)).toNat) (H1.1 1853 (((dp : Int) - 1)).toNat))]) rfl ?_
            refine h_run 2 (pc' := 78) (l' := [(0, .inr (.inr 1826)), (1, .inl root), (2, .inl (pl : Int)), (3, .inl (dp : Int)), (4, .inl (aty H1 (H1.1 1852 (((dp : Int) - 1)).toNat) (H1.1 1853 (((dp : Int) - 1)).toNat))), (5, .inl (i : Int))]) (st' := [.inl (dp : Int)]) rfl ?_
            refine h_zle (off := 15) (t := 93) rfl rfl (by omega) (fun c18 => ?_) (fun c18 => ?_)
            · exfalso
              omega
            · refine h_run 6 (pc' := 89) (l' := [(0, .inr (.inr 1826)), (1, .inl root), (2, .inl (pl : Int)), (3, .inl (dp : Int)), (4, .inl (aty H1 (H1.1 1852 (((dp : Int) - 1)).toNat) (H1.1 1853 (((dp : Int) - 1)).toNat))), (5, .inl (i : Int))]) (st' := [.inl ((dp : Int) - 1), .inr (.inr 1853), .inl ((dp : Int) - 1), .inr (.inr 1853)]) rfl ?_
              refine h_ild (c := 1853) (j := (((dp : Int) - 1)).toNat) (i := ((dp : Int) - 1)) rfl rfl (by decide) (by omega) (by omega) ?_
              refine h_run 0 (pc' := 90) (l' := [(0, .inr (.inr 1826)), (1, .inl root), (2, .inl (pl : Int)), (3, .inl (dp : Int)), (4, .inl (aty H1 (H1.1 1852 (((dp : Int) - 1)).toNat) (H1.1 1853 (((dp : Int) - 1)).toNat))), (5, .inl (i : Int))]) (st' := [.inl (H1.1 1853 (((dp : Int) - 1)).toNat), .inl ((dp : Int) - 1), .inr (.inr 1853)]) rfl ?_
              refine h_run 2 (pc' := 92) (l' := [(0, .inr (.inr 1826)), (1, .inl root), (2, .inl (pl : Int)), (3, .inl (dp : Int)), (4, .inl (aty H1 (H1.1 1852 (((dp : Int) - 1)).toNat) (H1.1 1853 (((dp : Int) - 1)).toNat))), (5, .inl (i : Int))]) (st' := [.inl ((H1.1 1853 (((dp : Int) - 1)).toNat) + 1), .inl ((dp : Int) - 1), .inr (.inr 1853)]) rfl ?_
              refine h_ist (c := 1853) (j := (((dp : Int) - 1)).toNat) (i := ((dp : Int) - 1)) (x := ((H1.1 1853 (((dp : Int) - 1)).toNat) + 1)) rfl rfl (by decide) (by decide) (by omega) (by omega) (by omega) ?_
              refine h_run 6 (pc' := 104) (l' := [(0, .inr (.inr 1826)), (1, .inl root), (2, .inl (pl : Int)), (3, .inl (dp : Int)), (4, .inl (aty H1 (H1.1 1852 (((dp : Int) - 1)).toNat) (H1.1 1853 (((dp : Int) - 1)).toNat))), (5, .inl (i : Int))]) (st' := [.inl (i : Int), .inr (.inr 1884), .inl (dp : Int), .inr (.inr 1852)]) rfl ?_
              refine h_ild (c := 1884) (j := i) (i := (i : Int)) rfl rfl (by decide) rfl (by omega) ?_
              have g19 : -2147483648 ≤ (H1.1 1884 i) ∧ (H1.1 1884 i) ≤ 2147483647 := hrg3.2 1884 i 128 .int rfl (by omega)
              have e20 : (H1.1 1884 i) = (H.1 1884 i) := congrFun (hf.2.1 1884 (by decide) (by decide)) i
              refine h_run 0 (pc' := 105) (l' := [(0, .inr (.inr 1826)), (1, .inl root), (2, .inl (pl : Int)), (3, .inl (dp : Int)), (4, .inl (aty H1 (H1.1 1852 (((dp : Int) - 1)).toNat) (H1.1 1853 (((dp : Int) - 1)).toNat))), (5, .inl (i : Int))]) (st' := [.inl (H1.1 1884 i), .inl (dp : Int), .inr (.inr 1852)]) rfl ?_
              refine h_ist (c := 1852) (j := dp) (i := (dp : Int)) (x := (H1.1 1884 i)) rfl rfl (by decide) (by decide) rfl (by omega) (by omega) ?_
              refine h_run 4 (pc' := 112) (l' := [(0, .inr (.inr 1826)), (1, .inl root), (2, .inl (pl : Int)), (3, .inl (dp : Int)), (4, .inl (aty H1 (H1.1 1852 (((dp : Int) - 1)).toNat) (H1.1 1853 (((dp : Int) - 1)).toNat))), (5, .inl (i : Int))]) (st' := [.inl 0, .inl (dp : Int), .inr (.inr 1853)]) rfl ?_
              refine h_ist (c := 1853) (j := dp) (i := (dp : Int)) (x := 0) rfl rfl (by decide) (by decide) rfl (by omega) (by decide) ?_
              refine h_run 3 (pc' := 8) (l' := [(0, .inr (.inr 1826)), (1, .inl root), (2, .inl (pl : Int)), (3, .inl ((dp : Int) + 1)), (4, .inl (aty H1 (H1.1 1852 (((dp : Int) - 1)).toNat) (H1.1 1853 (((dp : Int) - 1)).toNat))), (5, .inl ((i : Int) + 1))]) (st' := []) rfl ?_
              rw [show ((dp : Int) + 1) = (((dp + 1) : Nat) : Int) by omega]
              rw [show ((i : Int) + 1) = (((i + 1) : Nat) : Int) by omega]
              exact ih.1 _ (dp + 1) (aty H1 (H1.1 1852 (((dp : Int) - 1)).toNat) (H1.1 1853 (((dp : Int) - 1)).toNat)) (i + 1) (fr_a (fr_a (fr_a hf (by decide)) (by decide)) (by decide)) (by omega) (by show stk H (up (H1.1 1852) dp ((H1.1 1884) i)) (up (up (H1.1 1853) ((dp : Int) - 1).toNat ((H1.1 1853) ((dp : Int) - 1).toNat + 1)) dp 0) (dp + 1); rw [e_now]; exact stk_push (stk_inc hs (by omega) (by rw [e_funArity, e_conArity] at hne; exact hne)) hsx hax) (by omega : 1000 * (pl + 1 - (i + 1)) + 500 < w)
          · exfalso
            omega
        · refine h_run 2 (pc' := 14) (l' := [(0, .inr (.inr 1826)), (1, .inl root), (2, .inl (pl : Int)), (3, .inl ((dp : Int) + (-1))), (4, .inl ty), (5, .inl (i : Int))]) (st' := []) rfl ?_
          rw [show ((dp : Int) + (-1)) = (((((dp : Int) + (-1))).toNat : Nat) : Int) by omega]
          exact ih.2 _ (((dp : Int) + (-1))).toNat ty i hf (by omega) (by omega) (stk_le hs (by omega)) (by omega : 1000 * (pl + 1 - i) + (((dp : Int) + (-1))).toNat < w)
set_option maxRecDepth 100000 in
theorem m_typeAt {zC : Nat → Option zsh} {d : Nat} (hd : 2 ≤ d) {H : hp} {root : Int} {pl N : Nat} (hP : PWc H) (hT : tm (ma (H.1 1833) (H.1 1830)) (m_sg (H.1 1826 3) (H.1 1826 8) 60) (H.1 1884) N 0 1) (hN : N ≤ 60 ∧ pl < N) : hG (zs zC) d mt_231 0 (zargs 0 [.inr (.inr 1826), .inl root, .inl (pl : Int)]) [] H (fun r9 H2 => (∃ r0 : Int, r9 = some (.inl r0)) ∧ fr [] [1852, 1853] H H2) := by
  refine h_rng (fun hrg0 => ?_)
  refine h_run 0 (pc' := 0) (l' := [(0, .inr (.inr 1826)), (1, .inl root), (2, .inl (pl : Int))]) (st' := []) rfl ?_
  refine h_run 6 (pc' := 8) (l' := [(0, .inr (.inr 1826)), (1, .inl root), (2, .inl (pl : Int)), (3, .inl 0), (4, .inl root), (5, .inl 0)]) (st' := []) rfl ?_
  exact (m_typeAt_cut hd hP hT hN _).1 _ 0 root 0 (fr_rf _ _ _) (by omega) (fun x hx => absurd hx (Nat.not_lt_zero _)) (Nat.lt_succ_self _)
