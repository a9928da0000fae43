/-! the reference works a term out, told exactly -/
theorem ev_0 {ar : Int → Int} {X : rx} {s : Nat} {l : List Int} {t : Int} (h : fc l = l.length) : evF ar X s l t = (0, t, l) := by
  cases s with
  | zero =>
    show ((if fc l = l.length then 0 else 1 : Int), t, l) = _
    rw [if_pos h]
  | succ s =>
    show (if fc l = l.length then _ else _) = _
    rw [if_pos h]
theorem ev_1 {ar : Int → Int} {X : rx} {s : Nat} {l : List Int} {t : Int} (h : fc l ≠ l.length) (hs : s = 0) : evF ar X s l t = (1, t, l) := by
  subst hs
  show ((if fc l = l.length then 0 else 1 : Int), t, l) = _
  rw [if_neg h]
theorem ev_2 {ar : Int → Int} {X : rx} {s : Nat} {l : List Int} {t : Int} (h : fc l ≠ l.length) (hs : 0 < s) (h2 : 120 < (stL ar X l).length) : evF ar X s l t = (2, t, l) := by
  obtain ⟨s, rfl⟩ : ∃ k, s = k + 1 := ⟨s - 1, by omega⟩
  show (if fc l = l.length then _ else if 120 < (stL ar X l).length then _ else _) = _
  rw [if_neg h, if_pos h2]
theorem ev_s {ar : Int → Int} {X : rx} {s s' : Nat} {l : List Int} {t : Int} (h : fc l ≠ l.length) (hs : s = s' + 1) (h2 : ¬ 120 < (stL ar X l).length) : evF ar X s l t = evF ar X s' (stL ar X l) (t + 1) := by
  subst hs
  show (if fc l = l.length then _ else if 120 < (stL ar X l).length then _ else _) = _
  rw [if_neg h, if_neg h2]
theorem st_of {ar : Int → Int} {X : rx} {l : List Int} {N p r : Nat} {how : Int} (hl : l.length = N) (h : wtR ar X (ga l) N (fc l) = (how, p, r)) : stL ar X l = mkL ar X (ga l) N p how r := by
  unfold stL
  rw [hl, h]

/-! run -/
set_option maxRecDepth 100000 in
theorem n_run_cut {zC : Nat → Option zsh} {d : Nat} (hd : 5 ≤ d) {H : hp} {st : Int} {N : Nat} {X : rx} {l : List Int} (hst : 0 ≤ st ∧ st ≤ 2000) (hP : PWc H) (hX : RZ9 H X) (hz0 : (H.1 1826 55) = ((N : Nat) : Int) ∧ N ≤ 240) (hM : MK (H.1 1857) N l) (hT : tm (ma (H.1 1833) (H.1 1830)) (m_sg (H.1 1826 3) (H.1 1826 8) 0) (ga l) N 0 1) : ∀ w : Nat, (∀ (H1 : hp) (N : Nat) (l1 : List Int), (fr [50, 51, 53, 55, 56] [1855, 1856, 1857] H H1) → ((H1.1 1826 55) = ((N : Nat) : Int) ∧ N ≤ 240) → (0 ≤ (H1.1 1826 56) ∧ (H1.1 1826 56) ≤ st) → (MK (H1.1 1857) N l1) → (tm (ma (H.1 1833) (H.1 1830)) (m_sg (H.1 1826 3) (H.1 1826 8) 0) (ga l1) N 0 1) → (evF (ma (H.1 1833) (H.1 1830)) X (st - (H1.1 1826 56)).toNat l1 (H1.1 1826 56) = evF (ma (H.1 1833) (H.1 1830)) X st.toNat l 0) → 2000 * (st - (H1.1 1826 56)).toNat + 1999 < w → hG (zs zC) d mt_200 5 [(0, .inr (.inr 1826)), (1, .inl st)] [] H1 (fun r9 H2 => fr [50, 51, 53, 55, 56] [1855, 1856, 1857] H H2 ∧ ∃ r0 : Int, r9 = some (.inl r0) ∧ ∃ (M : Nat) (l2 : List Int), evF (ma (H.1 1833) (H.1 1830)) X st.toNat l 0 = (r0, (H2.1 1826 56), l2) ∧ (H2.1 1826 55) = M ∧ M ≤ 240 ∧ MK (H2.1 1857) M l2 ∧ tm (ma (H.1 1833) (H.1 1830)) (m_sg (H.1 1826 3) (H.1 1826 8) 0) (ga l2) M 0 1)) ∧ (∀ (H1 : hp) (N : Nat) (l1 : List Int) (p : Nat), (fr [50, 51, 53, 55, 56] [1855, 1856, 1857] H H1) → ((H1.1 1826 55) = ((N : Nat) : Int) ∧ N ≤ 240) → (0 ≤ (H1.1 1826 56) ∧ (H1.1 1826 56) ≤ st) → (MK (H1.1 1857) N l1) → (tm (ma (H.1 1833) (H.1 1830)) (m_sg (H.1 1826 3) (H.1 1826 8) 0) (ga l1) N 0 1) → (evF (ma (H.1 1833) (H.1 1830)) X (st - (H1.1 1826 56)).toNat l1 (H1.1 1826 56) = evF (ma (H.1 1833) (H.1 1830)) X st.toNat l 0) → (p ≤ N) → (fc l1 = fcF (ga l1) N (N - p)) → 2000 * (st - (H1.1 1826 56)).toNat + 1000 + (N - p) < w → hG (zs zC) d mt_200 7 [(0, .inr (.inr 1826)), (1, .inl st), (2, .inl (p : Int))] [] H1 (fun r9 H2 => fr [50, 51, 53, 55, 56] [1855, 1856, 1857] H H2 ∧ ∃ r0 : Int, r9 = some (.inl r0) ∧ ∃ (M : Nat) (l2 : List Int), evF (ma (H.1 1833) (H.1 1830)) X st.toNat l 0 = (r0, (H2.1 1826 56), l2) ∧ (H2.1 1826 55) = M ∧ M ≤ 240 ∧ MK (H2.1 1857) M l2 ∧ tm (ma (H.1 1833) (H.1 1830)) (m_sg (H.1 1826 3) (H.1 1826 8) 0) (ga l2) M 0 1)) ∧ (∀ (H1 : hp) (N : Nat) (l1 : List Int) (p : Nat) (k : Nat) (hw9 : Int) (w0 : Nat) (r : Nat) (f : Nat), (fr [50, 51, 53, 55, 56] [1855, 1856, 1857] H H1) → ((H1.1 1826 55) = ((N : Nat) : Int) ∧ N ≤ 240) → (0 ≤ (H1.1 1826 56) ∧ (H1.1 1826 56) ≤ st) → ((H1.1 1826 56) ≠ st) → (MK (H1.1 1857) N l1) → (tm (ma (H.1 1833) (H.1 1830)) (m_sg (H.1 1826 3) (H.1 1826 8) 0) (ga l1) N 0 1) → (evF (ma (H.1 1833) (H.1 1830)) X (st - (H1.1 1826 56)).toNat l1 (H1.1 1826 56) = evF (ma (H.1 1833) (H.1 1830)) X st.toNat l 0) → (p + k ≤ N) → (tm (ma (H.1 1833) (H.1 1830)) (m_sg (H.1 1826 3) (H.1 1826 8) 0) (ga l1) k p 1) → (0 ≤ hw9 ∧ hw9 ≤ 2) → (hid (mR (ma (H.1 1833) (H.1 1830)) X (ga l1) p = (hw9, w0, r) ∧ (hw9 = 2 → (H1.1 1826 50) = (w0 : Int)) ∧ (hw9 = 0 → (H1.1 1826 51) = (r : Int) ∧ BV (ma (H.1 1833) (H.1 1830)) (LL X r) (ga l1) (p + 1) (kL X r) (H1.1 1855)))) → (fc l1 < N) → (N - p ≤ f + 1) → (wtR (ma (H.1 1833) (H.1 1830)) X (ga l1) N (fc l1) = wtR (ma (H.1 1833) (H.1 1830)) X (ga l1) (f + 1) p) → 2000 * (st - (H1.1 1826 56)).toNat + 500 + (N - p) < w → hG (zs zC) d mt_200 63 [(0, .inr (.inr 1826)), (1, .inl st), (2, .inl (p : Int)), (3, .inl hw9)] [] H1 (fun r9 H2 => fr [50, 51, 53, 55, 56] [1855, 1856, 1857] H H2 ∧ ∃ r0 : Int, r9 = some (.inl r0) ∧ ∃ (M : Nat) (l2 : List Int), evF (ma (H.1 1833) (H.1 1830)) X st.toNat l 0 = (r0, (H2.1 1826 56), l2) ∧ (H2.1 1826 55) = M ∧ M ≤ 240 ∧ MK (H2.1 1857) M l2 ∧ tm (ma (H.1 1833) (H.1 1830)) (m_sg (H.1 1826 3) (H.1 1826 8) 0) (ga l2) M 0 1)) ∧ (∀ (H1 : hp) (M : Nat) (i : Nat) (l2 : List Int), (fr [50, 51, 53, 55, 56] [1855, 1856, 1857] H H1) → ((H1.1 1826 55) = ((M : Nat) : Int) ∧ (H1.1 1826 53) = ((M : Nat) : Int) ∧ M ≤ 120) → (0 ≤ (H1.1 1826 56) ∧ (H1.1 1826 56) ≤ st) → (i ≤ M) → (tm (ma (H.1 1833) (H.1 1830)) (m_sg (H.1 1826 3) (H.1 1826 8) 0) (ga l2) M 0 1) → (MK (H1.1 1856) M l2) → (evF (ma (H.1 1833) (H.1 1830)) X (st - (H1.1 1826 56)).toNat l2 (H1.1 1826 56) = evF (ma (H.1 1833) (H.1 1830)) X st.toNat l 0) → (∀ x, x < i → (H1.1 1857) (0 + x) = (H1.1 1856) x) → 2000 * (st - (H1.1 1826 56)).toNat + 2000 + (M - i) < w → hG (zs zC) d mt_200 132 [(0, .inr (.inr 1826)), (1, .inl st), (4, .inl (i : Int))] [] H1 (fun r9 H2 => fr [50, 51, 53, 55, 56] [1855, 1856, 1857] H H2 ∧ ∃ r0 : Int, r9 = some (.inl r0) ∧ ∃ (M : Nat) (l2 : List Int), evF (ma (H.1 1833) (H.1 1830)) X st.toNat l 0 = (r0, (H2.1 1826 56), l2) ∧ (H2.1 1826 55) = M ∧ M ≤ 240 ∧ MK (H2.1 1857) M l2 ∧ tm (ma (H.1 1833) (H.1 1830)) (m_sg (H.1 1826 3) (H.1 1826 8) 0) (ga l2) M 0 1)) := by
  intro w
  induction w with
  | zero => exact ⟨fun _ _ _ _ _ _ _ _ _ h => absurd h (Nat.not_lt_zero _), fun _ _ _ _ _ _ _ _ _ _ _ _ h => absurd h (Nat.not_lt_zero _), fun _ _ _ _ _ _ _ _ _ _ _ _ _ _ _ _ _ _ _ _ _ _ _ h => absurd h (Nat.not_lt_zero _), fun _ _ _ _ _ _ _ _ _ _ _ _ h => absurd h (Nat.not_lt_zero _)⟩
  | succ w ih =>
    refine ⟨?_, ?_, ?_, ?_⟩
    · intro H1 N l1 hf hz htk hM1 hT1 hev hw
      refine h_rng (fun hrg1 => ?_)
      obtain ⟨⟨pb1, pb2, pb3, pb4, pb5⟩, pw1, pw2, pw3, pw4⟩ := (id hP : PW H (H.1 1826 1) (H.1 1826 3) (H.1 1826 8) (H.1 1826 13) (H.1 1826 19))
      have hP1 := PWc_fr hP hf (by decide) (by decide)
      have hX1 := RZ9_fr hX hf (by decide) (by decide)
      have e_ruleLeft : (H1.1 1837) = (H.1 1837) := hf.2.1 1837 (by decide) (by decide)
      have e_ruleLeftSize : (H1.1 1838) = (H.1 1838) := hf.2.1 1838 (by decide) (by decide)
      have e_funArity : (H1.1 1833) = (H.1 1833) := hf.2.1 1833 (by decide) (by decide)
      have e_conArity : (H1.1 1830) = (H.1 1830) := hf.2.1 1830 (by decide) (by decide)
      have f_rules : (H1.1 1826 13) = (H.1 1826 13) := hf.2.2 13 (by decide)
      have f_cons : (H1.1 1826 3) = (H.1 1826 3) := hf.2.2 3 (by decide)
      have f_funs : (H1.1 1826 8) = (H.1 1826 8) := hf.2.2 8 (by decide)
      have hRW : ∀ r : Nat, r < ((H.1 1826 13)).toNat → RW9r (ma (H.1 1833) (H.1 1830)) (H.1 1826 3) (H.1 1826 8) X r := fun r hr => RW9r_of hX hP (by omega)
      have hnR : nR X = ((H.1 1826 13)).toNat := by unfold nR; rw [hX.1]
      have hma : ∀ s9 : Int, 1000 ≤ s9 → ma (H.1 1833) (H.1 1830) s9 = 0 := fun s9 h9 => ma_0 (Or.inl h9)
      refine h_run 2 (pc' := 7) (l' := [(0, .inr (.inr 1826)), (1, .inl st), (2, .inl 0)]) (st' := []) rfl ?_
      have g2 : -2147483648 ≤ (H1.1 1826 55) ∧ (H1.1 1826 55) ≤ 2147483647 := hrg1.1 1826 13 55 _ .int rfl rfl
      have g3 : -2147483648 ≤ (H1.1 1826 56) ∧ (H1.1 1826 56) ≤ 2147483647 := hrg1.1 1826 13 56 _ .int rfl rfl
      have g4 : -2147483648 ≤ (H1.1 1826 53) ∧ (H1.1 1826 53) ≤ 2147483647 := hrg1.1 1826 13 53 _ .int rfl rfl
      exact ih.2.1 _ (N) (l1) 0 hf (by omega : (H1.1 1826 55) = (((N) : Nat) : Int) ∧ (N) ≤ 240) (by omega : 0 ≤ (H1.1 1826 56) ∧ (H1.1 1826 56) ≤ st) hM1 hT1 (show evF (ma (H.1 1833) (H.1 1830)) X (st - (H1.1 1826 56)).toNat _ (H1.1 1826 56) = _ from (by rw [show (H1.1 1826 56) = (H1.1 1826 56) by omega]; exact hev)) (by omega) (by unfold fc; rw [hM1.1]; rfl) (by omega : 2000 * (st - (H1.1 1826 56)).toNat + 1000 + ((N) - 0) < w)
    · intro H1 N l1 p hf hz htk hM1 hT1 hev hpN hfc hw
      refine h_rng (fun hrg5 => ?_)
      obtain ⟨⟨pb1, pb2, pb3, pb4, pb5⟩, pw1, pw2, pw3, pw4⟩ := (id hP : PW H (H.1 1826 1) (H.1 1826 3) (H.1 1826 8) (H.1 1826 13) (H.1 1826 19))
      have hP1 := PWc_fr hP hf (by decide) (by decide)
      have hX1 := RZ9_fr hX hf (by decide) (by decide)
      have e_ruleLeft : (H1.1 1837) = (H.1 1837) := hf.2.1 1837 (by decide) (by decide)
      have e_ruleLeftSize : (H1.1 1838) = (H.1 1838) := hf.2.1 1838 (by decide) (by decide)
      have e_funArity : (H1.1 1833) = (H.1 1833) := hf.2.1 1833 (by decide) (by decide)
      have e_conArity : (H1.1 1830) = (H.1 1830) := hf.2.1 1830 (by decide) (by decide)
      have f_rules : (H1.1 1826 13) = (H.1 1826 13) := hf.2.2 13 (by decide)
      have f_cons : (H1.1 1826 3) = (H.1 1826 3) := hf.2.2 3 (by decide)
      have f_funs : (H1.1 1826 8) = (H.1 1826 8) := hf.2.2 8 (by decide)
      have hRW : ∀ r : Nat, r < ((H.1 1826 13)).toNat → RW9r (ma (H.1 1833) (H.1 1830)) (H.1 1826 3) (H.1 1826 8) X r := fun r hr => RW9r_of hX hP (by omega)
      have hnR : nR X = ((H.1 1826 13)).toNat := by unfold nR; rw [hX.1]
      have hma : ∀ s9 : Int, 1000 ≤ s9 → ma (H.1 1833) (H.1 1830) s9 = 0 := fun s9 h9 => ma_0 (Or.inl h9)
      refine h_run 3 (pc' := 12) (l' := [(0, .inr (.inr 1826)), (1, .inl st), (2, .inl (p : Int))]) (st' := [.inl (H1.1 1826 55), .inl (p : Int)]) rfl ?_
      have g6 : -2147483648 ≤ (H1.1 1826 55) ∧ (H1.1 1826 55) ≤ 2147483647 := hrg5.1 1826 13 55 _ .int rfl rfl
      refine h_ige (off := 21) (t := 33) rfl rfl (by omega) (by omega) (fun c7 => ?_) (fun c7 => ?_)
      · refine h_run 3 (pc' := 38) (l' := [(0, .inr (.inr 1826)), (1, .inl st), (2, .inl (p : Int))]) (st' := [.inl (H1.1 1826 55), .inl (p : Int)]) rfl ?_
        refine h_ine (off := 5) (t := 43) rfl rfl (by omega) (by omega) (fun c8 => ?_) (fun c8 => ?_)
        · have hpN9 : p < N := by omega
          have hgc : 100 ≤ ga l1 p ∧ ga l1 p < 1000 := by omega
          have hfe : fc l1 = p := hfc.trans (fc_hit N hpN9 hgc)
          refine h_run 2 (pc' := 47) (l' := [(0, .inr (.inr 1826)), (1, .inl st), (2, .inl (p : Int))]) (st' := [.inl (H1.1 1826 56)]) rfl ?_
          have g9 : -2147483648 ≤ (H1.1 1826 56) ∧ (H1.1 1826 56) ≤ 2147483647 := hrg5.1 1826 13 56 _ .int rfl rfl
          refine h_run 1 (pc' := 48) (l' := [(0, .inr (.inr 1826)), (1, .inl st), (2, .inl (p : Int))]) (st' := [.inl st, .inl (H1.1 1826 56)]) rfl ?_
          refine h_ine (off := 5) (t := 53) rfl rfl (by omega) (by omega) (fun c10 => ?_) (fun c10 => ?_)
          · obtain ⟨k, hTp, hpk⟩ := tm_sub9 hT1 (q := p) (by omega)
            rw [Nat.zero_add] at hpk
            have hkp := tm_le hTp
            have hsg := tm_ok hTp 0 (by omega)
            rw [Nat.add_zero] at hsg
            unfold m_sg at hsg
            refine h_run 4 (pc' := 59) (l' := [(0, .inr (.inr 1826)), (1, .inl st), (2, .inl (p : Int))]) (st' := [.inl (p : Int), .inr (.inr 1857), .inr (.inr 1826)]) rfl ?_
            refine h_cv (i := 453) (j := 196) (b := 1826) (M' := mt_196) (xs := [.inl (p : Int), .inr (.inr 1857)]) (rest := []) rfl rfl rfl rfl rfl rfl (Nat.le_of_ble_eq_true rfl) (Nat.le_of_ble_eq_true rfl) (by omega) (n_match (by omega) (c := 1857) (n := 400) (p := p) (k := k) (ok := (m_sg (H.1 1826 3) (H.1 1826 8) 0)) (X := X) (g := ga l1) rfl (by decide) (by decide) (fun s9 h9 => by unfold m_sg at h9; unfold sg0; omega) hP1 hX1 (by rw [e_funArity, e_conArity]; exact hTp) (by omega) (fun x hx => hM1.2 x (by omega)) (by rw [f_funs]; omega)) ?_
            rintro _ H11 ⟨hx11f, hx11r, rfl, hx11w, hx11R, hx11d⟩
            refine h_rng (fun hrg12 => ?_)
            have hf13 : fr [50, 51, 53, 55, 56] [1855, 1856, 1857] H H11 := fr_t hf hx11f (by decide) (by decide)
            rw [e_funArity, e_conArity] at hx11d
            have hx11b : 0 ≤ hx11r ∧ hx11r ≤ 2 := by have h9 := mR_ok (a := ga l1) (n := N) hnR hRW (by omega) hma hTp (by omega) (by omega); rw [hx11d.1] at h9; rcases h9 with (⟨h8, -⟩ | h8) | ⟨h8, -⟩; { exact ⟨by omega, by omega⟩ }; { have h8 : hx11r = 1 := h8; omega }; { have h8 : hx11r = 2 := h8; omega }
            replace hx11d : hid _ := hx11d
            refine h_run 0 (pc' := 62) (l' := [(0, .inr (.inr 1826)), (1, .inl st), (2, .inl (p : Int))]) (st' := [.inl hx11r]) rfl ?_
            refine h_run 1 (pc' := 63) (l' := [(0, .inr (.inr 1826)), (1, .inl st), (2, .inl (p : Int)), (3, .inl hx11r)]) (st' := []) rfl ?_
            have g14 : -2147483648 ≤ (H11.1 1826 55) ∧ (H11.1 1826 55) ≤ 2147483647 := hrg12.1 1826 13 55 _ .int rfl rfl
            have e15 : (H11.1 1826 55) = (H1.1 1826 55) := hx11f.2.2 55 (by decide)
            have g16 : -2147483648 ≤ (H11.1 1826 56) ∧ (H11.1 1826 56) ≤ 2147483647 := hrg12.1 1826 13 56 _ .int rfl rfl
            have e17 : (H11.1 1826 56) = (H1.1 1826 56) := hx11f.2.2 56 (by decide)
            have g18 : -2147483648 ≤ (H11.1 1826 53) ∧ (H11.1 1826 53) ≤ 2147483647 := hrg12.1 1826 13 53 _ .int rfl rfl
            have e19 : (H11.1 1826 53) = (H1.1 1826 53) := hx11f.2.2 53 (by decide)
            exact ih.2.2.1 _ (N) (l1) p (k) hx11r (hx11w) (hx11R) ((N - 1)) hf13 (by omega : (H11.1 1826 55) = (((N) : Nat) : Int) ∧ (N) ≤ 240) (by omega : 0 ≤ (H11.1 1826 56) ∧ (H11.1 1826 56) ≤ st) (by omega : (H11.1 1826 56) ≠ st) (by rw [show (H11.1 1857) = (H1.1 1857) from hx11f.2.1 1857 (by decide) (by decide)]; exact hM1) hT1 (show evF (ma (H.1 1833) (H.1 1830)) X (st - (H11.1 1826 56)).toNat _ (H11.1 1826 56) = _ from (by rw [show (H11.1 1826 56) = (H1.1 1826 56) by omega]; exact hev)) (by omega) hTp (by omega) (id hx11d) (by omega) (by omega) (by rw [hfe, show N - 1 + 1 = N by omega]) (by omega : 2000 * (st - (H11.1 1826 56)).toNat + 500 + ((N) - p) < w)
          · refine h_run 1 (pc' := 52) (l' := [(0, .inr (.inr 1826)), (1, .inl st), (2, .inl (p : Int))]) (st' := [.inl 1]) rfl ?_
            refine h_reti (x := 1) rfl rfl ?_
            refine ⟨hf, 1, rfl, N, l1, ?_, (by omega : (H1.1 1826 55) = ((N : Nat) : Int)), by omega, hM1, hT1⟩
            show _ = (1, (H1.1 1826 56), l1)
            rw [show (H1.1 1826 56) = (H1.1 1826 56) by omega, ← hev]
            exact ev_1 (by rw [hfe, hM1.1]; omega) (by omega)
        · refine h_run 1 (pc' := 42) (l' := [(0, .inr (.inr 1826)), (1, .inl st), (2, .inl (p : Int))]) (st' := [.inl 0]) rfl ?_
          refine h_reti (x := 0) rfl rfl ?_
          have g20 : -2147483648 ≤ (H1.1 1826 56) ∧ (H1.1 1826 56) ≤ 2147483647 := hrg5.1 1826 13 56 _ .int rfl rfl
          refine ⟨hf, 0, rfl, N, l1, ?_, (by omega : (H1.1 1826 55) = ((N : Nat) : Int)), by omega, hM1, hT1⟩
          show _ = (0, (H1.1 1826 56), l1)
          rw [show (H1.1 1826 56) = (H1.1 1826 56) by omega, ← hev]
          exact ev_0 (by rw [hfc, hM1.1, show p = N by omega]; exact fc_end N)
      · have hM0 := hM1.2 p (by omega)
        refine h_run 3 (pc' := 20) (l' := [(0, .inr (.inr 1826)), (1, .inl st), (2, .inl (p : Int))]) (st' := [.inl (p : Int), .inr (.inr 1857)]) rfl ?_
        refine h_ild (c := 1857) (j := p) (i := (p : Int)) rfl rfl (by decide) rfl (by omega) ?_
        have g21 : -2147483648 ≤ (H1.1 1857 p) ∧ (H1.1 1857 p) ≤ 2147483647 := hrg5.2 1857 p 400 .int rfl (by omega)
        refine h_run 0 (pc' := 21) (l' := [(0, .inr (.inr 1826)), (1, .inl st), (2, .inl (p : Int))]) (st' := [.inl (H1.1 1857 p)]) rfl ?_
        refine h_cs (i := 450) (j := 156) (M' := mt_156) (xs := [.inl (H1.1 1857 p)]) (rest := []) rfl rfl rfl rfl rfl (Nat.le_of_ble_eq_true rfl) (Nat.le_of_ble_eq_true rfl) (by omega) (m_isCall (by omega) (by omega)) ?_
        rintro _ _ ⟨⟨rfl, b22⟩ | ⟨rfl, b22⟩, rfl⟩
        · refine h_run 0 (pc' := 24) (l' := [(0, .inr (.inr 1826)), (1, .inl st), (2, .inl (p : Int))]) (st' := [.inl 1]) rfl ?_
          refine h_zne (off := 9) (t := 33) rfl rfl (by decide) (fun _ => ?_) (fun c => absurd c (by decide))
          refine h_run 3 (pc' := 38) (l' := [(0, .inr (.inr 1826)), (1, .inl st), (2, .inl (p : Int))]) (st' := [.inl (H1.1 1826 55), .inl (p : Int)]) rfl ?_
          refine h_ine (off := 5) (t := 43) rfl rfl (by omega) (by omega) (fun c23 => ?_) (fun c23 => ?_)
          · have hpN9 : p < N := by omega
            have hgc : 100 ≤ ga l1 p ∧ ga l1 p < 1000 := by omega
            have hfe : fc l1 = p := hfc.trans (fc_hit N hpN9 hgc)
            refine h_run 2 (pc' := 47) (l' := [(0, .inr (.inr 1826)), (1, .inl st), (2, .inl (p : Int))]) (st' := [.inl (H1.1 1826 56)]) rfl ?_
            have g24 : -2147483648 ≤ (H1.1 1826 56) ∧ (H1.1 1826 56) ≤ 2147483647 := hrg5.1 1826 13 56 _ .int rfl rfl
            refine h_run 1 (pc' := 48) (l' := [(0, .inr (.inr 1826)), (1, .inl st), (2, .inl (p : Int))]) (st' := [.inl st, .inl (H1.1 1826 56)]) rfl ?_
            refine h_ine (off := 5) (t := 53) rfl rfl (by omega) (by omega) (fun c25 => ?_) (fun c25 => ?_)
            · obtain ⟨k, hTp, hpk⟩ := tm_sub9 hT1 (q := p) (by omega)
              rw [Nat.zero_add] at hpk
              have hkp := tm_le hTp
              have hsg := tm_ok hTp 0 (by omega)
              rw [Nat.add_zero] at hsg
              unfold m_sg at hsg
              refine h_run 4 (pc' := 59) (l' := [(0, .inr (.inr 1826)), (1, .inl st), (2, .inl (p : Int))]) (st' := [.inl (p : Int), .inr (.inr 1857), .inr (.inr 1826)]) rfl ?_
              refine h_cv (i := 453) (j := 196) (b := 1826) (M' := mt_196) (xs := [.inl (p : Int), .inr (.inr 1857)]) (rest := []) rfl rfl rfl rfl rfl rfl (Nat.le_of_ble_eq_true rfl) (Nat.le_of_ble_eq_true rfl) (by omega) (n_match (by omega) (c := 1857) (n := 400) (p := p) (k := k) (ok := (m_sg (H.1 1826 3) (H.1 1826 8) 0)) (X := X) (g := ga l1) rfl (by decide) (by decide) (fun s9 h9 => by unfold m_sg at h9; unfold sg0; omega) hP1 hX1 (by rw [e_funArity, e_conArity]; exact hTp) (by omega) (fun x hx => hM1.2 x (by omega)) (by rw [f_funs]; omega)) ?_
              rintro _ H26 ⟨hx26f, hx26r, rfl, hx26w, hx26R, hx26d⟩
              refine h_rng (fun hrg27 => ?_)
              have hf28 : fr [50, 51, 53, 55, 56] [1855, 1856, 1857] H H26 := fr_t hf hx26f (by decide) (by decide)
              rw [e_funArity, e_conArity] at hx26d
              have hx26b : 0 ≤ hx26r ∧ hx26r ≤ 2 := by have h9 := mR_ok (a := ga l1) (n := N) hnR hRW (by omega) hma hTp (by omega) (by omega); rw [hx26d.1] at h9; rcases h9 with (⟨h8, -⟩ | h8) | ⟨h8, -⟩; { exact ⟨by omega, by omega⟩ }; { have h8 : hx26r = 1 := h8; omega }; { have h8 : hx26r = 2 := h8; omega }
              replace hx26d : hid _ := hx26d
              refine h_run 0 (pc' := 62) (l' := [(0, .inr (.inr 1826)), (1, .inl st), (2, .inl (p : Int))]) (st' := [.inl hx26r]) rfl ?_
              refine h_run 1 (pc' := 63) (l' := [(0, .inr (.inr 1826)), (1, .inl st), (2, .inl (p : Int)), (3, .inl hx26r)]) (st' := []) rfl ?_
              have g29 : -2147483648 ≤ (H26.1 1826 55) ∧ (H26.1 1826 55) ≤ 2147483647 := hrg27.1 1826 13 55 _ .int rfl rfl
              have e30 : (H26.1 1826 55) = (H1.1 1826 55) := hx26f.2.2 55 (by decide)
              have g31 : -2147483648 ≤ (H26.1 1826 56) ∧ (H26.1 1826 56) ≤ 2147483647 := hrg27.1 1826 13 56 _ .int rfl rfl
              have e32 : (H26.1 1826 56) = (H1.1 1826 56) := hx26f.2.2 56 (by decide)
              have g33 : -2147483648 ≤ (H26.1 1826 53) ∧ (H26.1 1826 53) ≤ 2147483647 := hrg27.1 1826 13 53 _ .int rfl rfl
              have e34 : (H26.1 1826 53) = (H1.1 1826 53) := hx26f.2.2 53 (by decide)
              exact ih.2.2.1 _ (N) (l1) p (k) hx26r (hx26w) (hx26R) ((N - 1)) hf28 (by omega : (H26.1 1826 55) = (((N) : Nat) : Int) ∧ (N) ≤ 240) (by omega : 0 ≤ (H26.1 1826 56) ∧ (H26.1 1826 56) ≤ st) (by omega : (H26.1 1826 56) ≠ st) (by rw [show (H26.1 1857) = (H1.1 1857) from hx26f.2.1 1857 (by decide) (by decide)]; exact hM1) hT1 (show evF (ma (H.1 1833) (H.1 1830)) X (st - (H26.1 1826 56)).toNat _ (H26.1 1826 56) = _ from (by rw [show (H26.1 1826 56) = (H1.1 1826 56) by omega]; exact hev)) (by omega) hTp (by omega) (id hx26d) (by omega) (by omega) (by rw [hfe, show N - 1 + 1 = N by omega]) (by omega : 2000 * (st - (H26.1 1826 56)).toNat + 500 + ((N) - p) < w)
            · refine h_run 1 (pc' := 52) (l' := [(0, .inr (.inr 1826)), (1, .inl st), (2, .inl (p : Int))]) (st' := [.inl 1]) rfl ?_
              refine h_reti (x := 1) rfl rfl ?_
              refine ⟨hf, 1, rfl, N, l1, ?_, (by omega : (H1.1 1826 55) = ((N : Nat) : Int)), by omega, hM1, hT1⟩
              show _ = (1, (H1.1 1826 56), l1)
              rw [show (H1.1 1826 56) = (H1.1 1826 56) by omega, ← hev]
              exact ev_1 (by rw [hfe, hM1.1]; omega) (by omega)
          · exfalso
            omega
        · refine h_run 0 (pc' := 24) (l' := [(0, .inr (.inr 1826)), (1, .inl st), (2, .inl (p : Int))]) (st' := [.inl 0]) rfl ?_
          refine h_zne (off := 9) (t := 33) rfl rfl (by decide) (fun c => absurd c (by decide)) (fun _ => ?_)
          refine h_run 2 (pc' := 7) (l' := [(0, .inr (.inr 1826)), (1, .inl st), (2, .inl ((p : Int) + 1))]) (st' := []) rfl ?_
          have g35 : -2147483648 ≤ (H1.1 1826 56) ∧ (H1.1 1826 56) ≤ 2147483647 := hrg5.1 1826 13 56 _ .int rfl rfl
          have g36 : -2147483648 ≤ (H1.1 1826 53) ∧ (H1.1 1826 53) ≤ 2147483647 := hrg5.1 1826 13 53 _ .int rfl rfl
          rw [show ((p : Int) + 1) = (((p + 1) : Nat) : Int) by omega]
          exact ih.2.1 _ (N) (l1) (p + 1) hf (by omega : (H1.1 1826 55) = (((N) : Nat) : Int) ∧ (N) ≤ 240) (by omega : 0 ≤ (H1.1 1826 56) ∧ (H1.1 1826 56) ≤ st) hM1 hT1 (show evF (ma (H.1 1833) (H.1 1830)) X (st - (H1.1 1826 56)).toNat _ (H1.1 1826 56) = _ from (by rw [show (H1.1 1826 56) = (H1.1 1826 56) by omega]; exact hev)) (by omega) (hfc.trans (fc_go N (by omega) (by omega))) (by omega : 2000 * (st - (H1.1 1826 56)).toNat + 1000 + ((N) - (p + 1)) < w)
    · intro H1 N l1 p k hw9 w0 r f hf hz htk hts hM1 hT1 hev hpN hTp hh hd hfe2 hfu hwt hw
      refine h_rng (fun hrg37 => ?_)
      obtain ⟨⟨pb1, pb2, pb3, pb4, pb5⟩, pw1, pw2, pw3, pw4⟩ := (id hP : PW H (H.1 1826 1) (H.1 1826 3) (H.1 1826 8) (H.1 1826 13) (H.1 1826 19))
      have hP1 := PWc_fr hP hf (by decide) (by decide)
      have hX1 := RZ9_fr hX hf (by decide) (by decide)
      have e_ruleLeft : (H1.1 1837) = (H.1 1837) := hf.2.1 1837 (by decide) (by decide)
      have e_ruleLeftSize : (H1.1 1838) = (H.1 1838) := hf.2.1 1838 (by decide) (by decide)
      have e_funArity : (H1.1 1833) = (H.1 1833) := hf.2.1 1833 (by decide) (by decide)
      have e_conArity : (H1.1 1830) = (H.1 1830) := hf.2.1 1830 (by decide) (by decide)
      have f_rules : (H1.1 1826 13) = (H.1 1826 13) := hf.2.2 13 (by decide)
      have f_cons : (H1.1 1826 3) = (H.1 1826 3) := hf.2.2 3 (by decide)
      have f_funs : (H1.1 1826 8) = (H.1 1826 8) := hf.2.2 8 (by decide)
      have hRW : ∀ r : Nat, r < ((H.1 1826 13)).toNat → RW9r (ma (H.1 1833) (H.1 1830)) (H.1 1826 3) (H.1 1826 8) X r := fun r hr => RW9r_of hX hP (by omega)
      have hnR : nR X = ((H.1 1826 13)).toNat := by unfold nR; rw [hX.1]
      have hma : ∀ s9 : Int, 1000 ≤ s9 → ma (H.1 1833) (H.1 1830) s9 = 0 := fun s9 h9 => ma_0 (Or.inl h9)
      refine h_run 2 (pc' := 65) (l' := [(0, .inr (.inr 1826)), (1, .inl st), (2, .inl (p : Int)), (3, .inl hw9)]) (st' := [.inl 2, .inl hw9]) rfl ?_
      refine h_ine (off := 21) (t := 86) rfl rfl (by omega) (by decide) (fun c38 => ?_) (fun c38 => ?_)
      · have hd9 : mR (ma (H.1 1833) (H.1 1830)) X (ga l1) p = (hw9, w0, r) ∧ (hw9 = 2 → (H1.1 1826 50) = (w0 : Int)) ∧ (hw9 = 0 → (H1.1 1826 51) = (r : Int) ∧ BV (ma (H.1 1833) (H.1 1830)) (LL X r) (ga l1) (p + 1) (kL X r) (H1.1 1855)) := hd
        have hHW : HW (ma (H.1 1833) (H.1 1830)) X (ga l1) p ((H.1 1826 13)).toNat hw9 r := by have h9 := mR_ok (a := ga l1) (n := N) hnR hRW (by omega) hma hTp (by omega) (by omega); rw [hd9.1] at h9; exact h9.resolve_right (fun q9 => by have q8 : hw9 = 2 := q9.1; omega)
        have hst9 : stL (ma (H.1 1833) (H.1 1830)) X l1 = mkL (ma (H.1 1833) (H.1 1830)) X (ga l1) N p hw9 r := st_of hM1.1 (by rw [hwt, wt_st (by rw [hd9.1]; exact (by omega : hw9 ≠ 2)), hd9.1])
        refine h_run 5 (pc' := 95) (l' := [(0, .inr (.inr 1826)), (1, .inl st), (2, .inl (p : Int)), (3, .inl hw9)]) (st' := [.inl (H1.1 1826 55), .inr (.inr 1857), .inr (.inr 1826)]) rfl ?_
        have g39 : -2147483648 ≤ (H1.1 1826 55) ∧ (H1.1 1826 55) ≤ 2147483647 := hrg37.1 1826 13 55 _ .int rfl rfl
        refine h_run 2 (pc' := 97) (l' := [(0, .inr (.inr 1826)), (1, .inl st), (2, .inl (p : Int)), (3, .inl hw9)]) (st' := [.inl hw9, .inl (p : Int), .inl (H1.1 1826 55), .inr (.inr 1857), .inr (.inr 1826)]) rfl ?_
        rw [show (H1.1 1826 55) = (N : Int) by omega]
        refine h_cv (i := 456) (j := 199) (b := 1826) (M' := mt_199) (xs := [.inl hw9, .inl (p : Int), .inl (N : Int), .inr (.inr 1857)]) (rest := []) rfl rfl rfl rfl rfl rfl (Nat.le_of_ble_eq_true rfl) (Nat.le_of_ble_eq_true rfl) (by omega) (n_makeDone (by omega) (c := 1857) (n := 400) (N := N) (p := p) (k := k) (r := r) (X := X) (g := ga l1) rfl (by decide) (by decide) hP1 hX1 (by rw [e_funArity, e_conArity, f_cons, f_funs]; exact hT1) (by rw [e_funArity, e_conArity, f_cons, f_funs]; exact hTp) (by omega) (fun x hx => hM1.2 x hx) (by omega) (by rw [e_funArity, e_conArity, f_rules]; exact hHW) (by rw [e_funArity, e_conArity]; exact hd9.2.2)) ?_
        rintro _ H40 ⟨rfl, hx40f, hx40M, hx40z, hx40m, hx40t⟩
        refine h_rng (fun hrg41 => ?_)
        have hf42 : fr [50, 51, 53, 55, 56] [1855, 1856, 1857] H H40 := fr_t hf hx40f (by decide) (by decide)
        refine h_run 0 (pc' := 100) (l' := [(0, .inr (.inr 1826)), (1, .inl st), (2, .inl (p : Int)), (3, .inl hw9)]) (st' := []) rfl ?_
        have hmk9 : MK (H40.1 1856) hx40M (mkL (ma (H.1 1833) (H.1 1830)) X (ga l1) N p hw9 r) := by have h9 := hx40t; rw [e_funArity, e_conArity] at h9; exact h9
        replace hx40t := hmk9
        refine h_run 2 (pc' := 104) (l' := [(0, .inr (.inr 1826)), (1, .inl st), (2, .inl (p : Int)), (3, .inl hw9)]) (st' := [.inl (H40.1 1826 53)]) rfl ?_
        have g43 : -2147483648 ≤ (H40.1 1826 53) ∧ (H40.1 1826 53) ≤ 2147483647 := hrg41.1 1826 13 53 _ .int rfl rfl
        refine h_run 1 (pc' := 106) (l' := [(0, .inr (.inr 1826)), (1, .inl st), (2, .inl (p : Int)), (3, .inl hw9)]) (st' := [.inl 120, .inl (H40.1 1826 53)]) rfl ?_
        refine h_ile (off := 5) (t := 111) rfl rfl (by omega) (by decide) (fun c44 => ?_) (fun c44 => ?_)
        · obtain ⟨l2, hl2⟩ : ∃ l2, mkL (ma (H.1 1833) (H.1 1830)) X (ga l1) N p hw9 r = l2 := ⟨_, rfl⟩
          have hmt9 : tm (ma (H.1 1833) (H.1 1830)) (m_sg (H.1 1826 3) (H.1 1826 8) 0) (ga l2) hx40M 0 1 := by have h9 := mk_ok (R := ((H.1 1826 13)).toNat) hRW hma (ma_0 (Or.inr rfl)) hT1 hTp (by omega) (by omega) hHW; rw [hmk9.1, hl2] at h9; exact h9
          rw [hl2] at hmk9 hst9
          have htk9 : (H40.1 1826 56) = (H1.1 1826 56) := hx40f.2.2 56 (by decide)
          have hev9 : evF (ma (H.1 1833) (H.1 1830)) X (st - ((H40.1 1826 56) + 1)).toNat l2 ((H40.1 1826 56) + 1) = evF (ma (H.1 1833) (H.1 1830)) X st.toNat l 0 := by rw [← hev, ev_s (ar := (ma (H.1 1833) (H.1 1830))) (X := X) (s := (st - (H1.1 1826 56)).toNat) (s' := (st - ((H40.1 1826 56) + 1)).toNat) (l := l1) (by rw [hM1.1]; omega) (by omega) (by rw [hst9, hmk9.1]; omega), hst9, show (H40.1 1826 56) = (H1.1 1826 56) by omega]
          refine h_run 3 (pc' := 116) (l' := [(0, .inr (.inr 1826)), (1, .inl st), (2, .inl (p : Int)), (3, .inl hw9)]) (st' := [.inl (H40.1 1826 56), .inr (.inr 1826)]) rfl ?_
          have g45 : -2147483648 ≤ (H40.1 1826 56) ∧ (H40.1 1826 56) ≤ 2147483647 := hrg41.1 1826 13 56 _ .int rfl rfl
          have e46 : (H40.1 1826 56) = (H1.1 1826 56) := hx40f.2.2 56 (by decide)
          refine h_run 2 (pc' := 118) (l' := [(0, .inr (.inr 1826)), (1, .inl st), (2, .inl (p : Int)), (3, .inl hw9)]) (st' := [.inl ((H40.1 1826 56) + 1), .inr (.inr 1826)]) rfl ?_
          refine h_puti (i := 444) (ci := 13) (k := 56) (a := 1826) (x := ((H40.1 1826 56) + 1)) rfl rfl rfl rfl rfl rfl (by decide) (by omega) ?_
          refine h_run 3 (pc' := 126) (l' := [(0, .inr (.inr 1826)), (1, .inl st), (2, .inl (p : Int)), (3, .inl hw9)]) (st' := [.inl (H40.1 1826 53), .inr (.inr 1826)]) rfl ?_
          refine h_puti (i := 447) (ci := 13) (k := 55) (a := 1826) (x := (H40.1 1826 53)) rfl rfl rfl rfl rfl rfl (by decide) (by omega) ?_
          refine h_run 2 (pc' := 132) (l' := [(0, .inr (.inr 1826)), (1, .inl st), (2, .inl (p : Int)), (3, .inl hw9), (4, .inl 0)]) (st' := []) rfl ?_
          refine h_loc [0, 1, 4] rfl ?_
          exact ih.2.2.2 _ (hx40M) 0 (l2) (fr_o (fr_o hf42 (by decide)) (by decide)) (by omega : (H40.1 1826 53) = (((hx40M) : Nat) : Int) ∧ (H40.1 1826 53) = (((hx40M) : Nat) : Int) ∧ (hx40M) ≤ 120) (by omega : 0 ≤ ((H40.1 1826 56) + 1) ∧ ((H40.1 1826 56) + 1) ≤ st) (by omega) hmt9 hmk9 (show evF (ma (H.1 1833) (H.1 1830)) X (st - ((H40.1 1826 56) + 1)).toNat l2 ((H40.1 1826 56) + 1) = _ from hev9) (fun x hx => absurd hx (Nat.not_lt_zero _)) (by omega : 2000 * (st - ((H40.1 1826 56) + 1)).toNat + 2000 + ((hx40M) - 0) < w)
        · refine h_run 1 (pc' := 110) (l' := [(0, .inr (.inr 1826)), (1, .inl st), (2, .inl (p : Int)), (3, .inl hw9)]) (st' := [.inl 2]) rfl ?_
          refine h_reti (x := 2) rfl rfl ?_
          have g47 : -2147483648 ≤ (H40.1 1826 55) ∧ (H40.1 1826 55) ≤ 2147483647 := hrg41.1 1826 13 55 _ .int rfl rfl
          have e48 : (H40.1 1826 55) = (H1.1 1826 55) := hx40f.2.2 55 (by decide)
          have g49 : -2147483648 ≤ (H40.1 1826 56) ∧ (H40.1 1826 56) ≤ 2147483647 := hrg41.1 1826 13 56 _ .int rfl rfl
          have e50 : (H40.1 1826 56) = (H1.1 1826 56) := hx40f.2.2 56 (by decide)
          refine ⟨hf42, 2, rfl, N, l1, ?_, (by omega : (H40.1 1826 55) = ((N : Nat) : Int)), by omega, (by rw [show (H40.1 1857) = (H1.1 1857) from hx40f.2.1 1857 (by decide) (by decide)]; exact hM1), hT1⟩
          show _ = (2, (H40.1 1826 56), l1)
          rw [show (H40.1 1826 56) = (H1.1 1826 56) by omega, ← hev]
          exact ev_2 (by have q9 := hM1.1; omega) (by omega) (by rw [hst9, hx40t.1]; omega)
      · have hd9 : mR (ma (H.1 1833) (H.1 1830)) X (ga l1) p = (hw9, w0, r) ∧ (hw9 = 2 → (H1.1 1826 50) = (w0 : Int)) ∧ (hw9 = 0 → (H1.1 1826 51) = (r : Int) ∧ BV (ma (H.1 1833) (H.1 1830)) (LL X r) (ga l1) (p + 1) (kL X r) (H1.1 1855)) := hd
        obtain ⟨q1, q2, q3, kw, w6, w5⟩ := (mR_ok (a := ga l1) (n := N) hnR hRW (by omega) hma hTp (by omega) (by omega)).resolve_left (by rw [hd9.1]; rintro (⟨h9, -⟩ | h9); { have h9 : hw9 = 0 := h9; omega }; { have h9 : hw9 = 1 := h9; omega })
        obtain ⟨wp, hwp⟩ : ∃ wp : Nat, (mR (ma (H.1 1833) (H.1 1830)) X (ga l1) p).2.1 = wp := ⟨_, rfl⟩
        rw [hwp] at q2 q3 w6 w5
        have hw0 : w0 = wp := by rw [hd9.1] at hwp; exact hwp
        have w1 : (H1.1 1826 50) = (wp : Int) := by rw [← hw0]; exact hd9.2.1 (by omega)
        have hkw := tm_le w6
        have hsg := tm_ok w6 0 (by omega)
        rw [Nat.add_zero] at hsg
        unfold m_sg at hsg
        refine h_run 2 (pc' := 72) (l' := [(0, .inr (.inr 1826)), (1, .inl st), (2, .inl (p : Int)), (3, .inl hw9)]) (st' := [.inl (H1.1 1826 50)]) rfl ?_
        have g51 : -2147483648 ≤ (H1.1 1826 50) ∧ (H1.1 1826 50) ≤ 2147483647 := hrg37.1 1826 13 50 _ .int rfl rfl
        rw [show (H1.1 1826 50) = (wp : Int) by omega]
        refine h_run 5 (pc' := 79) (l' := [(0, .inr (.inr 1826)), (1, .inl st), (2, .inl (wp : Int)), (3, .inl hw9)]) (st' := [.inl (wp : Int), .inr (.inr 1857), .inr (.inr 1826)]) rfl ?_
        refine h_cv (i := 453) (j := 196) (b := 1826) (M' := mt_196) (xs := [.inl (wp : Int), .inr (.inr 1857)]) (rest := []) rfl rfl rfl rfl rfl rfl (Nat.le_of_ble_eq_true rfl) (Nat.le_of_ble_eq_true rfl) (by omega) (n_match (by omega) (c := 1857) (n := 400) (p := wp) (k := kw) (ok := (m_sg (H.1 1826 3) (H.1 1826 8) 0)) (X := X) (g := ga l1) rfl (by decide) (by decide) (fun s9 h9 => by unfold m_sg at h9; unfold sg0; omega) hP1 hX1 (by rw [e_funArity, e_conArity]; exact w6) (by omega) (fun x hx => hM1.2 x (by omega)) (by rw [f_funs]; omega)) ?_
        rintro _ H52 ⟨hx52f, hx52r, rfl, hx52w, hx52R, hx52d⟩
        refine h_rng (fun hrg53 => ?_)
        have hf54 : fr [50, 51, 53, 55, 56] [1855, 1856, 1857] H H52 := fr_t hf hx52f (by decide) (by decide)
        rw [e_funArity, e_conArity] at hx52d
        have hx52b : 0 ≤ hx52r ∧ hx52r ≤ 2 := by have h9 := mR_ok (a := ga l1) (n := N) hnR hRW (by omega) hma w6 (by omega) (by omega); rw [hx52d.1] at h9; rcases h9 with (⟨h8, -⟩ | h8) | ⟨h8, -⟩; { exact ⟨by omega, by omega⟩ }; { have h8 : hx52r = 1 := h8; omega }; { have h8 : hx52r = 2 := h8; omega }
        replace hx52d : hid _ := hx52d
        refine h_run 0 (pc' := 82) (l' := [(0, .inr (.inr 1826)), (1, .inl st), (2, .inl (wp : Int)), (3, .inl hw9)]) (st' := [.inl hx52r]) rfl ?_
        refine h_run 2 (pc' := 63) (l' := [(0, .inr (.inr 1826)), (1, .inl st), (2, .inl (wp : Int)), (3, .inl hx52r)]) (st' := []) rfl ?_
        have g55 : -2147483648 ≤ (H52.1 1826 55) ∧ (H52.1 1826 55) ≤ 2147483647 := hrg53.1 1826 13 55 _ .int rfl rfl
        have e56 : (H52.1 1826 55) = (H1.1 1826 55) := hx52f.2.2 55 (by decide)
        have g57 : -2147483648 ≤ (H52.1 1826 56) ∧ (H52.1 1826 56) ≤ 2147483647 := hrg53.1 1826 13 56 _ .int rfl rfl
        have e58 : (H52.1 1826 56) = (H1.1 1826 56) := hx52f.2.2 56 (by decide)
        have g59 : -2147483648 ≤ (H52.1 1826 53) ∧ (H52.1 1826 53) ≤ 2147483647 := hrg53.1 1826 13 53 _ .int rfl rfl
        have e60 : (H52.1 1826 53) = (H1.1 1826 53) := hx52f.2.2 53 (by decide)
        exact ih.2.2.1 _ (N) (l1) wp (kw) hx52r (hx52w) (hx52R) ((f - 1)) hf54 (by omega : (H52.1 1826 55) = (((N) : Nat) : Int) ∧ (N) ≤ 240) (by omega : 0 ≤ (H52.1 1826 56) ∧ (H52.1 1826 56) ≤ st) (by omega : (H52.1 1826 56) ≠ st) (by rw [show (H52.1 1857) = (H1.1 1857) from hx52f.2.1 1857 (by decide) (by decide)]; exact hM1) hT1 (show evF (ma (H.1 1833) (H.1 1830)) X (st - (H52.1 1826 56)).toNat _ (H52.1 1826 56) = _ from (by rw [show (H52.1 1826 56) = (H1.1 1826 56) by omega]; exact hev)) (by omega) w6 (by omega) (id hx52d) (by omega) (by omega) (by rw [hwt, wt_go (by rw [hd9.1]; exact (by omega : hw9 = 2))]; show wtR _ _ _ f (mR _ _ _ p).2.1 = _; rw [hwp, show f - 1 + 1 = f by omega]) (by omega : 2000 * (st - (H52.1 1826 56)).toNat + 500 + ((N) - wp) < w)
    · intro H1 M i l2 hf hz htk hi hmt hmk hev hcp hw
      refine h_rng (fun hrg61 => ?_)
      obtain ⟨⟨pb1, pb2, pb3, pb4, pb5⟩, pw1, pw2, pw3, pw4⟩ := (id hP : PW H (H.1 1826 1) (H.1 1826 3) (H.1 1826 8) (H.1 1826 13) (H.1 1826 19))
      have hP1 := PWc_fr hP hf (by decide) (by decide)
      have hX1 := RZ9_fr hX hf (by decide) (by decide)
      have e_ruleLeft : (H1.1 1837) = (H.1 1837) := hf.2.1 1837 (by decide) (by decide)
      have e_ruleLeftSize : (H1.1 1838) = (H.1 1838) := hf.2.1 1838 (by decide) (by decide)
      have e_funArity : (H1.1 1833) = (H.1 1833) := hf.2.1 1833 (by decide) (by decide)
      have e_conArity : (H1.1 1830) = (H.1 1830) := hf.2.1 1830 (by decide) (by decide)
      have f_rules : (H1.1 1826 13) = (H.1 1826 13) := hf.2.2 13 (by decide)
      have f_cons : (H1.1 1826 3) = (H.1 1826 3) := hf.2.2 3 (by decide)
      have f_funs : (H1.1 1826 8) = (H.1 1826 8) := hf.2.2 8 (by decide)
      have hRW : ∀ r : Nat, r < ((H.1 1826 13)).toNat → RW9r (ma (H.1 1833) (H.1 1830)) (H.1 1826 3) (H.1 1826 8) X r := fun r hr => RW9r_of hX hP (by omega)
      have hnR : nR X = ((H.1 1826 13)).toNat := by unfold nR; rw [hX.1]
      have hma : ∀ s9 : Int, 1000 ≤ s9 → ma (H.1 1833) (H.1 1830) s9 = 0 := fun s9 h9 => ma_0 (Or.inl h9)
      refine h_run 3 (pc' := 138) (l' := [(0, .inr (.inr 1826)), (1, .inl st), (4, .inl (i : Int))]) (st' := [.inl (H1.1 1826 53), .inl (i : Int)]) rfl ?_
      have g62 : -2147483648 ≤ (H1.1 1826 53) ∧ (H1.1 1826 53) ≤ 2147483647 := hrg61.1 1826 13 53 _ .int rfl rfl
      refine h_ige (off := 23) (t := 161) rfl rfl (by omega) (by omega) (fun c63 => ?_) (fun c63 => ?_)
      · have hMn : MK (H1.1 1857) M l2 := MK_cg hmk (fun x hx => by have h9 := hcp x (by omega); rw [Nat.zero_add] at h9; exact h9)
        refine h_run 1 (pc' := 5) (l' := [(0, .inr (.inr 1826)), (1, .inl st), (4, .inl (i : Int))]) (st' := []) rfl ?_
        have g64 : -2147483648 ≤ (H1.1 1826 55) ∧ (H1.1 1826 55) ≤ 2147483647 := hrg61.1 1826 13 55 _ .int rfl rfl
        have g65 : -2147483648 ≤ (H1.1 1826 56) ∧ (H1.1 1826 56) ≤ 2147483647 := hrg61.1 1826 13 56 _ .int rfl rfl
        refine h_loc [0, 1] rfl ?_
        exact ih.1 _ (M) (l2) hf (by omega : (H1.1 1826 55) = (((M) : Nat) : Int) ∧ (M) ≤ 240) (by omega : 0 ≤ (H1.1 1826 56) ∧ (H1.1 1826 56) ≤ st) hMn hmt (show evF (ma (H.1 1833) (H.1 1830)) X (st - (H1.1 1826 56)).toNat _ (H1.1 1826 56) = _ from (by rw [show (H1.1 1826 56) = (H1.1 1826 56) by omega]; exact hev)) (by omega : 2000 * (st - (H1.1 1826 56)).toNat + 1999 < w)
      · refine h_run 6 (pc' := 153) (l' := [(0, .inr (.inr 1826)), (1, .inl st), (4, .inl (i : Int))]) (st' := [.inl (i : Int), .inr (.inr 1856), .inl (i : Int), .inr (.inr 1857)]) rfl ?_
        refine h_ild (c := 1856) (j := i) (i := (i : Int)) rfl rfl (by decide) rfl (by omega) ?_
        have g66 : -2147483648 ≤ (H1.1 1856 i) ∧ (H1.1 1856 i) ≤ 2147483647 := hrg61.2 1856 i 12000 .int rfl (by omega)
        refine h_run 0 (pc' := 154) (l' := [(0, .inr (.inr 1826)), (1, .inl st), (4, .inl (i : Int))]) (st' := [.inl (H1.1 1856 i), .inl (i : Int), .inr (.inr 1857)]) rfl ?_
        refine h_ist (c := 1857) (j := i) (i := (i : Int)) (x := (H1.1 1856 i)) rfl rfl (by decide) (by decide) rfl (by omega) (by omega) ?_
        refine h_run 2 (pc' := 132) (l' := [(0, .inr (.inr 1826)), (1, .inl st), (4, .inl ((i : Int) + 1))]) (st' := []) rfl ?_
        have g67 : -2147483648 ≤ (H1.1 1826 55) ∧ (H1.1 1826 55) ≤ 2147483647 := hrg61.1 1826 13 55 _ .int rfl rfl
        have g68 : -2147483648 ≤ (H1.1 1826 56) ∧ (H1.1 1826 56) ≤ 2147483647 := hrg61.1 1826 13 56 _ .int rfl rfl
        rw [show ((i : Int) + 1) = (((i + 1) : Nat) : Int) by omega]
        exact ih.2.2.2 _ (M) (i + 1) (l2) (fr_a hf (by decide)) (by omega : (H1.1 1826 55) = (((M) : Nat) : Int) ∧ (H1.1 1826 53) = (((M) : Nat) : Int) ∧ (M) ≤ 120) (by omega : 0 ≤ (H1.1 1826 56) ∧ (H1.1 1826 56) ≤ st) (by omega) hmt hmk (show evF (ma (H.1 1833) (H.1 1830)) X (st - (H1.1 1826 56)).toNat _ (H1.1 1826 56) = _ from (by rw [show (H1.1 1826 56) = (H1.1 1826 56) by omega]; exact hev)) (by have h9 := cp_up hcp; rw [Nat.zero_add] at h9; exact h9) (by omega : 2000 * (st - (H1.1 1826 56)).toNat + 2000 + ((M) - (i + 1)) < w)
set_option maxRecDepth 100000 in
theorem n_run {zC : Nat → Option zsh} {d : Nat} (hd : 5 ≤ d) {H : hp} {st : Int} {N : Nat} {X : rx} {l : List Int} (hst : 0 ≤ st ∧ st ≤ 2000) (hP : PWc H) (hX : RZ9 H X) (hz0 : (H.1 1826 55) = ((N : Nat) : Int) ∧ N ≤ 240) (hM : MK (H.1 1857) N l) (hT : tm (ma (H.1 1833) (H.1 1830)) (m_sg (H.1 1826 3) (H.1 1826 8) 0) (ga l) N 0 1) : hG (zs zC) d mt_200 0 (zargs 0 [.inr (.inr 1826), .inl st]) [] H (fun r9 H2 => fr [50, 51, 53, 55, 56] [1855, 1856, 1857] H H2 ∧ ∃ r0 : Int, r9 = some (.inl r0) ∧ ∃ (M : Nat) (l2 : List Int), evF (ma (H.1 1833) (H.1 1830)) X st.toNat l 0 = (r0, (H2.1 1826 56), l2) ∧ (H2.1 1826 55) = M ∧ M ≤ 240 ∧ MK (H2.1 1857) M l2 ∧ tm (ma (H.1 1833) (H.1 1830)) (m_sg (H.1 1826 3) (H.1 1826 8) 0) (ga l2) M 0 1) := by
  refine h_rng (fun hrg0 => ?_)
  refine h_run 0 (pc' := 0) (l' := [(0, .inr (.inr 1826)), (1, .inl st)]) (st' := []) rfl ?_
  obtain ⟨⟨pb1, pb2, pb3, pb4, pb5⟩, pw1, pw2, pw3, pw4⟩ := (id hP : PW H (H.1 1826 1) (H.1 1826 3) (H.1 1826 8) (H.1 1826 13) (H.1 1826 19))
  refine h_run 2 (pc' := 2) (l' := [(0, .inr (.inr 1826)), (1, .inl st)]) (st' := [.inl 0, .inr (.inr 1826)]) rfl ?_
  refine h_puti (i := 444) (ci := 13) (k := 56) (a := 1826) (x := 0) rfl rfl rfl rfl rfl rfl (by decide) (by decide) ?_
  have g69 : -2147483648 ≤ (H.1 1826 55) ∧ (H.1 1826 55) ≤ 2147483647 := hrg0.1 1826 13 55 _ .int rfl rfl
  have g70 : -2147483648 ≤ (H.1 1826 53) ∧ (H.1 1826 53) ≤ 2147483647 := hrg0.1 1826 13 53 _ .int rfl rfl
  exact (n_run_cut hd hst hP hX hz0 hM hT _).1 _ (N) (l) (fr_o (fr_rf _ _ _) (by decide)) (by omega : (H.1 1826 55) = (((N) : Nat) : Int) ∧ (N) ≤ 240) (by omega : 0 ≤ (0 : Int) ∧ (0 : Int) ≤ st) hM hT (by show evF (ma (H.1 1833) (H.1 1830)) X (st - 0).toNat l 0 = _; rw [Int.sub_zero]) (Nat.lt_succ_self _)
