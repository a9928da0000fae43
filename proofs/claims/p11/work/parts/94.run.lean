/-! the reference works a term out -/
theorem bnd_mono {ar : Int → Int} {ok : Int → Prop} {row rl ba : Nat → Int} {r y a e a' e' : Nat} (h : bnd ar ok row rl ba r y a e) (h1 : a' ≤ a) (h2 : e ≤ e') : bnd ar ok row rl ba r y a' e' := by
  intro x hx hv
  obtain ⟨b, kb, g1, g2, g3, g4⟩ := h x hx hv
  exact ⟨b, kb, g1, by omega, by omega, g4⟩
/-- a place in a term -/
theorem tm_sub {ar : Int → Int} {ok : Int → Prop} {a : Nat → Int} {N p : Nat} (h : tm ar ok a N 0 1) (hp : p < N) : ∃ k : Nat, p + k ≤ N ∧ tm ar ok a k p 1 := by
  obtain ⟨m, g1, g2⟩ := tm_cut (p := p) h (by omega)
  rw [Nat.zero_add] at g2
  have hm : m ≠ 0 := by
    intro e
    subst e
    have := tm_z g2
    omega
  obtain ⟨k1, k2, e, g3, g4⟩ := tm_split (n := 1) (n2 := m - 1) (by rw [show 1 + (m - 1) = m by omega]; exact g2)
  exact ⟨k1, by omega, g3⟩

/-! run -/
set_option maxRecDepth 100000 in
theorem m_run_cut {zC : Nat → Option zsh} {d : Nat} (hd : 5 ≤ d) {H : hp} {st : Int} {N : Nat} (hst : 0 ≤ st ∧ st ≤ 2000) (hP : PWc H) (hz0 : (H.1 1826 55) = ((N : Nat) : Int) ∧ N ≤ 240) (hT : tm (ma (H.1 1833) (H.1 1830)) (m_sg (H.1 1826 3) (H.1 1826 8) 0) (H.1 1857) N 0 1) : ∀ w : Nat, (∀ (H1 : hp) (N : Nat), (fr [50, 51, 53, 55, 56] [1855, 1856, 1857] H H1) → ((H1.1 1826 55) = ((N : Nat) : Int) ∧ N ≤ 240) → (0 ≤ (H1.1 1826 56) ∧ (H1.1 1826 56) ≤ st) → (tm (ma (H.1 1833) (H.1 1830)) (m_sg (H.1 1826 3) (H.1 1826 8) 0) (H1.1 1857) N 0 1) → 2000 * (st - (H1.1 1826 56)).toNat + 1999 < w → hG (zs zC) d mt_200 5 [(0, .inr (.inr 1826)), (1, .inl st)] [] H1 (fun r9 H2 => fr [50, 51, 53, 55, 56] [1855, 1856, 1857] H H2 ∧ ∃ r0 : Int, r9 = some (.inl r0) ∧ (0 ≤ r0 ∧ r0 ≤ 2) ∧ (∃ M : Nat, (H2.1 1826 55) = M ∧ M ≤ 240 ∧ tm (ma (H.1 1833) (H.1 1830)) (m_sg (H.1 1826 3) (H.1 1826 8) 0) (H2.1 1857) M 0 1) ∧ (0 ≤ (H2.1 1826 56) ∧ (H2.1 1826 56) ≤ st))) ∧ (∀ (H1 : hp) (N : Nat) (p : Nat), (fr [50, 51, 53, 55, 56] [1855, 1856, 1857] H H1) → ((H1.1 1826 55) = ((N : Nat) : Int) ∧ N ≤ 240) → (0 ≤ (H1.1 1826 56) ∧ (H1.1 1826 56) ≤ st) → (tm (ma (H.1 1833) (H.1 1830)) (m_sg (H.1 1826 3) (H.1 1826 8) 0) (H1.1 1857) N 0 1) → (p ≤ N) → 2000 * (st - (H1.1 1826 56)).toNat + 1000 + (N - p) < w → hG (zs zC) d mt_200 7 [(0, .inr (.inr 1826)), (1, .inl st), (2, .inl (p : Int))] [] H1 (fun r9 H2 => fr [50, 51, 53, 55, 56] [1855, 1856, 1857] H H2 ∧ ∃ r0 : Int, r9 = some (.inl r0) ∧ (0 ≤ r0 ∧ r0 ≤ 2) ∧ (∃ M : Nat, (H2.1 1826 55) = M ∧ M ≤ 240 ∧ tm (ma (H.1 1833) (H.1 1830)) (m_sg (H.1 1826 3) (H.1 1826 8) 0) (H2.1 1857) M 0 1) ∧ (0 ≤ (H2.1 1826 56) ∧ (H2.1 1826 56) ≤ st))) ∧ (∀ (H1 : hp) (N : Nat) (p : Nat) (k : Nat) (hw9 : Int), (fr [50, 51, 53, 55, 56] [1855, 1856, 1857] H H1) → ((H1.1 1826 55) = ((N : Nat) : Int) ∧ N ≤ 240) → (0 ≤ (H1.1 1826 56) ∧ (H1.1 1826 56) ≤ st) → ((H1.1 1826 56) ≠ st) → (tm (ma (H.1 1833) (H.1 1830)) (m_sg (H.1 1826 3) (H.1 1826 8) 0) (H1.1 1857) N 0 1) → (p + k ≤ N) → (tm (ma (H.1 1833) (H.1 1830)) (m_sg (H.1 1826 3) (H.1 1826 8) 0) (H1.1 1857) k p 1) → (0 ≤ hw9 ∧ hw9 ≤ 2) → (hid ((hw9 = 0 ∧ ∃ r kl : Nat, (H1.1 1826 51) = r ∧ (r : Int) < (H.1 1826 13) ∧ (H.1 1838) r = kl ∧ bnd (ma (H.1 1833) (H.1 1830)) (m_sg (H.1 1826 3) (H.1 1826 8) 0) (H1.1 1857) (H.1 1837) (H1.1 1855) r kl (p + 1) (p + k)) ∨ hw9 = 1 ∨ (hw9 = 2 ∧ ∃ wp : Nat, (H1.1 1826 50) = wp ∧ p < wp ∧ wp < p + k ∧ 100 ≤ (H1.1 1857) wp ∧ ∃ kw : Nat, wp + kw ≤ p + k ∧ tm (ma (H.1 1833) (H.1 1830)) (m_sg (H.1 1826 3) (H.1 1826 8) 0) (H1.1 1857) kw wp 1))) → 2000 * (st - (H1.1 1826 56)).toNat + 500 + (N - p) < w → hG (zs zC) d mt_200 63 [(0, .inr (.inr 1826)), (1, .inl st), (2, .inl (p : Int)), (3, .inl hw9)] [] H1 (fun r9 H2 => fr [50, 51, 53, 55, 56] [1855, 1856, 1857] H H2 ∧ ∃ r0 : Int, r9 = some (.inl r0) ∧ (0 ≤ r0 ∧ r0 ≤ 2) ∧ (∃ M : Nat, (H2.1 1826 55) = M ∧ M ≤ 240 ∧ tm (ma (H.1 1833) (H.1 1830)) (m_sg (H.1 1826 3) (H.1 1826 8) 0) (H2.1 1857) M 0 1) ∧ (0 ≤ (H2.1 1826 56) ∧ (H2.1 1826 56) ≤ st))) ∧ (∀ (H1 : hp) (M : Nat) (i : Nat), (fr [50, 51, 53, 55, 56] [1855, 1856, 1857] H H1) → ((H1.1 1826 55) = ((M : Nat) : Int) ∧ (H1.1 1826 53) = ((M : Nat) : Int) ∧ M ≤ 120) → (0 ≤ (H1.1 1826 56) ∧ (H1.1 1826 56) ≤ st) → (i ≤ M) → (tm (ma (H.1 1833) (H.1 1830)) (m_sg (H.1 1826 3) (H.1 1826 8) 0) (H1.1 1856) M 0 1) → (∀ x, x < i → (H1.1 1857) (0 + x) = (H1.1 1856) x) → 2000 * (st - (H1.1 1826 56)).toNat + 2000 + (M - i) < w → hG (zs zC) d mt_200 132 [(0, .inr (.inr 1826)), (1, .inl st), (4, .inl (i : Int))] [] H1 (fun r9 H2 => fr [50, 51, 53, 55, 56] [1855, 1856, 1857] H H2 ∧ ∃ r0 : Int, r9 = some (.inl r0) ∧ (0 ≤ r0 ∧ r0 ≤ 2) ∧ (∃ M : Nat, (H2.1 1826 55) = M ∧ M ≤ 240 ∧ tm (ma (H.1 1833) (H.1 1830)) (m_sg (H.1 1826 3) (H.1 1826 8) 0) (H2.1 1857) M 0 1) ∧ (0 ≤ (H2.1 1826 56) ∧ (H2.1 1826 56) ≤ st))) := by
  intro w
  induction w with
  | zero => exact ⟨fun _ _ _ _ _ _ h => absurd h (Nat.not_lt_zero _), fun _ _ _ _ _ _ _ _ h => absurd h (Nat.not_lt_zero _), fun _ _ _ _ _ _ _ _ _ _ _ _ _ _ h => absurd h (Nat.not_lt_zero _), fun _ _ _ _ _ _ _ _ _ h => absurd h (Nat.not_lt_zero _)⟩
  | succ w ih =>
    refine ⟨?_, ?_, ?_, ?_⟩
    · intro H1 N hf hz htk hT1 hw
      refine h_rng (fun hrg1 => ?_)
      obtain ⟨⟨pb1, pb2, pb3, pb4, pb5⟩, pw1, pw2, pw3, pw4⟩ := (id hP : PW H (H.1 1826 1) (H.1 1826 3) (H.1 1826 8) (H.1 1826 13) (H.1 1826 19))
      have hP1 := PWc_fr hP hf (by decide) (by decide)
      have e_ruleLeft : (H1.1 1837) = (H.1 1837) := hf.2.1 1837 (by decide) (by decide)
      have e_ruleLeftSize : (H1.1 1838) = (H.1 1838) := hf.2.1 1838 (by decide) (by decide)
      have e_funArity : (H1.1 1833) = (H.1 1833) := hf.2.1 1833 (by decide) (by decide)
      have e_conArity : (H1.1 1830) = (H.1 1830) := hf.2.1 1830 (by decide) (by decide)
      have f_rules : (H1.1 1826 13) = (H.1 1826 13) := hf.2.2 13 (by decide)
      have f_cons : (H1.1 1826 3) = (H.1 1826 3) := hf.2.2 3 (by decide)
      have f_funs : (H1.1 1826 8) = (H.1 1826 8) := hf.2.2 8 (by decide)
      refine h_run 2 (pc' := 7) (l' := [(0, .inr (.inr 1826)), (1, .inl st), (2, .inl 0)]) (st' := []) rfl ?_
      have g2 : -2147483648 ≤ (H1.1 1826 55) ∧ (H1.1 1826 55) ≤ 2147483647 := hrg1.1 1826 13 55 _ .int rfl rfl
      have g3 : -2147483648 ≤ (H1.1 1826 56) ∧ (H1.1 1826 56) ≤ 2147483647 := hrg1.1 1826 13 56 _ .int rfl rfl
      have g4 : -2147483648 ≤ (H1.1 1826 53) ∧ (H1.1 1826 53) ≤ 2147483647 := hrg1.1 1826 13 53 _ .int rfl rfl
      exact ih.2.1 _ (N) 0 hf (by omega : (H1.1 1826 55) = (((N) : Nat) : Int) ∧ (N) ≤ 240) (by omega : 0 ≤ (H1.1 1826 56) ∧ (H1.1 1826 56) ≤ st) hT1 (by omega) (by omega : 2000 * (st - (H1.1 1826 56)).toNat + 1000 + ((N) - 0) < w)
    · intro H1 N p hf hz htk hT1 hp hw
      refine h_rng (fun hrg5 => ?_)
      obtain ⟨⟨pb1, pb2, pb3, pb4, pb5⟩, pw1, pw2, pw3, pw4⟩ := (id hP : PW H (H.1 1826 1) (H.1 1826 3) (H.1 1826 8) (H.1 1826 13) (H.1 1826 19))
      have hP1 := PWc_fr hP hf (by decide) (by decide)
      have e_ruleLeft : (H1.1 1837) = (H.1 1837) := hf.2.1 1837 (by decide) (by decide)
      have e_ruleLeftSize : (H1.1 1838) = (H.1 1838) := hf.2.1 1838 (by decide) (by decide)
      have e_funArity : (H1.1 1833) = (H.1 1833) := hf.2.1 1833 (by decide) (by decide)
      have e_conArity : (H1.1 1830) = (H.1 1830) := hf.2.1 1830 (by decide) (by decide)
      have f_rules : (H1.1 1826 13) = (H.1 1826 13) := hf.2.2 13 (by decide)
      have f_cons : (H1.1 1826 3) = (H.1 1826 3) := hf.2.2 3 (by decide)
      have f_funs : (H1.1 1826 8) = (H.1 1826 8) := hf.2.2 8 (by decide)
      refine h_run 3 (pc' := 12) (l' := [(0, .inr (.inr 1826)), (1, .inl st), (2, .inl (p : Int))]) (st' := [.inl (H1.1 1826 55), .inl (p : Int)]) rfl ?_
      have g6 : -2147483648 ≤ (H1.1 1826 55) ∧ (H1.1 1826 55) ≤ 2147483647 := hrg5.1 1826 13 55 _ .int rfl rfl
      refine h_ige (off := 21) (t := 33) rfl rfl (by omega) (by omega) (fun c7 => ?_) (fun c7 => ?_)
      · refine h_run 3 (pc' := 38) (l' := [(0, .inr (.inr 1826)), (1, .inl st), (2, .inl (p : Int))]) (st' := [.inl (H1.1 1826 55), .inl (p : Int)]) rfl ?_
        refine h_ine (off := 5) (t := 43) rfl rfl (by omega) (by omega) (fun c8 => ?_) (fun c8 => ?_)
        · refine h_run 2 (pc' := 47) (l' := [(0, .inr (.inr 1826)), (1, .inl st), (2, .inl (p : Int))]) (st' := [.inl (H1.1 1826 56)]) rfl ?_
          have g9 : -2147483648 ≤ (H1.1 1826 56) ∧ (H1.1 1826 56) ≤ 2147483647 := hrg5.1 1826 13 56 _ .int rfl rfl
          refine h_run 1 (pc' := 48) (l' := [(0, .inr (.inr 1826)), (1, .inl st), (2, .inl (p : Int))]) (st' := [.inl st, .inl (H1.1 1826 56)]) rfl ?_
          refine h_ine (off := 5) (t := 53) rfl rfl (by omega) (by omega) (fun c10 => ?_) (fun c10 => ?_)
          · obtain ⟨k, hpk, hTp⟩ := tm_sub hT1 (p := p) (by omega)
            have hsg := tm_ok hTp 0 (by have := tm_le hTp; omega)
            rw [Nat.add_zero] at hsg
            unfold m_sg at hsg
            refine h_run 4 (pc' := 59) (l' := [(0, .inr (.inr 1826)), (1, .inl st), (2, .inl (p : Int))]) (st' := [.inl (p : Int), .inr (.inr 1857), .inr (.inr 1826)]) rfl ?_
            refine h_cv (i := 453) (j := 196) (b := 1826) (M' := mt_196) (xs := [.inl (p : Int), .inr (.inr 1857)]) (rest := []) rfl rfl rfl rfl rfl rfl (Nat.le_of_ble_eq_true rfl) (Nat.le_of_ble_eq_true rfl) (by omega) (m_match (by omega) (c := 1857) (n := 400) (p := p) (k := k) (ok := (m_sg (H.1 1826 3) (H.1 1826 8) 0)) rfl (by decide) (by decide) (fun s9 h9 => by unfold m_sg at h9; unfold sg0; omega) hP1 (by rw [e_funArity, e_conArity]; exact hTp) (by omega) (by rw [f_funs]; omega)) ?_
            rintro _ H11 ⟨hx11f, hx11r, rfl, hx11d⟩
            refine h_rng (fun hrg12 => ?_)
            have hf13 : fr [50, 51, 53, 55, 56] [1855, 1856, 1857] H H11 := fr_t hf hx11f (by decide) (by decide)
            have hx11b : 0 ≤ hx11r ∧ hx11r ≤ 2 := by rcases hx11d with ⟨h9, -⟩ | h9 | ⟨h9, -⟩ <;> omega
            rw [e_funArity, e_conArity, e_ruleLeft, e_ruleLeftSize, f_rules] at hx11d
            replace hx11d : hid _ := hx11d
            refine h_run 0 (pc' := 62) (l' := [(0, .inr (.inr 1826)), (1, .inl st), (2, .inl (p : Int))]) (st' := [.inl hx11r]) rfl ?_
            refine h_run 1 (pc' := 63) (l' := [(0, .inr (.inr 1826)), (1, .inl st), (2, .inl (p : Int)), (3, .inl hx11r)]) (st' := []) rfl ?_
            have g14 : -2147483648 ≤ (H11.1 1826 55) ∧ (H11.1 1826 55) ≤ 2147483647 := hrg12.1 1826 13 55 _ .int rfl rfl
            have e15 : (H11.1 1826 55) = (H1.1 1826 55) := hx11f.2.2 55 (by decide)
            have g16 : -2147483648 ≤ (H11.1 1826 56) ∧ (H11.1 1826 56) ≤ 2147483647 := hrg12.1 1826 13 56 _ .int rfl rfl
            have e17 : (H11.1 1826 56) = (H1.1 1826 56) := hx11f.2.2 56 (by decide)
            have g18 : -2147483648 ≤ (H11.1 1826 53) ∧ (H11.1 1826 53) ≤ 2147483647 := hrg12.1 1826 13 53 _ .int rfl rfl
            have e19 : (H11.1 1826 53) = (H1.1 1826 53) := hx11f.2.2 53 (by decide)
            exact ih.2.2.1 _ (N) p (k) hx11r hf13 (by omega : (H11.1 1826 55) = (((N) : Nat) : Int) ∧ (N) ≤ 240) (by omega : 0 ≤ (H11.1 1826 56) ∧ (H11.1 1826 56) ≤ st) (by omega : (H11.1 1826 56) ≠ st) (by rw [show (H11.1 1857) = (H1.1 1857) from hx11f.2.1 1857 (by decide) (by decide)]; exact hT1) (by omega) (by rw [show (H11.1 1857) = (H1.1 1857) from hx11f.2.1 1857 (by decide) (by decide)]; exact hTp) (by omega) (by rw [show (H11.1 1857) = (H1.1 1857) from hx11f.2.1 1857 (by decide) (by decide)]; exact hx11d) (by omega : 2000 * (st - (H11.1 1826 56)).toNat + 500 + ((N) - p) < w)
          · refine h_run 1 (pc' := 52) (l' := [(0, .inr (.inr 1826)), (1, .inl st), (2, .inl (p : Int))]) (st' := [.inl 1]) rfl ?_
            refine h_reti (x := 1) rfl rfl ?_
            exact ⟨hf, 1, rfl, by omega, ⟨N, (by omega : (H1.1 1826 55) = ((N : Nat) : Int)), by omega, hT1⟩, (by omega : 0 ≤ (H1.1 1826 56) ∧ (H1.1 1826 56) ≤ st)⟩
        · refine h_run 1 (pc' := 42) (l' := [(0, .inr (.inr 1826)), (1, .inl st), (2, .inl (p : Int))]) (st' := [.inl 0]) rfl ?_
          refine h_reti (x := 0) rfl rfl ?_
          have g20 : -2147483648 ≤ (H1.1 1826 56) ∧ (H1.1 1826 56) ≤ 2147483647 := hrg5.1 1826 13 56 _ .int rfl rfl
          exact ⟨hf, 0, rfl, by omega, ⟨N, (by omega : (H1.1 1826 55) = ((N : Nat) : Int)), by omega, hT1⟩, (by omega : 0 ≤ (H1.1 1826 56) ∧ (H1.1 1826 56) ≤ st)⟩
      · refine h_run 3 (pc' := 20) (l' := [(0, .inr (.inr 1826)), (1, .inl st), (2, .inl (p : Int))]) (st' := [.inl (p : Int), .inr (.inr 1857)]) rfl ?_
        refine h_ild (c := 1857) (j := p) (i := (p : Int)) rfl rfl (by decide) rfl (by omega) ?_
        have g21 : -2147483648 ≤ (H1.1 1857 p) ∧ (H1.1 1857 p) ≤ 2147483647 := hrg5.2 1857 p 400 .int rfl (by omega)
        refine h_run 0 (pc' := 21) (l' := [(0, .inr (.inr 1826)), (1, .inl st), (2, .inl (p : Int))]) (st' := [.inl (H1.1 1857 p)]) rfl ?_
        refine h_cs (i := 450) (j := 156) (M' := mt_156) (xs := [.inl (H1.1 1857 p)]) (rest := []) rfl rfl rfl rfl rfl (Nat.le_of_ble_eq_true rfl) (Nat.le_of_ble_eq_true rfl) (by omega) (m_isCall (by omega) (by omega)) ?_
        rintro _ _ ⟨⟨rfl, b22⟩ | ⟨rfl, b22⟩, rfl⟩
        · refine h_run 0 (pc' := 24) (l' := [(0, .inr (.inr 1826)), (1, .inl st), (2, .inl (p : Int))]) (st' := [.inl 1]) rfl ?_
          refine h_zne (off := 9) (t := 33) rfl rfl (by decide) (fun _ => ?_) (fun c => absurd c (by decide))
          refine h_run 3 (pc' := 38) (l' := [(0, .inr (.inr 1826)), (1, .inl st), (2, .inl (p : Int))]) (st' := [.inl (H1.1 1826 55), .inl (p : Int)]) rfl ?_
          refine h_ine (off := 5) (t := 43) rfl rfl (by omega) (by omega) (fun c23 => ?_) (fun c23 => ?_)
          · refine h_run 2 (pc' := 47) (l' := [(0, .inr (.inr 1826)), (1, .inl st), (2, .inl (p : Int))]) (st' := [.inl (H1.1 1826 56)]) rfl ?_
            have g24 : -2147483648 ≤ (H1.1 1826 56) ∧ (H1.1 1826 56) ≤ 2147483647 := hrg5.1 1826 13 56 _ .int rfl rfl
            refine h_run 1 (pc' := 48) (l' := [(0, .inr (.inr 1826)), (1, .inl st), (2, .inl (p : Int))]) (st' := [.inl st, .inl (H1.1 1826 56)]) rfl ?_
            refine h_ine (off := 5) (t := 53) rfl rfl (by omega) (by omega) (fun c25 => ?_) (fun c25 => ?_)
            · obtain ⟨k, hpk, hTp⟩ := tm_sub hT1 (p := p) (by omega)
              have hsg := tm_ok hTp 0 (by have := tm_le hTp; omega)
              rw [Nat.add_zero] at hsg
              unfold m_sg at hsg
              refine h_run 4 (pc' := 59) (l' := [(0, .inr (.inr 1826)), (1, .inl st), (2, .inl (p : Int))]) (st' := [.inl (p : Int), .inr (.inr 1857), .inr (.inr 1826)]) rfl ?_
              refine h_cv (i := 453) (j := 196) (b := 1826) (M' := mt_196) (xs := [.inl (p : Int), .inr (.inr 1857)]) (rest := []) rfl rfl rfl rfl rfl rfl (Nat.le_of_ble_eq_true rfl) (Nat.le_of_ble_eq_true rfl) (by omega) (m_match (by omega) (c := 1857) (n := 400) (p := p) (k := k) (ok := (m_sg (H.1 1826 3) (H.1 1826 8) 0)) rfl (by decide) (by decide) (fun s9 h9 => by unfold m_sg at h9; unfold sg0; omega) hP1 (by rw [e_funArity, e_conArity]; exact hTp) (by omega) (by rw [f_funs]; omega)) ?_
              rintro _ H26 ⟨hx26f, hx26r, rfl, hx26d⟩
              refine h_rng (fun hrg27 => ?_)
              have hf28 : fr [50, 51, 53, 55, 56] [1855, 1856, 1857] H H26 := fr_t hf hx26f (by decide) (by decide)
              have hx26b : 0 ≤ hx26r ∧ hx26r ≤ 2 := by rcases hx26d with ⟨h9, -⟩ | h9 | ⟨h9, -⟩ <;> omega
              rw [e_funArity, e_conArity, e_ruleLeft, e_ruleLeftSize, f_rules] at hx26d
              replace hx26d : hid _ := hx26d
              refine h_run 0 (pc' := 62) (l' := [(0, .inr (.inr 1826)), (1, .inl st), (2, .inl (p : Int))]) (st' := [.inl hx26r]) rfl ?_
              refine h_run 1 (pc' := 63) (l' := [(0, .inr (.inr 1826)), (1, .inl st), (2, .inl (p : Int)), (3, .inl hx26r)]) (st' := []) rfl ?_
              have g29 : -2147483648 ≤ (H26.1 1826 55) ∧ (H26.1 1826 55) ≤ 2147483647 := hrg27.1 1826 13 55 _ .int rfl rfl
              have e30 : (H26.1 1826 55) = (H1.1 1826 55) := hx26f.2.2 55 (by decide)
              have g31 : -2147483648 ≤ (H26.1 1826 56) ∧ (H26.1 1826 56) ≤ 2147483647 := hrg27.1 1826 13 56 _ .int rfl rfl
              have e32 : (H26.1 1826 56) = (H1.1 1826 56) := hx26f.2.2 56 (by decide)
              have g33 : -2147483648 ≤ (H26.1 1826 53) ∧ (H26.1 1826 53) ≤ 2147483647 := hrg27.1 1826 13 53 _ .int rfl rfl
              have e34 : (H26.1 1826 53) = (H1.1 1826 53) := hx26f.2.2 53 (by decide)
              exact ih.2.2.1 _ (N) p (k) hx26r hf28 (by omega : (H26.1 1826 55) = (((N) : Nat) : Int) ∧ (N) ≤ 240) (by omega : 0 ≤ (H26.1 1826 56) ∧ (H26.1 1826 56) ≤ st) (by omega : (H26.1 1826 56) ≠ st) (by rw [show (H26.1 1857) = (H1.1 1857) from hx26f.2.1 1857 (by decide) (by decide)]; exact hT1) (by omega) (by rw [show (H26.1 1857) = (H1.1 1857) from hx26f.2.1 1857 (by decide) (by decide)]; exact hTp) (by omega) (by rw [show (H26.1 1857) = (H1.1 1857) from hx26f.2.1 1857 (by decide) (by decide)]; exact hx26d) (by omega : 2000 * (st - (H26.1 1826 56)).toNat + 500 + ((N) - p) < w)
            · refine h_run 1 (pc' := 52) (l' := [(0, .inr (.inr 1826)), (1, .inl st), (2, .inl (p : Int))]) (st' := [.inl 1]) rfl ?_
              refine h_reti (x := 1) rfl rfl ?_
              exact ⟨hf, 1, rfl, by omega, ⟨N, (by omega : (H1.1 1826 55) = ((N : Nat) : Int)), by omega, hT1⟩, (by omega : 0 ≤ (H1.1 1826 56) ∧ (H1.1 1826 56) ≤ st)⟩
          · exfalso
            omega
        · refine h_run 0 (pc' := 24) (l' := [(0, .inr (.inr 1826)), (1, .inl st), (2, .inl (p : Int))]) (st' := [.inl 0]) rfl ?_
          refine h_zne (off := 9) (t := 33) rfl rfl (by decide) (fun c => absurd c (by decide)) (fun _ => ?_)
          refine h_run 2 (pc' := 7) (l' := [(0, .inr (.inr 1826)), (1, .inl st), (2, .inl ((p : Int) + 1))]) (st' := []) rfl ?_
          have g35 : -2147483648 ≤ (H1.1 1826 56) ∧ (H1.1 1826 56) ≤ 2147483647 := hrg5.1 1826 13 56 _ .int rfl rfl
          have g36 : -2147483648 ≤ (H1.1 1826 53) ∧ (H1.1 1826 53) ≤ 2147483647 := hrg5.1 1826 13 53 _ .int rfl rfl
          rw [show ((p : Int) + 1) = (((p + 1) : Nat) : Int) by omega]
          exact ih.2.1 _ (N) (p + 1) hf (by omega : (H1.1 1826 55) = (((N) : Nat) : Int) ∧ (N) ≤ 240) (by omega : 0 ≤ (H1.1 1826 56) ∧ (H1.1 1826 56) ≤ st) hT1 (by omega) (by omega : 2000 * (st - (H1.1 1826 56)).toNat + 1000 + ((N) - (p + 1)) < w)
    · intro H1 N p k hw9 hf hz htk hts hT1 hp hTp hh hd hw
      refine h_rng (fun hrg37 => ?_)
      obtain ⟨⟨pb1, pb2, pb3, pb4, pb5⟩, pw1, pw2, pw3, pw4⟩ := (id hP : PW H (H.1 1826 1) (H.1 1826 3) (H.1 1826 8) (H.1 1826 13) (H.1 1826 19))
      have hP1 := PWc_fr hP hf (by decide) (by decide)
      have e_ruleLeft : (H1.1 1837) = (H.1 1837) := hf.2.1 1837 (by decide) (by decide)
      have e_ruleLeftSize : (H1.1 1838) = (H.1 1838) := hf.2.1 1838 (by decide) (by decide)
      have e_funArity : (H1.1 1833) = (H.1 1833) := hf.2.1 1833 (by decide) (by decide)
      have e_conArity : (H1.1 1830) = (H.1 1830) := hf.2.1 1830 (by decide) (by decide)
      have f_rules : (H1.1 1826 13) = (H.1 1826 13) := hf.2.2 13 (by decide)
      have f_cons : (H1.1 1826 3) = (H.1 1826 3) := hf.2.2 3 (by decide)
      have f_funs : (H1.1 1826 8) = (H.1 1826 8) := hf.2.2 8 (by decide)
      refine h_run 2 (pc' := 65) (l' := [(0, .inr (.inr 1826)), (1, .inl st), (2, .inl (p : Int)), (3, .inl hw9)]) (st' := [.inl 2, .inl hw9]) rfl ?_
      refine h_ine (off := 21) (t := 86) rfl rfl (by omega) (by decide) (fun c38 => ?_) (fun c38 => ?_)
      · refine h_run 5 (pc' := 95) (l' := [(0, .inr (.inr 1826)), (1, .inl st), (2, .inl (p : Int)), (3, .inl hw9)]) (st' := [.inl (H1.1 1826 55), .inr (.inr 1857), .inr (.inr 1826)]) rfl ?_
        have g39 : -2147483648 ≤ (H1.1 1826 55) ∧ (H1.1 1826 55) ≤ 2147483647 := hrg37.1 1826 13 55 _ .int rfl rfl
        refine h_run 2 (pc' := 97) (l' := [(0, .inr (.inr 1826)), (1, .inl st), (2, .inl (p : Int)), (3, .inl hw9)]) (st' := [.inl hw9, .inl (p : Int), .inl (H1.1 1826 55), .inr (.inr 1857), .inr (.inr 1826)]) rfl ?_
        rw [show (H1.1 1826 55) = (N : Int) by omega]
        refine h_cv (i := 456) (j := 199) (b := 1826) (M' := mt_199) (xs := [.inl hw9, .inl (p : Int), .inl (N : Int), .inr (.inr 1857)]) (rest := []) rfl rfl rfl rfl rfl rfl (Nat.le_of_ble_eq_true rfl) (Nat.le_of_ble_eq_true rfl) (by omega) (m_makeDone (by omega) (c := 1857) (n := 400) (N := N) (p := p) (k := k) (ok := (m_sg (H.1 1826 3) (H.1 1826 8) 0)) rfl (by decide) (by decide) (fun s9 h9 => by unfold m_sg at h9; unfold sg0; omega) (by rw [f_cons, f_funs]; exact fun _ h9 => h9) hP1 (by rw [e_funArity, e_conArity]; exact hT1) (by rw [e_funArity, e_conArity]; exact hTp) (by omega) (by omega) (fun q9 => by rcases (id hd : _ ∨ _) with ⟨-, r, kl, x1, x2, x3, x4⟩ | h9 | ⟨h9, -⟩; { exact ⟨r, kl, x1, by rw [f_rules]; exact x2, by rw [e_ruleLeftSize]; exact x3, by rw [e_funArity, e_conArity, e_ruleLeft]; exact bnd_mono x4 (by omega) (by omega)⟩ }; { omega }; { omega })) ?_
        rintro _ H40 ⟨rfl, hx40f, hx40M, hx40z, hx40m, hx40t⟩
        refine h_rng (fun hrg41 => ?_)
        have hf42 : fr [50, 51, 53, 55, 56] [1855, 1856, 1857] H H40 := fr_t hf hx40f (by decide) (by decide)
        refine h_run 0 (pc' := 100) (l' := [(0, .inr (.inr 1826)), (1, .inl st), (2, .inl (p : Int)), (3, .inl hw9)]) (st' := []) rfl ?_
        refine h_run 2 (pc' := 104) (l' := [(0, .inr (.inr 1826)), (1, .inl st), (2, .inl (p : Int)), (3, .inl hw9)]) (st' := [.inl (H40.1 1826 53)]) rfl ?_
        have g43 : -2147483648 ≤ (H40.1 1826 53) ∧ (H40.1 1826 53) ≤ 2147483647 := hrg41.1 1826 13 53 _ .int rfl rfl
        refine h_run 1 (pc' := 106) (l' := [(0, .inr (.inr 1826)), (1, .inl st), (2, .inl (p : Int)), (3, .inl hw9)]) (st' := [.inl 120, .inl (H40.1 1826 53)]) rfl ?_
        refine h_ile (off := 5) (t := 111) rfl rfl (by omega) (by decide) (fun c44 => ?_) (fun c44 => ?_)
        · have hmt9 : tm (ma (H.1 1833) (H.1 1830)) (m_sg (H.1 1826 3) (H.1 1826 8) 0) (H40.1 1856) hx40M 0 1 := by have h9 := hx40t; rw [e_funArity, e_conArity] at h9; exact h9
          refine h_run 3 (pc' := 116) (l' := [(0, .inr (.inr 1826)), (1, .inl st), (2, .inl (p : Int)), (3, .inl hw9)]) (st' := [.inl (H40.1 1826 56), .inr (.inr 1826)]) rfl ?_
          have g45 : -2147483648 ≤ (H40.1 1826 56) ∧ (H40.1 1826 56) ≤ 2147483647 := hrg41.1 1826 13 56 _ .int rfl rfl
          have e46 : (H40.1 1826 56) = (H1.1 1826 56) := hx40f.2.2 56 (by decide)
          refine h_run 2 (pc' := 118) (l' := [(0, .inr (.inr 1826)), (1, .inl st), (2, .inl (p : Int)), (3, .inl hw9)]) (st' := [.inl ((H40.1 1826 56) + 1), .inr (.inr 1826)]) rfl ?_
          refine h_puti (i := 444) (ci := 13) (k := 56) (a := 1826) (x := ((H40.1 1826 56) + 1)) rfl rfl rfl rfl rfl rfl (by decide) (by omega) ?_
          refine h_run 3 (pc' := 126) (l' := [(0, .inr (.inr 1826)), (1, .inl st), (2, .inl (p : Int)), (3, .inl hw9)]) (st' := [.inl (H40.1 1826 53), .inr (.inr 1826)]) rfl ?_
          refine h_puti (i := 447) (ci := 13) (k := 55) (a := 1826) (x := (H40.1 1826 53)) rfl rfl rfl rfl rfl rfl (by decide) (by omega) ?_
          refine h_run 2 (pc' := 132) (l' := [(0, .inr (.inr 1826)), (1, .inl st), (2, .inl (p : Int)), (3, .inl hw9), (4, .inl 0)]) (st' := []) rfl ?_
          refine h_loc [0, 1, 4] rfl ?_
          exact ih.2.2.2 _ (hx40M) 0 (fr_o (fr_o hf42 (by decide)) (by decide)) (by omega : (H40.1 1826 53) = (((hx40M) : Nat) : Int) ∧ (H40.1 1826 53) = (((hx40M) : Nat) : Int) ∧ (hx40M) ≤ 120) (by omega : 0 ≤ ((H40.1 1826 56) + 1) ∧ ((H40.1 1826 56) + 1) ≤ st) (by omega) hmt9 (fun x hx => absurd hx (Nat.not_lt_zero _)) (by omega : 2000 * (st - ((H40.1 1826 56) + 1)).toNat + 2000 + ((hx40M) - 0) < w)
        · refine h_run 1 (pc' := 110) (l' := [(0, .inr (.inr 1826)), (1, .inl st), (2, .inl (p : Int)), (3, .inl hw9)]) (st' := [.inl 2]) rfl ?_
          refine h_reti (x := 2) rfl rfl ?_
          have g47 : -2147483648 ≤ (H40.1 1826 55) ∧ (H40.1 1826 55) ≤ 2147483647 := hrg41.1 1826 13 55 _ .int rfl rfl
          have e48 : (H40.1 1826 55) = (H1.1 1826 55) := hx40f.2.2 55 (by decide)
          have g49 : -2147483648 ≤ (H40.1 1826 56) ∧ (H40.1 1826 56) ≤ 2147483647 := hrg41.1 1826 13 56 _ .int rfl rfl
          have e50 : (H40.1 1826 56) = (H1.1 1826 56) := hx40f.2.2 56 (by decide)
          exact ⟨hf42, 2, rfl, by omega, ⟨N, (by omega : (H40.1 1826 55) = ((N : Nat) : Int)), by omega, (by rw [show (H40.1 1857) = (H1.1 1857) from hx40f.2.1 1857 (by decide) (by decide)]; exact hT1)⟩, (by omega : 0 ≤ (H40.1 1826 56) ∧ (H40.1 1826 56) ≤ st)⟩
      · obtain ⟨wp, w1, w2, w3, w4, kw, w5, w6⟩ : ∃ wp : Nat, (H1.1 1826 50) = wp ∧ p < wp ∧ wp < p + k ∧ 100 ≤ (H1.1 1857) wp ∧ ∃ kw : Nat, wp + kw ≤ p + k ∧ tm (ma (H.1 1833) (H.1 1830)) (m_sg (H.1 1826 3) (H.1 1826 8) 0) (H1.1 1857) kw wp 1 := by rcases (id hd : _ ∨ _) with ⟨h9, -⟩ | h9 | ⟨-, h9⟩; { omega }; { omega }; { exact h9 }
        have hsg := tm_ok w6 0 (by have := tm_le w6; omega)
        rw [Nat.add_zero] at hsg
        unfold m_sg at hsg
        refine h_run 2 (pc' := 72) (l' := [(0, .inr (.inr 1826)), (1, .inl st), (2, .inl (p : Int)), (3, .inl hw9)]) (st' := [.inl (H1.1 1826 50)]) rfl ?_
        have g51 : -2147483648 ≤ (H1.1 1826 50) ∧ (H1.1 1826 50) ≤ 2147483647 := hrg37.1 1826 13 50 _ .int rfl rfl
        rw [show (H1.1 1826 50) = (wp : Int) by omega]
        refine h_run 5 (pc' := 79) (l' := [(0, .inr (.inr 1826)), (1, .inl st), (2, .inl (wp : Int)), (3, .inl hw9)]) (st' := [.inl (wp : Int), .inr (.inr 1857), .inr (.inr 1826)]) rfl ?_
        refine h_cv (i := 453) (j := 196) (b := 1826) (M' := mt_196) (xs := [.inl (wp : Int), .inr (.inr 1857)]) (rest := []) rfl rfl rfl rfl rfl rfl (Nat.le_of_ble_eq_true rfl) (Nat.le_of_ble_eq_true rfl) (by omega) (m_match (by omega) (c := 1857) (n := 400) (p := wp) (k := kw) (ok := (m_sg (H.1 1826 3) (H.1 1826 8) 0)) rfl (by decide) (by decide) (fun s9 h9 => by unfold m_sg at h9; unfold sg0; omega) hP1 (by rw [e_funArity, e_conArity]; exact w6) (by omega) (by rw [f_funs]; omega)) ?_
        rintro _ H52 ⟨hx52f, hx52r, rfl, hx52d⟩
        refine h_rng (fun hrg53 => ?_)
        have hf54 : fr [50, 51, 53, 55, 56] [1855, 1856, 1857] H H52 := fr_t hf hx52f (by decide) (by decide)
        have hx52b : 0 ≤ hx52r ∧ hx52r ≤ 2 := by rcases hx52d with ⟨h9, -⟩ | h9 | ⟨h9, -⟩ <;> omega
        rw [e_funArity, e_conArity, e_ruleLeft, e_ruleLeftSize, f_rules] at hx52d
        replace hx52d : hid _ := hx52d
        refine h_run 0 (pc' := 82) (l' := [(0, .inr (.inr 1826)), (1, .inl st), (2, .inl (wp : Int)), (3, .inl hw9)]) (st' := [.inl hx52r]) rfl ?_
        refine h_run 2 (pc' := 63) (l' := [(0, .inr (.inr 1826)), (1, .inl st), (2, .inl (wp : Int)), (3, .inl hx52r)]) (st' := []) rfl ?_
        have g55 : -2147483648 ≤ (H52.1 1826 55) ∧ (H52.1 1826 55) ≤ 2147483647 := hrg53.1 1826 13 55 _ .int rfl rfl
        have e56 : (H52.1 1826 55) = (H1.1 1826 55) := hx52f.2.2 55 (by decide)
        have g57 : -2147483648 ≤ (H52.1 1826 56) ∧ (H52.1 1826 56) ≤ 2147483647 := hrg53.1 1826 13 56 _ .int rfl rfl
        have e58 : (H52.1 1826 56) = (H1.1 1826 56) := hx52f.2.2 56 (by decide)
        have g59 : -2147483648 ≤ (H52.1 1826 53) ∧ (H52.1 1826 53) ≤ 2147483647 := hrg53.1 1826 13 53 _ .int rfl rfl
        have e60 : (H52.1 1826 53) = (H1.1 1826 53) := hx52f.2.2 53 (by decide)
        exact ih.2.2.1 _ (N) wp (kw) hx52r hf54 (by omega : (H52.1 1826 55) = (((N) : Nat) : Int) ∧ (N) ≤ 240) (by omega : 0 ≤ (H52.1 1826 56) ∧ (H52.1 1826 56) ≤ st) (by omega : (H52.1 1826 56) ≠ st) (by rw [show (H52.1 1857) = (H1.1 1857) from hx52f.2.1 1857 (by decide) (by decide)]; exact hT1) (by omega) (by rw [show (H52.1 1857) = (H1.1 1857) from hx52f.2.1 1857 (by decide) (by decide)]; exact w6) (by omega) (by rw [show (H52.1 1857) = (H1.1 1857) from hx52f.2.1 1857 (by decide) (by decide)]; exact hx52d) (by omega : 2000 * (st - (H52.1 1826 56)).toNat + 500 + ((N) - wp) < w)
    · intro H1 M i hf hz htk hi hmt hcp hw
      refine h_rng (fun hrg61 => ?_)
      obtain ⟨⟨pb1, pb2, pb3, pb4, pb5⟩, pw1, pw2, pw3, pw4⟩ := (id hP : PW H (H.1 1826 1) (H.1 1826 3) (H.1 1826 8) (H.1 1826 13) (H.1 1826 19))
      have hP1 := PWc_fr hP hf (by decide) (by decide)
      have e_ruleLeft : (H1.1 1837) = (H.1 1837) := hf.2.1 1837 (by decide) (by decide)
      have e_ruleLeftSize : (H1.1 1838) = (H.1 1838) := hf.2.1 1838 (by decide) (by decide)
      have e_funArity : (H1.1 1833) = (H.1 1833) := hf.2.1 1833 (by decide) (by decide)
      have e_conArity : (H1.1 1830) = (H.1 1830) := hf.2.1 1830 (by decide) (by decide)
      have f_rules : (H1.1 1826 13) = (H.1 1826 13) := hf.2.2 13 (by decide)
      have f_cons : (H1.1 1826 3) = (H.1 1826 3) := hf.2.2 3 (by decide)
      have f_funs : (H1.1 1826 8) = (H.1 1826 8) := hf.2.2 8 (by decide)
      refine h_run 3 (pc' := 138) (l' := [(0, .inr (.inr 1826)), (1, .inl st), (4, .inl (i : Int))]) (st' := [.inl (H1.1 1826 53), .inl (i : Int)]) rfl ?_
      have g62 : -2147483648 ≤ (H1.1 1826 53) ∧ (H1.1 1826 53) ≤ 2147483647 := hrg61.1 1826 13 53 _ .int rfl rfl
      refine h_ige (off := 23) (t := 161) rfl rfl (by omega) (by omega) (fun c63 => ?_) (fun c63 => ?_)
      · have hTn : tm (ma (H.1 1833) (H.1 1830)) (m_sg (H.1 1826 3) (H.1 1826 8) 0) (H1.1 1857) M 0 1 := tm_at hmt (fun x hx => by rw [hcp x (by omega), Nat.zero_add])
        refine h_run 1 (pc' := 5) (l' := [(0, .inr (.inr 1826)), (1, .inl st), (4, .inl (i : Int))]) (st' := []) rfl ?_
        have g64 : -2147483648 ≤ (H1.1 1826 55) ∧ (H1.1 1826 55) ≤ 2147483647 := hrg61.1 1826 13 55 _ .int rfl rfl
        have g65 : -2147483648 ≤ (H1.1 1826 56) ∧ (H1.1 1826 56) ≤ 2147483647 := hrg61.1 1826 13 56 _ .int rfl rfl
        refine h_loc [0, 1] rfl ?_
        exact ih.1 _ (M) hf (by omega : (H1.1 1826 55) = (((M) : Nat) : Int) ∧ (M) ≤ 240) (by omega : 0 ≤ (H1.1 1826 56) ∧ (H1.1 1826 56) ≤ st) hTn (by omega : 2000 * (st - (H1.1 1826 56)).toNat + 1999 < w)
      · refine h_run 6 (pc' := 153) (l' := [(0, .inr (.inr 1826)), (1, .inl st), (4, .inl (i : Int))]) (st' := [.inl (i : Int), .inr (.inr 1856), .inl (i : Int), .inr (.inr 1857)]) rfl ?_
        refine h_ild (c := 1856) (j := i) (i := (i : Int)) rfl rfl (by decide) rfl (by omega) ?_
        have g66 : -2147483648 ≤ (H1.1 1856 i) ∧ (H1.1 1856 i) ≤ 2147483647 := hrg61.2 1856 i 12000 .int rfl (by omega)
        refine h_run 0 (pc' := 154) (l' := [(0, .inr (.inr 1826)), (1, .inl st), (4, .inl (i : Int))]) (st' := [.inl (H1.1 1856 i), .inl (i : Int), .inr (.inr 1857)]) rfl ?_
        refine h_ist (c := 1857) (j := i) (i := (i : Int)) (x := (H1.1 1856 i)) rfl rfl (by decide) (by decide) rfl (by omega) (by omega) ?_
        refine h_run 2 (pc' := 132) (l' := [(0, .inr (.inr 1826)), (1, .inl st), (4, .inl ((i : Int) + 1))]) (st' := []) rfl ?_
        have g67 : -2147483648 ≤ (H1.1 1826 55) ∧ (H1.1 1826 55) ≤ 2147483647 := hrg61.1 1826 13 55 _ .int rfl rfl
        have g68 : -2147483648 ≤ (H1.1 1826 56) ∧ (H1.1 1826 56) ≤ 2147483647 := hrg61.1 1826 13 56 _ .int rfl rfl
        rw [show ((i : Int) + 1) = (((i + 1) : Nat) : Int) by omega]
        exact ih.2.2.2 _ (M) (i + 1) (fr_a hf (by decide)) (by omega : (H1.1 1826 55) = (((M) : Nat) : Int) ∧ (H1.1 1826 53) = (((M) : Nat) : Int) ∧ (M) ≤ 120) (by omega : 0 ≤ (H1.1 1826 56) ∧ (H1.1 1826 56) ≤ st) (by omega) hmt (by have h9 := cp_up hcp; rw [Nat.zero_add] at h9; exact h9) (by omega : 2000 * (st - (H1.1 1826 56)).toNat + 2000 + ((M) - (i + 1)) < w)
set_option maxRecDepth 100000 in
theorem m_run {zC : Nat → Option zsh} {d : Nat} (hd : 5 ≤ d) {H : hp} {st : Int} {N : Nat} (hst : 0 ≤ st ∧ st ≤ 2000) (hP : PWc H) (hz0 : (H.1 1826 55) = ((N : Nat) : Int) ∧ N ≤ 240) (hT : tm (ma (H.1 1833) (H.1 1830)) (m_sg (H.1 1826 3) (H.1 1826 8) 0) (H.1 1857) N 0 1) : hG (zs zC) d mt_200 0 (zargs 0 [.inr (.inr 1826), .inl st]) [] H (fun r9 H2 => fr [50, 51, 53, 55, 56] [1855, 1856, 1857] H H2 ∧ ∃ r0 : Int, r9 = some (.inl r0) ∧ (0 ≤ r0 ∧ r0 ≤ 2) ∧ (∃ M : Nat, (H2.1 1826 55) = M ∧ M ≤ 240 ∧ tm (ma (H.1 1833) (H.1 1830)) (m_sg (H.1 1826 3) (H.1 1826 8) 0) (H2.1 1857) M 0 1) ∧ (0 ≤ (H2.1 1826 56) ∧ (H2.1 1826 56) ≤ st)) := by
  refine h_rng (fun hrg0 => ?_)
  refine h_run 0 (pc' := 0) (l' := [(0, .inr (.inr 1826)), (1, .inl st)]) (st' := []) rfl ?_
  obtain ⟨⟨pb1, pb2, pb3, pb4, pb5⟩, pw1, pw2, pw3, pw4⟩ := (id hP : PW H (H.1 1826 1) (H.1 1826 3) (H.1 1826 8) (H.1 1826 13) (H.1 1826 19))
  refine h_run 2 (pc' := 2) (l' := [(0, .inr (.inr 1826)), (1, .inl st)]) (st' := [.inl 0, .inr (.inr 1826)]) rfl ?_
  refine h_puti (i := 444) (ci := 13) (k := 56) (a := 1826) (x := 0) rfl rfl rfl rfl rfl rfl (by decide) (by decide) ?_
  have g69 : -2147483648 ≤ (H.1 1826 55) ∧ (H.1 1826 55) ≤ 2147483647 := hrg0.1 1826 13 55 _ .int rfl rfl
  have g70 : -2147483648 ≤ (H.1 1826 53) ∧ (H.1 1826 53) ≤ 2147483647 := hrg0.1 1826 13 53 _ .int rfl rfl
  exact (m_run_cut hd hst hP hz0 hT _).1 _ (N) (fr_o (fr_rf _ _ _) (by decide)) (by omega : (H.1 1826 55) = (((N) : Nat) : Int) ∧ (N) ≤ 240) (by omega : 0 ≤ (0 : Int) ∧ (0 : Int) ≤ st) hT (Nat.lt_succ_self _)
