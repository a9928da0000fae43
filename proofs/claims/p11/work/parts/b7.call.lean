/-! the reference: cases of a call -/
theorem tm_drop {ar : Int → Int} {ok ok' : Int → Prop} {a : Nat → Int} : ∀ {k1 K i n1 n2 : Nat}, tm ar ok a k1 i n1 → tm ar ok' a K i (n1 + n2) → k1 ≤ K → tm ar ok' a (K - k1) (i + k1) n2
  | 0, K, i, n1, n2, h, g, _ => by
    have h : n1 = 0 := h
    subst h
    rw [Nat.zero_add] at g
    exact g
  | k1 + 1, 0, i, n1, n2, h, g, hl => absurd hl (by omega)
  | k1 + 1, K + 1, i, n1, n2, h, g, hl => by
    obtain ⟨h0, -, m, h2, -, h4⟩ := h
    obtain ⟨-, -, m', g2, -, g4⟩ := g
    have e : m' = m := by omega
    subst e
    rw [show n1 + n2 - 1 + m' = (n1 - 1 + m') + n2 by omega] at g4
    have r := tm_drop h4 g4 (by omega)
    rw [show K + 1 - (k1 + 1) = K - k1 by omega, show i + (k1 + 1) = i + 1 + k1 by omega]
    exact r

/-! isToldFor -/
set_option maxRecDepth 100000 in
theorem m_isToldFor_cut {zC : Nat → Option zsh} {d : Nat} (hd : 1 ≤ d) {H : hp} {P : hp} {g n cs sn : Nat} (hg : g < 40) (hn : (H.1 1879) g = (n : Int) ∧ n ≤ 8) (hh : ∀ h, h < 2 * n → hOK P H (16 * g + h)) (hcs : (H.1 1826 101) = (cs : Int) ∧ 1 ≤ cs ∧ cs ≤ 60) (hct : tm (ma (P.1 1833) (P.1 1830)) (m_sg (P.1 1826 3) (P.1 1826 8) 60) (H.1 1888) cs 0 1) (hsn : (H.1 1826 99) = (sn : Int) ∧ sn ≤ 4) (hst : tm (ma (P.1 1833) (P.1 1830)) (m_sg (P.1 1826 3) (P.1 1826 8) 60) (H.1 1887) sn 0 1) : ∀ w : Nat, (∀ (H1 : hp) (a : Nat) (k : Nat), (fr [] [1879, 1880, 1881] H H1) → (a = 16 * g + 2 * n ∧ n < 8) → ((H1.1 1879) = (H.1 1879)) → (∀ x, x ≠ g → sH H H1 x) → (∀ x, x < 2 * n → hOK P H1 (16 * g + x)) → ((H1.1 1881) a = (cs : Int)) → ((H1.1 1881) (a + 1) = (sn : Int)) → (k ≤ cs) → (∀ x, x < k → (H1.1 1880) (64 * a + x) = (H.1 1888) x) → 1000 - k < w → hG (zs zC) d mt_260 51 [(0, .inr (.inr 1826)), (1, .inl (g : Int)), (2, .inl (a : Int)), (3, .inl (k : Int))] [] H1 (fun r9 H2 => fr [] [1879, 1880, 1881] H H2 ∧ (∀ x, x ≠ g → sH H H2 x) ∧ hysOK P H2 g ∧ (r9 = some (.inl 0) ∨ r9 = some (.inl 1)))) ∧ (∀ (H1 : hp) (a : Nat) (k : Nat), (fr [] [1879, 1880, 1881] H H1) → (a = 16 * g + 2 * n ∧ n < 8) → ((H1.1 1879) = (H.1 1879)) → (∀ x, x ≠ g → sH H H1 x) → (∀ x, x < 2 * n → hOK P H1 (16 * g + x)) → ((H1.1 1881) a = (cs : Int)) → ((H1.1 1881) (a + 1) = (sn : Int)) → (∀ x, x < cs → (H1.1 1880) (64 * a + x) = (H.1 1888) x) → (k ≤ sn) → (∀ x, x < k → (H1.1 1880) (64 * (a + 1) + x) = (H.1 1887) x) → 100 - k < w → hG (zs zC) d mt_260 84 [(0, .inr (.inr 1826)), (1, .inl (g : Int)), (2, .inl (a : Int)), (3, .inl (k : Int))] [] H1 (fun r9 H2 => fr [] [1879, 1880, 1881] H H2 ∧ (∀ x, x ≠ g → sH H H2 x) ∧ hysOK P H2 g ∧ (r9 = some (.inl 0) ∨ r9 = some (.inl 1)))) := by
  intro w
  induction w with
  | zero => exact ⟨fun _ _ _ _ _ _ _ _ _ _ _ _ h => absurd h (Nat.not_lt_zero _), fun _ _ _ _ _ _ _ _ _ _ _ _ _ h => absurd h (Nat.not_lt_zero _)⟩
  | succ w ih =>
    refine ⟨?_, ?_⟩
    · intro H1 a k hf ha hyy ho hold hz0 hz1 hk hcp hw
      refine h_rng (fun hrg1 => ?_)
      have ecl : (H1.1 1888) = (H.1 1888) := hf.2.1 1888 (by decide) (by decide)
      have fcs : (H1.1 1826 101) = (H.1 1826 101) := hf.2.2 101 (by decide)
      have e_st : (H1.1 1887) = (H.1 1887) := hf.2.1 1887 (by decide) (by decide)
      have f_ss : (H1.1 1826 99) = (H.1 1826 99) := hf.2.2 99 (by decide)
      have hy1 : (H1.1 1879) g = (n : Int) := by rw [hyy]; exact hn.1
      refine h_run 3 (pc' := 56) (l' := [(0, .inr (.inr 1826)), (1, .inl (g : Int)), (2, .inl (a : Int)), (3, .inl (k : Int))]) (st' := [.inl (H1.1 1826 101), .inl (k : Int)]) rfl ?_
      have g2 : -2147483648 ≤ (H1.1 1826 101) ∧ (H1.1 1826 101) ≤ 2147483647 := hrg1.1 1826 13 101 _ .int rfl rfl
      have e3 : (H1.1 1826 101) = (H.1 1826 101) := hf.2.2 101 (by decide)
      refine h_ige (off := 26) (t := 82) rfl rfl (by omega) (by omega) (fun c4 => ?_) (fun c4 => ?_)
      · refine h_run 2 (pc' := 84) (l' := [(0, .inr (.inr 1826)), (1, .inl (g : Int)), (2, .inl (a : Int)), (3, .inl 0)]) (st' := []) rfl ?_
        exact ih.2 _ a 0 hf (by omega) hyy ho hold hz0 hz1 (fun x hx => hcp x (by omega)) (by omega) (fun x hx => absurd hx (Nat.not_lt_zero _)) (by omega : 100 - 0 < w)
      · refine h_run 10 (pc' := 74) (l' := [(0, .inr (.inr 1826)), (1, .inl (g : Int)), (2, .inl (a : Int)), (3, .inl (k : Int))]) (st' := [.inl (k : Int), .inr (.inr 1888), .inl ((64 * (a : Int)) + (k : Int)), .inr (.inr 1880)]) rfl ?_
        refine h_ild (c := 1888) (j := k) (i := (k : Int)) rfl rfl (by decide) rfl (by omega) ?_
        have g5 : -2147483648 ≤ (H1.1 1888 k) ∧ (H1.1 1888 k) ≤ 2147483647 := hrg1.2 1888 k 64 .int rfl (by omega)
        have e6 : (H1.1 1888 k) = (H.1 1888 k) := congrFun (hf.2.1 1888 (by decide) (by decide)) k
        refine h_run 0 (pc' := 75) (l' := [(0, .inr (.inr 1826)), (1, .inl (g : Int)), (2, .inl (a : Int)), (3, .inl (k : Int))]) (st' := [.inl (H1.1 1888 k), .inl ((64 * (a : Int)) + (k : Int)), .inr (.inr 1880)]) rfl ?_
        refine h_ist (c := 1880) (j := ((64 * a) + k)) (i := ((64 * (a : Int)) + (k : Int))) (x := (H1.1 1888 k)) rfl rfl (by decide) (by decide) (by omega) (by omega) (by omega) ?_
        refine h_run 2 (pc' := 51) (l' := [(0, .inr (.inr 1826)), (1, .inl (g : Int)), (2, .inl (a : Int)), (3, .inl ((k : Int) + 1))]) (st' := []) rfl ?_
        rw [show ((k : Int) + 1) = (((k + 1) : Nat) : Int) by omega]
        exact ih.1 _ a (k + 1) (fr_a hf (by decide)) (by omega) hyy (fun x hx => sH_tr (ho x hx) (sH_uy _ (by omega) x hx)) (fun x hx => hOK_k (hold x hx) rfl (fun y hy => (show up (H1.1 1880) ((64 * a) + k) (H1.1 1888 k) (64 * (16 * g + x) + y) = _ from up_ne _ _ (by omega)))) hz0 hz1 (by omega) (fun x hx => by show up (H1.1 1880) (64 * a + k) ((H1.1 1888) k) (64 * a + x) = _; rw [up_if, ecl]; by_cases e9 : x = k; { rw [if_pos (by omega), e9] }; { rw [if_neg (by omega)]; exact hcp x (by omega) }) (by omega : 1000 - (k + 1) < w)
    · intro H1 a k hf ha hyy ho hold hz0 hz1 hc1 hk hcp hw
      refine h_rng (fun hrg7 => ?_)
      have ecl : (H1.1 1888) = (H.1 1888) := hf.2.1 1888 (by decide) (by decide)
      have fcs : (H1.1 1826 101) = (H.1 1826 101) := hf.2.2 101 (by decide)
      have e_st : (H1.1 1887) = (H.1 1887) := hf.2.1 1887 (by decide) (by decide)
      have f_ss : (H1.1 1826 99) = (H.1 1826 99) := hf.2.2 99 (by decide)
      have hy1 : (H1.1 1879) g = (n : Int) := by rw [hyy]; exact hn.1
      refine h_run 3 (pc' := 89) (l' := [(0, .inr (.inr 1826)), (1, .inl (g : Int)), (2, .inl (a : Int)), (3, .inl (k : Int))]) (st' := [.inl (H1.1 1826 99), .inl (k : Int)]) rfl ?_
      have g8 : -2147483648 ≤ (H1.1 1826 99) ∧ (H1.1 1826 99) ≤ 2147483647 := hrg7.1 1826 13 99 _ .int rfl rfl
      have e9 : (H1.1 1826 99) = (H.1 1826 99) := hf.2.2 99 (by decide)
      refine h_ige (off := 28) (t := 117) rfl rfl (by omega) (by omega) (fun c10 => ?_) (fun c10 => ?_)
      · refine h_run 4 (pc' := 123) (l' := [(0, .inr (.inr 1826)), (1, .inl (g : Int)), (2, .inl (a : Int)), (3, .inl (k : Int))]) (st' := [.inl (g : Int), .inr (.inr 1879), .inl (g : Int), .inr (.inr 1879)]) rfl ?_
        refine h_ild (c := 1879) (j := g) (i := (g : Int)) rfl rfl (by decide) rfl (by omega) ?_
        have g11 : -2147483648 ≤ (H1.1 1879 g) ∧ (H1.1 1879 g) ≤ 2147483647 := hrg7.2 1879 g 40 .int rfl (by omega)
        refine h_run 0 (pc' := 124) (l' := [(0, .inr (.inr 1826)), (1, .inl (g : Int)), (2, .inl (a : Int)), (3, .inl (k : Int))]) (st' := [.inl (H1.1 1879 g), .inl (g : Int), .inr (.inr 1879)]) rfl ?_
        refine h_run 2 (pc' := 126) (l' := [(0, .inr (.inr 1826)), (1, .inl (g : Int)), (2, .inl (a : Int)), (3, .inl (k : Int))]) (st' := [.inl ((H1.1 1879 g) + 1), .inl (g : Int), .inr (.inr 1879)]) rfl ?_
        refine h_ist (c := 1879) (j := g) (i := (g : Int)) (x := ((H1.1 1879 g) + 1)) rfl rfl (by decide) (by decide) rfl (by omega) (by omega) ?_
        refine h_run 1 (pc' := 128) (l' := [(0, .inr (.inr 1826)), (1, .inl (g : Int)), (2, .inl (a : Int)), (3, .inl (k : Int))]) (st' := [.inl 1]) rfl ?_
        refine h_retz (x := 1) rfl rfl (by decide) ?_
        refine ⟨(fr_a hf (by decide)), fun x hx => sH_tr (ho x hx) (sH_un _ x hx), ?_, Or.inr rfl⟩
        refine hys_more (H := H1) (n := n) (show up (H1.1 1879) g ((H1.1 1879) g + 1) = _ by rw [hy1]) ha.2 (fun x hx => hOK_k (hold x hx) rfl (fun _ _ => rfl)) (fun x hx => ?_)
        rcases (show x = 0 ∨ x = 1 by omega) with rfl | rfl
        · rw [show 16 * g + 2 * n + 0 = a by omega]
          exact ⟨cs, hz0, hcs.2.2, tm_okf (tm_at hct (fun y hy => by rw [Nat.zero_add]; exact hc1 y hy))⟩
        · rw [show 16 * g + 2 * n + 1 = a + 1 by omega]
          exact ⟨sn, hz1, by omega, tm_okf (tm_at hst (fun y hy => by rw [Nat.zero_add]; exact hcp y (by omega)))⟩
      · refine h_run 12 (pc' := 109) (l' := [(0, .inr (.inr 1826)), (1, .inl (g : Int)), (2, .inl (a : Int)), (3, .inl (k : Int))]) (st' := [.inl (k : Int), .inr (.inr 1887), .inl ((64 * ((a : Int) + 1)) + (k : Int)), .inr (.inr 1880)]) rfl ?_
        refine h_ild (c := 1887) (j := k) (i := (k : Int)) rfl rfl (by decide) rfl (by omega) ?_
        have g12 : -2147483648 ≤ (H1.1 1887 k) ∧ (H1.1 1887 k) ≤ 2147483647 := hrg7.2 1887 k 8 .int rfl (by omega)
        have e13 : (H1.1 1887 k) = (H.1 1887 k) := congrFun (hf.2.1 1887 (by decide) (by decide)) k
        refine h_run 0 (pc' := 110) (l' := [(0, .inr (.inr 1826)), (1, .inl (g : Int)), (2, .inl (a : Int)), (3, .inl (k : Int))]) (st' := [.inl (H1.1 1887 k), .inl ((64 * ((a : Int) + 1)) + (k : Int)), .inr (.inr 1880)]) rfl ?_
        refine h_ist (c := 1880) (j := ((64 * (a + 1)) + k)) (i := ((64 * ((a : Int) + 1)) + (k : Int))) (x := (H1.1 1887 k)) rfl rfl (by decide) (by decide) (by omega) (by omega) (by omega) ?_
        refine h_run 2 (pc' := 84) (l' := [(0, .inr (.inr 1826)), (1, .inl (g : Int)), (2, .inl (a : Int)), (3, .inl ((k : Int) + 1))]) (st' := []) rfl ?_
        rw [show ((k : Int) + 1) = (((k + 1) : Nat) : Int) by omega]
        exact ih.2 _ a (k + 1) (fr_a hf (by decide)) (by omega) hyy (fun x hx => sH_tr (ho x hx) (sH_uy _ (by omega) x hx)) (fun x hx => hOK_k (hold x hx) rfl (fun y hy => (show up (H1.1 1880) ((64 * (a + 1)) + k) (H1.1 1887 k) (64 * (16 * g + x) + y) = _ from up_ne _ _ (by omega)))) hz0 hz1 (fun x hx => (show up (H1.1 1880) (64 * (a + 1) + k) ((H1.1 1887) k) (64 * a + x) = _ from (up_ne _ _ (by omega)).trans (hc1 x hx))) (by omega) (fun x hx => by show up (H1.1 1880) (64 * (a + 1) + k) ((H1.1 1887) k) (64 * (a + 1) + x) = _; rw [up_if, e_st]; by_cases e9 : x = k; { rw [if_pos (by omega), e9] }; { rw [if_neg (by omega)]; exact hcp x (by omega) }) (by omega : 100 - (k + 1) < w)
set_option maxRecDepth 100000 in
theorem m_isToldFor {zC : Nat → Option zsh} {d : Nat} (hd : 1 ≤ d) {H : hp} {P : hp} {g n cs sn : Nat} (hg : g < 40) (hn : (H.1 1879) g = (n : Int) ∧ n ≤ 8) (hh : ∀ h, h < 2 * n → hOK P H (16 * g + h)) (hcs : (H.1 1826 101) = (cs : Int) ∧ 1 ≤ cs ∧ cs ≤ 60) (hct : tm (ma (P.1 1833) (P.1 1830)) (m_sg (P.1 1826 3) (P.1 1826 8) 60) (H.1 1888) cs 0 1) (hsn : (H.1 1826 99) = (sn : Int) ∧ sn ≤ 4) (hst : tm (ma (P.1 1833) (P.1 1830)) (m_sg (P.1 1826 3) (P.1 1826 8) 60) (H.1 1887) sn 0 1) : hG (zs zC) d mt_260 0 (zargs 0 [.inr (.inr 1826), .inl (g : Int)]) [] H (fun r9 H2 => fr [] [1879, 1880, 1881] H H2 ∧ (∀ x, x ≠ g → sH H H2 x) ∧ hysOK P H2 g ∧ (r9 = some (.inl 0) ∨ r9 = some (.inl 1))) := by
  refine h_rng (fun hrg0 => ?_)
  refine h_run 0 (pc' := 0) (l' := [(0, .inr (.inr 1826)), (1, .inl (g : Int))]) (st' := []) rfl ?_
  refine h_run 3 (pc' := 5) (l' := [(0, .inr (.inr 1826)), (1, .inl (g : Int))]) (st' := [.inl (g : Int), .inr (.inr 1879)]) rfl ?_
  refine h_ild (c := 1879) (j := g) (i := (g : Int)) rfl rfl (by decide) rfl (by omega) ?_
  have g14 : -2147483648 ≤ (H.1 1879 g) ∧ (H.1 1879 g) ≤ 2147483647 := hrg0.2 1879 g 40 .int rfl (by omega)
  refine h_run 0 (pc' := 6) (l' := [(0, .inr (.inr 1826)), (1, .inl (g : Int))]) (st' := [.inl (H.1 1879 g)]) rfl ?_
  refine h_run 1 (pc' := 8) (l' := [(0, .inr (.inr 1826)), (1, .inl (g : Int))]) (st' := [.inl 8, .inl (H.1 1879 g)]) rfl ?_
  refine h_ine (off := 5) (t := 13) rfl rfl (by omega) (by decide) (fun c15 => ?_) (fun c15 => ?_)
  · refine h_run 7 (pc' := 23) (l' := [(0, .inr (.inr 1826)), (1, .inl (g : Int))]) (st' := [.inl (g : Int), .inr (.inr 1879), .inl (8 * (g : Int)), .inl 2]) rfl ?_
    refine h_ild (c := 1879) (j := g) (i := (g : Int)) rfl rfl (by decide) rfl (by omega) ?_
    refine h_run 0 (pc' := 24) (l' := [(0, .inr (.inr 1826)), (1, .inl (g : Int))]) (st' := [.inl (H.1 1879 g), .inl (8 * (g : Int)), .inl 2]) rfl ?_
    refine h_run 2 (pc' := 26) (l' := [(0, .inr (.inr 1826)), (1, .inl (g : Int))]) (st' := [.inl (2 * ((8 * (g : Int)) + (H.1 1879 g)))]) rfl ?_
    obtain ⟨a9, ha9⟩ : ∃ a9 : Nat, a9 = 16 * g + 2 * n := ⟨_, rfl⟩
    rw [show (2 * ((8 * (g : Int)) + (H.1 1879 g))) = ((a9 : Nat) : Int) from (by omega)]
    refine h_run 6 (pc' := 36) (l' := [(0, .inr (.inr 1826)), (1, .inl (g : Int)), (2, .inl (a9 : Int))]) (st' := [.inl (H.1 1826 101), .inl (a9 : Int), .inr (.inr 1881)]) rfl ?_
    have g16 : -2147483648 ≤ (H.1 1826 101) ∧ (H.1 1826 101) ≤ 2147483647 := hrg0.1 1826 13 101 _ .int rfl rfl
    refine h_ist (c := 1881) (j := a9) (i := (a9 : Int)) (x := (H.1 1826 101)) rfl rfl (by decide) (by decide) rfl (by omega) (by omega) ?_
    refine h_run 7 (pc' := 48) (l' := [(0, .inr (.inr 1826)), (1, .inl (g : Int)), (2, .inl (a9 : Int))]) (st' := [.inl (H.1 1826 99), .inl ((a9 : Int) + 1), .inr (.inr 1881)]) rfl ?_
    have g17 : -2147483648 ≤ (H.1 1826 99) ∧ (H.1 1826 99) ≤ 2147483647 := hrg0.1 1826 13 99 _ .int rfl rfl
    refine h_ist (c := 1881) (j := (a9 + 1)) (i := ((a9 : Int) + 1)) (x := (H.1 1826 99)) rfl rfl (by decide) (by decide) (by omega) (by omega) (by omega) ?_
    refine h_run 2 (pc' := 51) (l' := [(0, .inr (.inr 1826)), (1, .inl (g : Int)), (2, .inl (a9 : Int)), (3, .inl 0)]) (st' := []) rfl ?_
    exact (m_isToldFor_cut hd hg hn hh hcs hct hsn hst _).1 _ a9 0 (fr_a (fr_a (fr_rf _ _ _) (by decide)) (by decide)) (by omega) rfl (fun x hx => sH_tr (sH_uz (g := g) _ (by omega) x hx) (sH_uz (g := g) _ (by omega) x hx)) (fun x hx => hOK_k (hh x hx) (show up (up (H.1 1881) a9 (H.1 1826 101)) (a9 + 1) (H.1 1826 99) (16 * g + x) = _ by rw [up_ne _ _ (by omega), up_ne _ _ (by omega)]) (fun _ _ => rfl)) (show up (up (H.1 1881) a9 (H.1 1826 101)) (a9 + 1) (H.1 1826 99) a9 = _ by rw [up_ne _ _ (by omega), up_eq]; exact hcs.1) (show up (up (H.1 1881) a9 (H.1 1826 101)) (a9 + 1) (H.1 1826 99) (a9 + 1) = _ by rw [up_eq]; exact hsn.1) (by omega) (fun x hx => absurd hx (Nat.not_lt_zero _)) (Nat.lt_succ_self _)
  · refine h_run 1 (pc' := 12) (l' := [(0, .inr (.inr 1826)), (1, .inl (g : Int))]) (st' := [.inl 0]) rfl ?_
    refine h_retz (x := 0) rfl rfl (by decide) ?_
    exact ⟨fr_rf _ _ _, fun x _ => sH_rf H x, ⟨n, hn.1, hn.2, hh⟩, Or.inl rfl⟩

/-! isCallPut -/
set_option maxRecDepth 100000 in
theorem m_isCallPut_cut {zC : Nat → Option zsh} {d : Nat} (hd : 3 ≤ d) {H : hp} {P : hp} {g o cs sn : Nat} (hPH : sP P H) (hgo : g < 40 ∧ o < 40 ∧ g ≠ o) (hso : ∀ s, s < 2 → sOK P H (2 * o + s)) (hcs : (H.1 1826 101) = (cs : Int) ∧ 1 ≤ cs ∧ cs ≤ 60) (hct : tm (ma (P.1 1833) (P.1 1830)) (m_sg (P.1 1826 3) (P.1 1826 8) 60) (H.1 1888) cs 0 1) (hsn : (H.1 1826 99) = (sn : Int) ∧ sn ≤ 4) (hst : tm (ma (P.1 1833) (P.1 1830)) (m_sg (P.1 1826 3) (P.1 1826 8) 60) (H.1 1887) sn 0 1) : ∀ w : Nat, (∀ (H1 : hp) (b : Nat) (s : Nat), (fr [53, 93] [1856, 1884, 1873, 1874] H H1) → (s ≤ 2) → (b ≤ 1) → (∀ x, x ≠ g → sS H H1 x) → (hid (b = 1 → ∀ x, x < s → sOK P H1 (2 * g + x))) → 100000 * (10 - s) + 50000 < w → hG (zs zC) d mt_259 5 [(0, .inr (.inr 1826)), (1, .inl (g : Int)), (2, .inl (o : Int)), (3, .inl (b : Int)), (4, .inl (s : Int))] [] H1 (fun r9 H2 => fr [53, 93] [1856, 1884, 1873, 1874] H H2 ∧ (∀ x, x ≠ g → sS H H2 x) ∧ (r9 = some (.inl 0) ∨ (r9 = some (.inl 1) ∧ ∀ s, s < 2 → sOK P H2 (2 * g + s))))) ∧ (∀ (H1 : hp) (b : Nat) (s : Nat) (k : Nat) (N : Nat) (cur : Nat) (mm : Nat), (fr [53, 93] [1856, 1884, 1873, 1874] H H1) → (s < 2 ∧ b = 1) → (∀ x, x ≠ g → sS H H1 x) → (∀ x, x < s → sOK P H1 (2 * g + x)) → ((H1.1 1826 93) = (N : Int) ∧ N ≤ 60) → (k ≤ N) → (tm (ma (P.1 1833) (P.1 1830)) (m_sg (P.1 1826 3) (P.1 1826 8) 60) (H1.1 1884) (N - k) k mm) → ((H1.1 1826 53) = ((cur : Nat) : Int) ∧ cur ≤ 4 * k) → (tp (ma (P.1 1833) (P.1 1830)) (m_sg (P.1 1826 3) (P.1 1826 8) 60) (H1.1 1856) cur 0 1 mm) → 100000 * (10 - s) + 100 * (100 - k) + 50 < w → hG (zs zC) d mt_259 30 [(0, .inr (.inr 1826)), (1, .inl (g : Int)), (2, .inl (o : Int)), (3, .inl (b : Int)), (4, .inl (s : Int)), (5, .inl (k : Int))] [] H1 (fun r9 H2 => fr [53, 93] [1856, 1884, 1873, 1874] H H2 ∧ (∀ x, x ≠ g → sS H H2 x) ∧ (r9 = some (.inl 0) ∨ (r9 = some (.inl 1) ∧ ∀ s, s < 2 → sOK P H2 (2 * g + s))))) ∧ (∀ (H1 : hp) (b : Nat) (s : Nat) (k : Nat) (j : Nat) (N : Nat) (cur : Nat) (mm : Nat), (fr [53, 93] [1856, 1884, 1873, 1874] H H1) → (s < 2 ∧ b = 1) → (∀ x, x ≠ g → sS H H1 x) → (∀ x, x < s → sOK P H1 (2 * g + x)) → ((H1.1 1826 93) = (N : Int) ∧ N ≤ 60) → (k + cs ≤ N) → (j ≤ sn) → (1 ≤ mm) → (tm (ma (P.1 1833) (P.1 1830)) (m_sg (P.1 1826 3) (P.1 1826 8) 60) (H1.1 1884) (N - (k + cs)) (k + cs) (mm - 1)) → ((H1.1 1826 53) = ((cur + j : Nat) : Int) ∧ cur ≤ 4 * k) → (tp (ma (P.1 1833) (P.1 1830)) (m_sg (P.1 1826 3) (P.1 1826 8) 60) (H1.1 1856) cur 0 1 mm) → (∀ x, x < j → (H1.1 1856) (cur + x) = (H.1 1887) x) → 100000 * (10 - s) + 100 * (100 - k) + (20 - j) < w → hG (zs zC) d mt_259 84 [(0, .inr (.inr 1826)), (1, .inl (g : Int)), (2, .inl (o : Int)), (3, .inl (b : Int)), (4, .inl (s : Int)), (5, .inl (k : Int)), (6, .inl (j : Int))] [] H1 (fun r9 H2 => fr [53, 93] [1856, 1884, 1873, 1874] H H2 ∧ (∀ x, x ≠ g → sS H H2 x) ∧ (r9 = some (.inl 0) ∨ (r9 = some (.inl 1) ∧ ∀ s, s < 2 → sOK P H2 (2 * g + s))))) := by
  intro w
  induction w with
  | zero => exact ⟨fun _ _ _ _ _ _ _ _ h => absurd h (Nat.not_lt_zero _), fun _ _ _ _ _ _ _ _ _ _ _ _ _ _ _ _ h => absurd h (Nat.not_lt_zero _), fun _ _ _ _ _ _ _ _ _ _ _ _ _ _ _ _ _ _ _ _ h => absurd h (Nat.not_lt_zero _)⟩
  | succ w ih =>
    refine ⟨?_, ?_, ?_⟩
    · intro H1 b s hf hs hb ho hk hw
      refine h_rng (fun hrg1 => ?_)
      have ecl : (H1.1 1888) = (H.1 1888) := hf.2.1 1888 (by decide) (by decide)
      have fcs : (H1.1 1826 101) = (H.1 1826 101) := hf.2.2 101 (by decide)
      have e_st : (H1.1 1887) = (H.1 1887) := hf.2.1 1887 (by decide) (by decide)
      have f_ss : (H1.1 1826 99) = (H.1 1826 99) := hf.2.2 99 (by decide)
      have hQ := sP_fr hPH hf (by decide) (by decide)
      refine h_run 2 (pc' := 8) (l' := [(0, .inr (.inr 1826)), (1, .inl (g : Int)), (2, .inl (o : Int)), (3, .inl (b : Int)), (4, .inl (s : Int))]) (st' := [.inl 2, .inl (s : Int)]) rfl ?_
      refine h_ige (off := 175) (t := 183) rfl rfl (by omega) (by decide) (fun c2 => ?_) (fun c2 => ?_)
      · refine h_run 1 (pc' := 184) (l' := [(0, .inr (.inr 1826)), (1, .inl (g : Int)), (2, .inl (o : Int)), (3, .inl (b : Int)), (4, .inl (s : Int))]) (st' := [.inl (b : Int)]) rfl ?_
        refine h_retz (x := (b : Int)) rfl rfl (by first | omega | decide) ?_
        refine ⟨hf, ho, ?_⟩
        rcases (show b = 0 ∨ b = 1 by omega) with rfl | rfl
        · exact Or.inl rfl
        · exact Or.inr ⟨rfl, fun x hx => hk rfl x (by omega)⟩
      · refine h_run 1 (pc' := 12) (l' := [(0, .inr (.inr 1826)), (1, .inl (g : Int)), (2, .inl (o : Int)), (3, .inl (b : Int)), (4, .inl (s : Int))]) (st' := [.inl (b : Int)]) rfl ?_
        refine h_zeq (off := 171) (t := 183) rfl rfl (by omega) (fun c3 => ?_) (fun c3 => ?_)
        · refine h_run 1 (pc' := 184) (l' := [(0, .inr (.inr 1826)), (1, .inl (g : Int)), (2, .inl (o : Int)), (3, .inl (b : Int)), (4, .inl (s : Int))]) (st' := [.inl (b : Int)]) rfl ?_
          refine h_retz (x := (b : Int)) rfl rfl (by first | omega | decide) ?_
          refine ⟨hf, ho, ?_⟩
          rcases (show b = 0 ∨ b = 1 by omega) with rfl | rfl
          · exact Or.inl rfl
          · exact Or.inr ⟨rfl, fun x hx => hk rfl x (by omega)⟩
        · obtain ⟨kk, e1, e2, e3⟩ := sOK_s (hso s (by omega)) (by omega) (ho o (fun q => hgo.2.2 q.symm))
          refine h_run 3 (pc' := 19) (l' := [(0, .inr (.inr 1826)), (1, .inl (g : Int)), (2, .inl (o : Int)), (3, .inl (b : Int)), (4, .inl (s : Int))]) (st' := [.inl (s : Int), .inl (o : Int), .inr (.inr 1826)]) rfl ?_
          refine h_cv (i := 569) (j := 228) (b := 1826) (M' := mt_228) (xs := [.inl (s : Int), .inl (o : Int)]) (rest := []) rfl rfl rfl rfl rfl rfl (Nat.le_of_ble_eq_true rfl) (Nat.le_of_ble_eq_true rfl) (by omega) (m_bring (k := kk) (by omega) (by omega) ⟨e1, by omega⟩) ?_
          rintro _ H4 ⟨rfl, hfH4, hzH4, hcH4⟩
          refine h_rng (fun hrg5 => ?_)
          have hf6 : fr [53, 93] [1856, 1884, 1873, 1874] H H4 := fr_t hf hfH4 (by decide) (by decide)
          refine h_run 0 (pc' := 22) (l' := [(0, .inr (.inr 1826)), (1, .inl (g : Int)), (2, .inl (o : Int)), (3, .inl (b : Int)), (4, .inl (s : Int))]) (st' := []) rfl ?_
          refine h_run 2 (pc' := 24) (l' := [(0, .inr (.inr 1826)), (1, .inl (g : Int)), (2, .inl (o : Int)), (3, .inl (b : Int)), (4, .inl (s : Int))]) (st' := [.inl 0, .inr (.inr 1826)]) rfl ?_
          refine h_puti (i := 437) (ci := 13) (k := 53) (a := 1826) (x := 0) rfl rfl rfl rfl rfl rfl (by decide) (by decide) ?_
          refine h_run 2 (pc' := 30) (l' := [(0, .inr (.inr 1826)), (1, .inl (g : Int)), (2, .inl (o : Int)), (3, .inl (b : Int)), (4, .inl (s : Int)), (5, .inl 0)]) (st' := []) rfl ?_
          exact ih.2.1 _ b s 0 (kk) (0) (1) (fr_o hf6 (by decide)) (by omega) (fun x hx => sS_tr (ho x hx) (sS_fr hfH4 (by decide) x)) (fun x hx => sOK_s (hk (by omega) x hx) (by omega) (sS_fr hfH4 (by decide) g)) ⟨hzH4, e2⟩ (by omega) (by rw [Nat.sub_zero]; exact tm_at e3 (fun x hx => by rw [Nat.zero_add]; exact hcH4 x hx)) (by omega : (0 : Int) = (((0) : Nat) : Int) ∧ (0) ≤ 4 * 0) (show (1 : Nat) = 1 from rfl) (by omega : 100000 * (10 - s) + 100 * (100 - 0) + 50 < w)
    · intro H1 b s k N cur mm hf hs ho hk hN hkN htn hz hmd hw
      refine h_rng (fun hrg7 => ?_)
      have ecl : (H1.1 1888) = (H.1 1888) := hf.2.1 1888 (by decide) (by decide)
      have fcs : (H1.1 1826 101) = (H.1 1826 101) := hf.2.2 101 (by decide)
      have e_st : (H1.1 1887) = (H.1 1887) := hf.2.1 1887 (by decide) (by decide)
      have f_ss : (H1.1 1826 99) = (H.1 1826 99) := hf.2.2 99 (by decide)
      have hQ := sP_fr hPH hf (by decide) (by decide)
      refine h_run 3 (pc' := 36) (l' := [(0, .inr (.inr 1826)), (1, .inl (g : Int)), (2, .inl (o : Int)), (3, .inl (b : Int)), (4, .inl (s : Int)), (5, .inl (k : Int))]) (st' := [.inl (H1.1 1826 93), .inl (k : Int)]) rfl ?_
      have g8 : -2147483648 ≤ (H1.1 1826 93) ∧ (H1.1 1826 93) ≤ 2147483647 := hrg7.1 1826 13 93 _ .int rfl rfl
      refine h_ige (off := 133) (t := 169) rfl rfl (by omega) (by omega) (fun c9 => ?_) (fun c9 => ?_)
      · have hmz : mm = 0 := by have h9 := htn; rw [show N - k = 0 by omega] at h9; exact h9
        have htd : tm (ma (P.1 1833) (P.1 1830)) (m_sg (P.1 1826 3) (P.1 1826 8) 60) (H1.1 1856) cur 0 1 := by have h9 := hmd; rw [hmz] at h9; exact tp_tm h9
        refine h_run 3 (pc' := 173) (l' := [(0, .inr (.inr 1826)), (1, .inl (g : Int)), (2, .inl (o : Int)), (3, .inl (b : Int)), (4, .inl (s : Int)), (5, .inl (k : Int))]) (st' := [.inl (s : Int), .inl (g : Int), .inr (.inr 1826)]) rfl ?_
        refine h_cv (i := 575) (j := 229) (b := 1826) (M' := mt_229) (xs := [.inl (s : Int), .inl (g : Int)]) (rest := []) rfl rfl rfl rfl rfl rfl (Nat.le_of_ble_eq_true rfl) (Nat.le_of_ble_eq_true rfl) (by omega) (m_isKept (M := cur) (by omega) (by omega) ⟨hz.1, by omega⟩) ?_
        rintro _ H10 (⟨rfl, hxH10, rfl⟩ | ⟨rfl, hlH10, hfH10, hzH10, hcH10, hoH10⟩)
        · refine h_run 0 (pc' := 176) (l' := [(0, .inr (.inr 1826)), (1, .inl (g : Int)), (2, .inl (o : Int)), (3, .inl (b : Int)), (4, .inl (s : Int)), (5, .inl (k : Int))]) (st' := [.inl 0]) rfl ?_
          refine h_run 3 (pc' := 5) (l' := [(0, .inr (.inr 1826)), (1, .inl (g : Int)), (2, .inl (o : Int)), (3, .inl 0), (4, .inl ((s : Int) + 1)), (5, .inl (k : Int))]) (st' := []) rfl ?_
          refine h_loc [0, 1, 2, 3, 4] rfl ?_
          rw [show ((s : Int) + 1) = (((s + 1) : Nat) : Int) by omega]
          exact ih.1 _ 0 (s + 1) hf (by omega) (by omega) ho (fun q9 => absurd q9 (by decide)) (by omega : 100000 * (10 - (s + 1)) + 50000 < w)
        · refine h_rng (fun hrg11 => ?_)
          have hf12 : fr [53, 93] [1856, 1884, 1873, 1874] H H10 := fr_t hf hfH10 (by decide) (by decide)
          refine h_run 0 (pc' := 176) (l' := [(0, .inr (.inr 1826)), (1, .inl (g : Int)), (2, .inl (o : Int)), (3, .inl (b : Int)), (4, .inl (s : Int)), (5, .inl (k : Int))]) (st' := [.inl 1]) rfl ?_
          refine h_run 3 (pc' := 5) (l' := [(0, .inr (.inr 1826)), (1, .inl (g : Int)), (2, .inl (o : Int)), (3, .inl 1), (4, .inl ((s : Int) + 1)), (5, .inl (k : Int))]) (st' := []) rfl ?_
          refine h_loc [0, 1, 2, 3, 4] rfl ?_
          rw [show ((s : Int) + 1) = (((s + 1) : Nat) : Int) by omega]
          exact ih.1 _ 1 (s + 1) hf12 (by omega) (by omega) (fun x hx => sS_tr (ho x hx) (sS_kept (by omega) hzH10 hoH10 x hx)) (fun _ x hx => by by_cases e9 : x = s; { rw [e9]; exact sOK_kept hlH10 hzH10 hcH10 htd }; { exact sOK_oth (hk x (by omega)) e9 hzH10 hoH10 }) (by omega : 100000 * (10 - (s + 1)) + 50000 < w)
      · obtain ⟨y2, hy2⟩ : ∃ y2, N - k = y2 + 1 := ⟨N - k - 1, by omega⟩
        have htn9 := htn
        rw [hy2] at htn9
        obtain ⟨hm0, hsp, qq, hqq, hq4, hp3⟩ := htn9
        have hp4 : tm (ma (P.1 1833) (P.1 1830)) (m_sg (P.1 1826 3) (P.1 1826 8) 60) (H1.1 1884) (N - (k + 1)) (k + 1) (mm - 1 + qq) := by rw [show N - (k + 1) = y2 by omega]; exact hp3
        refine h_run 3 (pc' := 45) (l' := [(0, .inr (.inr 1826)), (1, .inl (g : Int)), (2, .inl (o : Int)), (3, .inl (b : Int)), (4, .inl (s : Int)), (5, .inl (k : Int))]) (st' := [.inl (H1.1 1826 101), .inl (k : Int)]) rfl ?_
        have g13 : -2147483648 ≤ (H1.1 1826 101) ∧ (H1.1 1826 101) ≤ 2147483647 := hrg7.1 1826 13 101 _ .int rfl rfl
        have e14 : (H1.1 1826 101) = (H.1 1826 101) := hf.2.2 101 (by decide)
        refine h_run 3 (pc' := 50) (l' := [(0, .inr (.inr 1826)), (1, .inl (g : Int)), (2, .inl (o : Int)), (3, .inl (b : Int)), (4, .inl (s : Int)), (5, .inl (k : Int))]) (st' := [.inl (H1.1 1826 93), .inl ((k : Int) + (H1.1 1826 101))]) rfl ?_
        refine h_igt (off := 87) (t := 137) rfl rfl (by omega) (by omega) (fun c15 => ?_) (fun c15 => ?_)
        · refine h_run 4 (pc' := 145) (l' := [(0, .inr (.inr 1826)), (1, .inl (g : Int)), (2, .inl (o : Int)), (3, .inl (b : Int)), (4, .inl (s : Int)), (5, .inl (k : Int))]) (st' := [.inl (H1.1 1826 53), .inr (.inr 1856)]) rfl ?_
          have g16 : -2147483648 ≤ (H1.1 1826 53) ∧ (H1.1 1826 53) ≤ 2147483647 := hrg7.1 1826 13 53 _ .int rfl rfl
          refine h_run 3 (pc' := 151) (l' := [(0, .inr (.inr 1826)), (1, .inl (g : Int)), (2, .inl (o : Int)), (3, .inl (b : Int)), (4, .inl (s : Int)), (5, .inl (k : Int))]) (st' := [.inl (k : Int), .inr (.inr 1884), .inl (H1.1 1826 53), .inr (.inr 1856)]) rfl ?_
          refine h_ild (c := 1884) (j := k) (i := (k : Int)) rfl rfl (by decide) rfl (by omega) ?_
          have g17 : -2147483648 ≤ (H1.1 1884 k) ∧ (H1.1 1884 k) ≤ 2147483647 := hrg7.2 1884 k 128 .int rfl (by omega)
          refine h_run 0 (pc' := 152) (l' := [(0, .inr (.inr 1826)), (1, .inl (g : Int)), (2, .inl (o : Int)), (3, .inl (b : Int)), (4, .inl (s : Int)), (5, .inl (k : Int))]) (st' := [.inl (H1.1 1884 k), .inl (H1.1 1826 53), .inr (.inr 1856)]) rfl ?_
          refine h_ist (c := 1856) (j := ((H1.1 1826 53)).toNat) (i := (H1.1 1826 53)) (x := (H1.1 1884 k)) rfl rfl (by decide) (by decide) (by omega) (by omega) (by omega) ?_
          refine h_run 3 (pc' := 158) (l' := [(0, .inr (.inr 1826)), (1, .inl (g : Int)), (2, .inl (o : Int)), (3, .inl (b : Int)), (4, .inl (s : Int)), (5, .inl (k : Int))]) (st' := [.inl (H1.1 1826 53), .inr (.inr 1826)]) rfl ?_
          refine h_run 2 (pc' := 160) (l' := [(0, .inr (.inr 1826)), (1, .inl (g : Int)), (2, .inl (o : Int)), (3, .inl (b : Int)), (4, .inl (s : Int)), (5, .inl (k : Int))]) (st' := [.inl ((H1.1 1826 53) + 1), .inr (.inr 1826)]) rfl ?_
          refine h_puti (i := 437) (ci := 13) (k := 53) (a := 1826) (x := ((H1.1 1826 53) + 1)) rfl rfl rfl rfl rfl rfl (by decide) (by omega) ?_
          refine h_run 2 (pc' := 30) (l' := [(0, .inr (.inr 1826)), (1, .inl (g : Int)), (2, .inl (o : Int)), (3, .inl (b : Int)), (4, .inl (s : Int)), (5, .inl ((k : Int) + 1))]) (st' := []) rfl ?_
          rw [show ((k : Int) + 1) = (((k + 1) : Nat) : Int) by omega]
          exact ih.2.1 _ b s (k + 1) (N) (cur + 1) (mm - 1 + qq) (fr_o (fr_a hf (by decide)) (by decide)) (by omega) ho hk hN (by omega) hp4 (by omega : ((H1.1 1826 53) + 1) = (((cur + 1) : Nat) : Int) ∧ (cur + 1) ≤ 4 * (k + 1)) (by show tp (ma (P.1 1833) (P.1 1830)) (m_sg (P.1 1826 3) (P.1 1826 8) 60) (up (H1.1 1856) ((H1.1 1826 53)).toNat ((H1.1 1884) k)) (cur + 1) 0 1 (mm - 1 + qq); rw [show ((H1.1 1826 53)).toNat = cur by omega]; refine tp_snoc (tp_at (by rw [show mm - 1 + 1 = mm by omega]; exact hmd) (fun x hx => up_ne _ _ (by omega))) ?_ ?_ hq4; { rw [Nat.zero_add, up_eq]; exact hsp }; { rw [Nat.zero_add, up_eq]; exact hqq }) (by omega : 100000 * (10 - s) + 100 * (100 - (k + 1)) + 50 < w)
        · refine h_run 6 (pc' := 65) (l' := [(0, .inr (.inr 1826)), (1, .inl (g : Int)), (2, .inl (o : Int)), (3, .inl (b : Int)), (4, .inl (s : Int)), (5, .inl (k : Int))]) (st' := [.inl (H1.1 1826 101), .inl (k : Int), .inl (k : Int), .inr (.inr 1884)]) rfl ?_
          refine h_run 1 (pc' := 66) (l' := [(0, .inr (.inr 1826)), (1, .inl (g : Int)), (2, .inl (o : Int)), (3, .inl (b : Int)), (4, .inl (s : Int)), (5, .inl (k : Int))]) (st' := [.inl ((k : Int) + (H1.1 1826 101)), .inl (k : Int), .inr (.inr 1884)]) rfl ?_
          obtain ⟨ke, hke⟩ : ∃ ke : Nat, ke = k + cs := ⟨_, rfl⟩
          rw [show ((k : Int) + (H1.1 1826 101)) = ((ke : Nat) : Int) from (by omega)]
          refine h_run 5 (pc' := 75) (l' := [(0, .inr (.inr 1826)), (1, .inl (g : Int)), (2, .inl (o : Int)), (3, .inl (b : Int)), (4, .inl (s : Int)), (5, .inl (k : Int))]) (st' := [.inl (H1.1 1826 101), .inl 0, .inr (.inr 1888), .inl (ke : Int), .inl (k : Int), .inr (.inr 1884)]) rfl ?_
          rw [show (H1.1 1826 101) = (cs : Int) by omega]
          refine h_cs (i := 582) (j := 241) (M' := mt_241) (xs := [.inl (cs : Int), .inl 0, .inr (.inr 1888), .inl (ke : Int), .inl (k : Int), .inr (.inr 1884)]) (rest := []) rfl rfl rfl rfl rfl (Nat.le_of_ble_eq_true rfl) (Nat.le_of_ble_eq_true rfl) (by omega) (m_isSame (p := 0) (e := cs) (by omega) rfl rfl (by decide) (by omega) (by omega)) ?_
          rintro _ _ ⟨(⟨rfl, hsl, hsx⟩ | rfl), rfl⟩
          · refine h_run 0 (pc' := 78) (l' := [(0, .inr (.inr 1826)), (1, .inl (g : Int)), (2, .inl (o : Int)), (3, .inl (b : Int)), (4, .inl (s : Int)), (5, .inl (k : Int))]) (st' := [.inl 1]) rfl ?_
            refine h_zeq (off := 59) (t := 137) rfl rfl (by decide) (fun c => absurd c (by decide)) (fun _ => ?_)
            have hdr : tm (ma (P.1 1833) (P.1 1830)) (m_sg (P.1 1826 3) (P.1 1826 8) 60) (H1.1 1884) (N - (k + cs)) (k + cs) (mm - 1) := by have h9 := tm_drop (k1 := cs) (n1 := 1) (n2 := mm - 1) (tm_at (b := (H1.1 1884)) (j := k) hct (fun x hx => by have h8 := hsx x (by omega); rw [h8, ecl])) (by rw [show 1 + (mm - 1) = mm by omega]; exact htn) (by omega); rw [show N - k - cs = N - (k + cs) by omega] at h9; exact h9
            refine h_run 2 (pc' := 84) (l' := [(0, .inr (.inr 1826)), (1, .inl (g : Int)), (2, .inl (o : Int)), (3, .inl (b : Int)), (4, .inl (s : Int)), (5, .inl (k : Int)), (6, .inl 0)]) (st' := []) rfl ?_
            have g18 : -2147483648 ≤ (H1.1 1826 53) ∧ (H1.1 1826 53) ≤ 2147483647 := hrg7.1 1826 13 53 _ .int rfl rfl
            exact ih.2.2 _ b s k 0 (N) (cur) (mm) hf (by omega) ho hk hN (by omega) (by omega) (by omega) hdr (by omega : (H1.1 1826 53) = (((cur) + 0 : Nat) : Int) ∧ (cur) ≤ 4 * k) hmd (fun x hx => absurd hx (Nat.not_lt_zero _)) (by omega : 100000 * (10 - s) + 100 * (100 - k) + (20 - 0) < w)
          · refine h_run 0 (pc' := 78) (l' := [(0, .inr (.inr 1826)), (1, .inl (g : Int)), (2, .inl (o : Int)), (3, .inl (b : Int)), (4, .inl (s : Int)), (5, .inl (k : Int))]) (st' := [.inl 0]) rfl ?_
            refine h_zeq (off := 59) (t := 137) rfl rfl (by decide) (fun _ => ?_) (fun c => absurd c (by decide))
            refine h_run 4 (pc' := 145) (l' := [(0, .inr (.inr 1826)), (1, .inl (g : Int)), (2, .inl (o : Int)), (3, .inl (b : Int)), (4, .inl (s : Int)), (5, .inl (k : Int))]) (st' := [.inl (H1.1 1826 53), .inr (.inr 1856)]) rfl ?_
            have g19 : -2147483648 ≤ (H1.1 1826 53) ∧ (H1.1 1826 53) ≤ 2147483647 := hrg7.1 1826 13 53 _ .int rfl rfl
            refine h_run 3 (pc' := 151) (l' := [(0, .inr (.inr 1826)), (1, .inl (g : Int)), (2, .inl (o : Int)), (3, .inl (b : Int)), (4, .inl (s : Int)), (5, .inl (k : Int))]) (st' := [.inl (k : Int), .inr (.inr 1884), .inl (H1.1 1826 53), .inr (.inr 1856)]) rfl ?_
            refine h_ild (c := 1884) (j := k) (i := (k : Int)) rfl rfl (by decide) rfl (by omega) ?_
            have g20 : -2147483648 ≤ (H1.1 1884 k) ∧ (H1.1 1884 k) ≤ 2147483647 := hrg7.2 1884 k 128 .int rfl (by omega)
            refine h_run 0 (pc' := 152) (l' := [(0, .inr (.inr 1826)), (1, .inl (g : Int)), (2, .inl (o : Int)), (3, .inl (b : Int)), (4, .inl (s : Int)), (5, .inl (k : Int))]) (st' := [.inl (H1.1 1884 k), .inl (H1.1 1826 53), .inr (.inr 1856)]) rfl ?_
            refine h_ist (c := 1856) (j := ((H1.1 1826 53)).toNat) (i := (H1.1 1826 53)) (x := (H1.1 1884 k)) rfl rfl (by decide) (by decide) (by omega) (by omega) (by omega) ?_
            refine h_run 3 (pc' := 158) (l' := [(0, .inr (.inr 1826)), (1, .inl (g : Int)), (2, .inl (o : Int)), (3, .inl (b : Int)), (4, .inl (s : Int)), (5, .inl (k : Int))]) (st' := [.inl (H1.1 1826 53), .inr (.inr 1826)]) rfl ?_
            refine h_run 2 (pc' := 160) (l' := [(0, .inr (.inr 1826)), (1, .inl (g : Int)), (2, .inl (o : Int)), (3, .inl (b : Int)), (4, .inl (s : Int)), (5, .inl (k : Int))]) (st' := [.inl ((H1.1 1826 53) + 1), .inr (.inr 1826)]) rfl ?_
            refine h_puti (i := 437) (ci := 13) (k := 53) (a := 1826) (x := ((H1.1 1826 53) + 1)) rfl rfl rfl rfl rfl rfl (by decide) (by omega) ?_
            refine h_run 2 (pc' := 30) (l' := [(0, .inr (.inr 1826)), (1, .inl (g : Int)), (2, .inl (o : Int)), (3, .inl (b : Int)), (4, .inl (s : Int)), (5, .inl ((k : Int) + 1))]) (st' := []) rfl ?_
            rw [show ((k : Int) + 1) = (((k + 1) : Nat) : Int) by omega]
            exact ih.2.1 _ b s (k + 1) (N) (cur + 1) (mm - 1 + qq) (fr_o (fr_a hf (by decide)) (by decide)) (by omega) ho hk hN (by omega) hp4 (by omega : ((H1.1 1826 53) + 1) = (((cur + 1) : Nat) : Int) ∧ (cur + 1) ≤ 4 * (k + 1)) (by show tp (ma (P.1 1833) (P.1 1830)) (m_sg (P.1 1826 3) (P.1 1826 8) 60) (up (H1.1 1856) ((H1.1 1826 53)).toNat ((H1.1 1884) k)) (cur + 1) 0 1 (mm - 1 + qq); rw [show ((H1.1 1826 53)).toNat = cur by omega]; refine tp_snoc (tp_at (by rw [show mm - 1 + 1 = mm by omega]; exact hmd) (fun x hx => up_ne _ _ (by omega))) ?_ ?_ hq4; { rw [Nat.zero_add, up_eq]; exact hsp }; { rw [Nat.zero_add, up_eq]; exact hqq }) (by omega : 100000 * (10 - s) + 100 * (100 - (k + 1)) + 50 < w)
    · intro H1 b s k j N cur mm hf hs ho hk hN hkN hj hmm htn hz hmd hcp hw
      refine h_rng (fun hrg21 => ?_)
      have ecl : (H1.1 1888) = (H.1 1888) := hf.2.1 1888 (by decide) (by decide)
      have fcs : (H1.1 1826 101) = (H.1 1826 101) := hf.2.2 101 (by decide)
      have e_st : (H1.1 1887) = (H.1 1887) := hf.2.1 1887 (by decide) (by decide)
      have f_ss : (H1.1 1826 99) = (H.1 1826 99) := hf.2.2 99 (by decide)
      have hQ := sP_fr hPH hf (by decide) (by decide)
      refine h_run 3 (pc' := 90) (l' := [(0, .inr (.inr 1826)), (1, .inl (g : Int)), (2, .inl (o : Int)), (3, .inl (b : Int)), (4, .inl (s : Int)), (5, .inl (k : Int)), (6, .inl (j : Int))]) (st' := [.inl (H1.1 1826 99), .inl (j : Int)]) rfl ?_
      have g22 : -2147483648 ≤ (H1.1 1826 99) ∧ (H1.1 1826 99) ≤ 2147483647 := hrg21.1 1826 13 99 _ .int rfl rfl
      have e23 : (H1.1 1826 99) = (H.1 1826 99) := hf.2.2 99 (by decide)
      refine h_ige (off := 35) (t := 125) rfl rfl (by omega) (by omega) (fun c24 => ?_) (fun c24 => ?_)
      · refine h_run 3 (pc' := 131) (l' := [(0, .inr (.inr 1826)), (1, .inl (g : Int)), (2, .inl (o : Int)), (3, .inl (b : Int)), (4, .inl (s : Int)), (5, .inl (k : Int)), (6, .inl (j : Int))]) (st' := [.inl (H1.1 1826 101), .inl (k : Int)]) rfl ?_
        have g25 : -2147483648 ≤ (H1.1 1826 101) ∧ (H1.1 1826 101) ≤ 2147483647 := hrg21.1 1826 13 101 _ .int rfl rfl
        have e26 : (H1.1 1826 101) = (H.1 1826 101) := hf.2.2 101 (by decide)
        refine h_run 1 (pc' := 132) (l' := [(0, .inr (.inr 1826)), (1, .inl (g : Int)), (2, .inl (o : Int)), (3, .inl (b : Int)), (4, .inl (s : Int)), (5, .inl (k : Int)), (6, .inl (j : Int))]) (st' := [.inl ((k : Int) + (H1.1 1826 101))]) rfl ?_
        obtain ⟨ke, hke⟩ : ∃ ke : Nat, ke = k + cs := ⟨_, rfl⟩
        rw [show ((k : Int) + (H1.1 1826 101)) = ((ke : Nat) : Int) from (by omega)]
        refine h_run 2 (pc' := 30) (l' := [(0, .inr (.inr 1826)), (1, .inl (g : Int)), (2, .inl (o : Int)), (3, .inl (b : Int)), (4, .inl (s : Int)), (5, .inl (ke : Int)), (6, .inl (j : Int))]) (st' := []) rfl ?_
        have g27 : -2147483648 ≤ (H1.1 1826 53) ∧ (H1.1 1826 53) ≤ 2147483647 := hrg21.1 1826 13 53 _ .int rfl rfl
        refine h_loc [0, 1, 2, 3, 4, 5] rfl ?_
        exact ih.2.1 _ b s ke (N) (cur + sn) (mm - 1) hf (by omega) ho hk hN (by omega) (by rw [hke]; exact htn) (by omega : (H1.1 1826 53) = (((cur + sn) : Nat) : Int) ∧ (cur + sn) ≤ 4 * ke) (by refine tp_term (m := mm - 1) (by rw [show mm - 1 + 1 = mm by omega]; exact hmd) ?_; rw [Nat.zero_add]; exact tm_at hst (fun x hx => by rw [Nat.zero_add]; exact hcp x (by omega))) (by omega : 100000 * (10 - s) + 100 * (100 - ke) + 50 < w)
      · refine h_run 4 (pc' := 101) (l' := [(0, .inr (.inr 1826)), (1, .inl (g : Int)), (2, .inl (o : Int)), (3, .inl (b : Int)), (4, .inl (s : Int)), (5, .inl (k : Int)), (6, .inl (j : Int))]) (st' := [.inl (H1.1 1826 53), .inr (.inr 1856)]) rfl ?_
        have g28 : -2147483648 ≤ (H1.1 1826 53) ∧ (H1.1 1826 53) ≤ 2147483647 := hrg21.1 1826 13 53 _ .int rfl rfl
        refine h_run 3 (pc' := 107) (l' := [(0, .inr (.inr 1826)), (1, .inl (g : Int)), (2, .inl (o : Int)), (3, .inl (b : Int)), (4, .inl (s : Int)), (5, .inl (k : Int)), (6, .inl (j : Int))]) (st' := [.inl (j : Int), .inr (.inr 1887), .inl (H1.1 1826 53), .inr (.inr 1856)]) rfl ?_
        refine h_ild (c := 1887) (j := j) (i := (j : Int)) rfl rfl (by decide) rfl (by omega) ?_
        have g29 : -2147483648 ≤ (H1.1 1887 j) ∧ (H1.1 1887 j) ≤ 2147483647 := hrg21.2 1887 j 8 .int rfl (by omega)
        have e30 : (H1.1 1887 j) = (H.1 1887 j) := congrFun (hf.2.1 1887 (by decide) (by decide)) j
        refine h_run 0 (pc' := 108) (l' := [(0, .inr (.inr 1826)), (1, .inl (g : Int)), (2, .inl (o : Int)), (3, .inl (b : Int)), (4, .inl (s : Int)), (5, .inl (k : Int)), (6, .inl (j : Int))]) (st' := [.inl (H1.1 1887 j), .inl (H1.1 1826 53), .inr (.inr 1856)]) rfl ?_
        refine h_ist (c := 1856) (j := ((H1.1 1826 53)).toNat) (i := (H1.1 1826 53)) (x := (H1.1 1887 j)) rfl rfl (by decide) (by decide) (by omega) (by omega) (by omega) ?_
        refine h_run 3 (pc' := 114) (l' := [(0, .inr (.inr 1826)), (1, .inl (g : Int)), (2, .inl (o : Int)), (3, .inl (b : Int)), (4, .inl (s : Int)), (5, .inl (k : Int)), (6, .inl (j : Int))]) (st' := [.inl (H1.1 1826 53), .inr (.inr 1826)]) rfl ?_
        refine h_run 2 (pc' := 116) (l' := [(0, .inr (.inr 1826)), (1, .inl (g : Int)), (2, .inl (o : Int)), (3, .inl (b : Int)), (4, .inl (s : Int)), (5, .inl (k : Int)), (6, .inl (j : Int))]) (st' := [.inl ((H1.1 1826 53) + 1), .inr (.inr 1826)]) rfl ?_
        refine h_puti (i := 437) (ci := 13) (k := 53) (a := 1826) (x := ((H1.1 1826 53) + 1)) rfl rfl rfl rfl rfl rfl (by decide) (by omega) ?_
        refine h_run 2 (pc' := 84) (l' := [(0, .inr (.inr 1826)), (1, .inl (g : Int)), (2, .inl (o : Int)), (3, .inl (b : Int)), (4, .inl (s : Int)), (5, .inl (k : Int)), (6, .inl ((j : Int) + 1))]) (st' := []) rfl ?_
        rw [show ((j : Int) + 1) = (((j + 1) : Nat) : Int) by omega]
        exact ih.2.2 _ b s k (j + 1) (N) (cur) (mm) (fr_o (fr_a hf (by decide)) (by decide)) (by omega) ho hk hN (by omega) (by omega) (by omega) htn (by omega : ((H1.1 1826 53) + 1) = (((cur) + (j + 1) : Nat) : Int) ∧ (cur) ≤ 4 * k) (tp_at hmd (fun x hx => (show up (H1.1 1856) ((H1.1 1826 53)).toNat ((H1.1 1887) j) x = _ from up_ne _ _ (by omega)))) (fun x hx => by show up (H1.1 1856) ((H1.1 1826 53)).toNat ((H1.1 1887) j) (cur + x) = (H.1 1887) x; rw [up_if, e_st]; by_cases e9 : x = j; { rw [if_pos (by omega), e9] }; { rw [if_neg (by omega)]; exact hcp x (by omega) }) (by omega : 100000 * (10 - s) + 100 * (100 - k) + (20 - (j + 1)) < w)
set_option maxRecDepth 100000 in
theorem m_isCallPut {zC : Nat → Option zsh} {d : Nat} (hd : 3 ≤ d) {H : hp} {P : hp} {g o cs sn : Nat} (hPH : sP P H) (hgo : g < 40 ∧ o < 40 ∧ g ≠ o) (hso : ∀ s, s < 2 → sOK P H (2 * o + s)) (hcs : (H.1 1826 101) = (cs : Int) ∧ 1 ≤ cs ∧ cs ≤ 60) (hct : tm (ma (P.1 1833) (P.1 1830)) (m_sg (P.1 1826 3) (P.1 1826 8) 60) (H.1 1888) cs 0 1) (hsn : (H.1 1826 99) = (sn : Int) ∧ sn ≤ 4) (hst : tm (ma (P.1 1833) (P.1 1830)) (m_sg (P.1 1826 3) (P.1 1826 8) 60) (H.1 1887) sn 0 1) : hG (zs zC) d mt_259 0 (zargs 0 [.inr (.inr 1826), .inl (g : Int), .inl (o : Int)]) [] H (fun r9 H2 => fr [53, 93] [1856, 1884, 1873, 1874] H H2 ∧ (∀ x, x ≠ g → sS H H2 x) ∧ (r9 = some (.inl 0) ∨ (r9 = some (.inl 1) ∧ ∀ s, s < 2 → sOK P H2 (2 * g + s)))) := by
  refine h_rng (fun hrg0 => ?_)
  refine h_run 0 (pc' := 0) (l' := [(0, .inr (.inr 1826)), (1, .inl (g : Int)), (2, .inl (o : Int))]) (st' := []) rfl ?_
  refine h_run 4 (pc' := 5) (l' := [(0, .inr (.inr 1826)), (1, .inl (g : Int)), (2, .inl (o : Int)), (3, .inl 1), (4, .inl 0)]) (st' := []) rfl ?_
  exact (m_isCallPut_cut hd hPH hgo hso hcs hct hsn hst _).1 _ 1 0 (fr_rf _ _ _) (by omega) (by omega) (fun x _ => sS_rf H x) (fun _ x hx => absurd hx (Nat.not_lt_zero _)) (Nat.lt_succ_self _)
