/-! the reference finds the rule of a call; copies signs -/
/-! match -/
set_option maxRecDepth 100000 in
theorem m_match_cut {zC : Nat → Option zsh} {d : Nat} (hd : 4 ≤ d) {H : hp} {c n p k : Nat} {ok : Int → Prop} (hc : zs zC c = some (.inr (.int, n))) (hn : n ≤ 100000) (hcm : c ≠ 1826 ∧ c ∉ [1855]) (hok : ∀ s, ok s → sg0 s) (hP : PWc H) (hT : tm (ma (H.1 1833) (H.1 1830)) ok (H.1 c) k p 1) (hb : p + k ≤ n) (hs : 100 ≤ H.1 c p ∧ H.1 c p < 100 + (H.1 1826 8)) : ∀ w : Nat, (∀ (H1 : hp) (i : Nat), (fr [50, 51] [1855] H H1) → ((i : Int) ≤ (H.1 1826 13)) → ((H.1 1826 13) - i).toNat < w → hG (zs zC) d mt_196 10 [(0, .inr (.inr 1826)), (1, .inr (.inr c)), (2, .inl (p : Int)), (3, .inl ((H.1 c p) - 100)), (4, .inl (i : Int))] [] H1 (fun r9 H2 => fr [50, 51] [1855] H H2 ∧ ∃ r0 : Int, r9 = some (.inl r0) ∧ ((r0 = 0 ∧ ∃ r kl : Nat, (H2.1 1826 51) = r ∧ (r : Int) < (H.1 1826 13) ∧ (H.1 1838) r = kl ∧ bnd (ma (H.1 1833) (H.1 1830)) ok (H.1 c) (H.1 1837) (H2.1 1855) r kl (p + 1) (p + k)) ∨ r0 = 1 ∨ (r0 = 2 ∧ ∃ wp : Nat, (H2.1 1826 50) = wp ∧ p < wp ∧ wp < p + k ∧ 100 ≤ H.1 c wp ∧ ∃ kw : Nat, wp + kw ≤ p + k ∧ tm (ma (H.1 1833) (H.1 1830)) ok (H.1 c) kw wp 1)))) := by
  intro w
  induction w with
  | zero => exact fun _ _ _ _ h => absurd h (Nat.not_lt_zero _)
  | succ w ih =>
    intro H1 i hf hi hw
    refine h_rng (fun hrg1 => ?_)
    obtain ⟨⟨pb1, pb2, pb3, pb4, pb5⟩, pw1, pw2, pw3, pw4⟩ := (id hP : PW H (H.1 1826 1) (H.1 1826 3) (H.1 1826 8) (H.1 1826 13) (H.1 1826 19))
    have eC : H1.1 c = H.1 c := hf.2.1 c hcm.1 hcm.2
    have hP1 := PWc_fr hP hf (by decide) (by decide)
    have e_ruleLeft : (H1.1 1837) = (H.1 1837) := hf.2.1 1837 (by decide) (by decide)
    have e_ruleLeftSize : (H1.1 1838) = (H.1 1838) := hf.2.1 1838 (by decide) (by decide)
    have e_ruleFun : (H1.1 1836) = (H.1 1836) := hf.2.1 1836 (by decide) (by decide)
    have e_funArity : (H1.1 1833) = (H.1 1833) := hf.2.1 1833 (by decide) (by decide)
    have e_conArity : (H1.1 1830) = (H.1 1830) := hf.2.1 1830 (by decide) (by decide)
    have eru : (H1.1 1826 13) = (H.1 1826 13) := hf.2.2 13 (by decide)
    have eco : (H1.1 1826 3) = (H.1 1826 3) := hf.2.2 3 (by decide)
    obtain ⟨k1, hk1⟩ : ∃ k1, k = k1 + 1 := ⟨k - 1, by have := tm_le hT; omega⟩
    refine h_run 3 (pc' := 16) (l' := [(0, .inr (.inr 1826)), (1, .inr (.inr c)), (2, .inl (p : Int)), (3, .inl ((H.1 c p) - 100)), (4, .inl (i : Int))]) (st' := [.inl (H1.1 1826 13), .inl (i : Int)]) rfl ?_
    have g2 : -2147483648 ≤ (H1.1 1826 13) ∧ (H1.1 1826 13) ≤ 2147483647 := hrg1.1 1826 13 13 _ .int rfl rfl
    have e3 : (H1.1 1826 13) = (H.1 1826 13) := hf.2.2 13 (by decide)
    refine h_ige (off := 47) (t := 63) rfl rfl (by omega) (by omega) (fun c4 => ?_) (fun c4 => ?_)
    · refine h_run 1 (pc' := 64) (l' := [(0, .inr (.inr 1826)), (1, .inr (.inr c)), (2, .inl (p : Int)), (3, .inl ((H.1 c p) - 100)), (4, .inl (i : Int))]) (st' := [.inl 1]) rfl ?_
      refine h_reti (x := 1) rfl rfl ?_
      exact ⟨hf, 1, rfl, Or.inr (Or.inl rfl)⟩
    · refine h_run 3 (pc' := 25) (l' := [(0, .inr (.inr 1826)), (1, .inr (.inr c)), (2, .inl (p : Int)), (3, .inl ((H.1 c p) - 100)), (4, .inl (i : Int))]) (st' := [.inl (i : Int), .inr (.inr 1836)]) rfl ?_
      refine h_ild (c := 1836) (j := i) (i := (i : Int)) rfl rfl (by decide) rfl (by omega) ?_
      have g5 : -2147483648 ≤ (H1.1 1836 i) ∧ (H1.1 1836 i) ≤ 2147483647 := hrg1.2 1836 i 40 .int rfl (by omega)
      have e6 : (H1.1 1836 i) = (H.1 1836 i) := congrFun (hf.2.1 1836 (by decide) (by decide)) i
      refine h_run 0 (pc' := 26) (l' := [(0, .inr (.inr 1826)), (1, .inr (.inr c)), (2, .inl (p : Int)), (3, .inl ((H.1 c p) - 100)), (4, .inl (i : Int))]) (st' := [.inl (H1.1 1836 i)]) rfl ?_
      refine h_run 1 (pc' := 27) (l' := [(0, .inr (.inr 1826)), (1, .inr (.inr c)), (2, .inl (p : Int)), (3, .inl ((H.1 c p) - 100)), (4, .inl (i : Int))]) (st' := [.inl ((H.1 c p) - 100), .inl (H1.1 1836 i)]) rfl ?_
      refine h_ine (off := 30) (t := 57) rfl rfl (by omega) (by omega) (fun c7 => ?_) (fun c7 => ?_)
      · refine h_run 2 (pc' := 10) (l' := [(0, .inr (.inr 1826)), (1, .inr (.inr c)), (2, .inl (p : Int)), (3, .inl ((H.1 c p) - 100)), (4, .inl ((i : Int) + 1))]) (st' := []) rfl ?_
        rw [show ((i : Int) + 1) = (((i + 1) : Nat) : Int) by omega]
        exact ih _ (i + 1) hf (by omega) (by omega : ((H.1 1826 13) - (i + 1)).toNat < w)
      · obtain ⟨f, kl, kr, q, ⟨f0, f1⟩, ⟨f2, f3⟩, -, f5, f6, -, -⟩ := pw3 i (by omega)
        have ef : H1.1 1836 i = H.1 1836 i := by rw [e_ruleFun]
        have hff : H.1 c p = 100 + (f : Int) := by omega
        have hT9 : tm (ma (H.1 1833) (H.1 1830)) ok (H.1 c) k1 (p + 1) q := by rw [hk1] at hT; obtain ⟨-, -, m9, h9, -, h8⟩ := hT; rw [hff, ma_f (by omega), show ((100 : Int) + f - 100).toNat = f by omega, f5] at h9; rw [show q = 1 - 1 + m9 by omega]; exact h8
        refine h_run 6 (pc' := 37) (l' := [(0, .inr (.inr 1826)), (1, .inr (.inr c)), (2, .inl (p : Int)), (3, .inl ((H.1 c p) - 100)), (4, .inl (i : Int))]) (st' := [.inl (i : Int), .inl ((p : Int) + 1), .inr (.inr c), .inr (.inr 1826)]) rfl ?_
        refine h_cv (i := 420) (j := 197) (b := 1826) (M' := mt_197) (xs := [.inl (i : Int), .inl ((p : Int) + 1), .inr (.inr c)]) (rest := []) rfl rfl rfl rfl rfl rfl (Nat.le_of_ble_eq_true rfl) (Nat.le_of_ble_eq_true rfl) (by omega) (m_fits (by omega) (r := i) (a := p + 1) (k := k1) (kl := kl) (q := q) (ok := ok) hc hn hcm hok hP1 (by omega) ⟨by rw [e_ruleLeftSize]; exact f2, f3⟩ (by rw [e_ruleLeft, e_funArity, e_conArity, eco]; exact f6) (by rw [eC, e_funArity, e_conArity]; exact hT9) (by omega)) ?_
        rintro _ H8 ⟨hx8f, hx8r, rfl, hx8d⟩
        refine h_rng (fun hrg9 => ?_)
        have hf10 : fr [50, 51] [1855] H H8 := fr_t hf hx8f (by decide) (by decide)
        have hx8b : 0 ≤ hx8r ∧ hx8r ≤ 3 := by rcases hx8d with ⟨h9, -⟩ | h9 | ⟨h9, -⟩ | h9 <;> omega
        replace hx8d : hid _ := hx8d
        refine h_run 0 (pc' := 40) (l' := [(0, .inr (.inr 1826)), (1, .inr (.inr c)), (2, .inl (p : Int)), (3, .inl ((H.1 c p) - 100)), (4, .inl (i : Int))]) (st' := [.inl hx8r]) rfl ?_
        refine h_run 3 (pc' := 45) (l' := [(0, .inr (.inr 1826)), (1, .inr (.inr c)), (2, .inl (p : Int)), (3, .inl ((H.1 c p) - 100)), (4, .inl (i : Int)), (5, .inl hx8r)]) (st' := [.inl 3, .inl hx8r]) rfl ?_
        refine h_ieq (off := 12) (t := 57) rfl rfl (by omega) (by decide) (fun c11 => ?_) (fun c11 => ?_)
        · refine h_run 2 (pc' := 10) (l' := [(0, .inr (.inr 1826)), (1, .inr (.inr c)), (2, .inl (p : Int)), (3, .inl ((H.1 c p) - 100)), (4, .inl ((i : Int) + 1)), (5, .inl hx8r)]) (st' := []) rfl ?_
          refine h_loc [0, 1, 2, 3, 4] rfl ?_
          rw [show ((i : Int) + 1) = (((i + 1) : Nat) : Int) by omega]
          exact ih _ (i + 1) hf10 (by omega) (by omega : ((H.1 1826 13) - (i + 1)).toNat < w)
        · refine h_run 2 (pc' := 51) (l' := [(0, .inr (.inr 1826)), (1, .inr (.inr c)), (2, .inl (p : Int)), (3, .inl ((H.1 c p) - 100)), (4, .inl (i : Int)), (5, .inl hx8r)]) (st' := [.inl (i : Int), .inr (.inr 1826)]) rfl ?_
          refine h_puti (i := 424) (ci := 13) (k := 51) (a := 1826) (x := (i : Int)) rfl rfl rfl rfl rfl rfl (by decide) (by omega) ?_
          refine h_run 1 (pc' := 56) (l' := [(0, .inr (.inr 1826)), (1, .inr (.inr c)), (2, .inl (p : Int)), (3, .inl ((H.1 c p) - 100)), (4, .inl (i : Int)), (5, .inl hx8r)]) (st' := [.inl hx8r]) rfl ?_
          refine h_reti (x := hx8r) rfl rfl ?_
          refine ⟨(fr_o hf10 (by decide)), _, rfl, ?_⟩
          rcases (id hx8d : _ ∨ _) with ⟨h9, h8⟩ | h9 | ⟨h9, wp, w1, w2, w3, w4, kw, w5, w6⟩ | h9
          · exact Or.inl ⟨h9, i, kl, rfl, by omega, f2, by rw [eC, e_ruleLeft, e_funArity, e_conArity, show p + 1 + k1 = p + k by omega] at h8; exact h8⟩
          · exact Or.inr (Or.inl h9)
          · exact Or.inr (Or.inr ⟨h9, wp, w1, by omega, by omega, by rw [eC] at w4; exact w4, kw, by omega, by rw [eC, e_funArity, e_conArity] at w6; exact w6⟩)
          · exact absurd h9 (by omega)
set_option maxRecDepth 100000 in
theorem m_match {zC : Nat → Option zsh} {d : Nat} (hd : 4 ≤ d) {H : hp} {c n p k : Nat} {ok : Int → Prop} (hc : zs zC c = some (.inr (.int, n))) (hn : n ≤ 100000) (hcm : c ≠ 1826 ∧ c ∉ [1855]) (hok : ∀ s, ok s → sg0 s) (hP : PWc H) (hT : tm (ma (H.1 1833) (H.1 1830)) ok (H.1 c) k p 1) (hb : p + k ≤ n) (hs : 100 ≤ H.1 c p ∧ H.1 c p < 100 + (H.1 1826 8)) : hG (zs zC) d mt_196 0 (zargs 0 [.inr (.inr 1826), .inr (.inr c), .inl (p : Int)]) [] H (fun r9 H2 => fr [50, 51] [1855] H H2 ∧ ∃ r0 : Int, r9 = some (.inl r0) ∧ ((r0 = 0 ∧ ∃ r kl : Nat, (H2.1 1826 51) = r ∧ (r : Int) < (H.1 1826 13) ∧ (H.1 1838) r = kl ∧ bnd (ma (H.1 1833) (H.1 1830)) ok (H.1 c) (H.1 1837) (H2.1 1855) r kl (p + 1) (p + k)) ∨ r0 = 1 ∨ (r0 = 2 ∧ ∃ wp : Nat, (H2.1 1826 50) = wp ∧ p < wp ∧ wp < p + k ∧ 100 ≤ H.1 c wp ∧ ∃ kw : Nat, wp + kw ≤ p + k ∧ tm (ma (H.1 1833) (H.1 1830)) ok (H.1 c) kw wp 1))) := by
  refine h_rng (fun hrg0 => ?_)
  refine h_run 0 (pc' := 0) (l' := [(0, .inr (.inr 1826)), (1, .inr (.inr c)), (2, .inl (p : Int))]) (st' := []) rfl ?_
  obtain ⟨⟨pb1, pb2, pb3, pb4, pb5⟩, pw1, pw2, pw3, pw4⟩ := (id hP : PW H (H.1 1826 1) (H.1 1826 3) (H.1 1826 8) (H.1 1826 13) (H.1 1826 19))
  have hkp : 1 ≤ k := tm_le hT
  refine h_run 2 (pc' := 2) (l' := [(0, .inr (.inr 1826)), (1, .inr (.inr c)), (2, .inl (p : Int))]) (st' := [.inl (p : Int), .inr (.inr c)]) rfl ?_
  refine h_ild (c := c) (j := p) (i := (p : Int)) rfl hc (by omega) rfl (by omega) ?_
  have g12 : -2147483648 ≤ (H.1 c p) ∧ (H.1 c p) ≤ 2147483647 := hrg0.2 c p n .int hc (by omega)
  refine h_run 0 (pc' := 3) (l' := [(0, .inr (.inr 1826)), (1, .inr (.inr c)), (2, .inl (p : Int))]) (st' := [.inl (H.1 c p)]) rfl ?_
  refine h_run 5 (pc' := 10) (l' := [(0, .inr (.inr 1826)), (1, .inr (.inr c)), (2, .inl (p : Int)), (3, .inl ((H.1 c p) - 100)), (4, .inl 0)]) (st' := []) rfl ?_
  exact (m_match_cut hd hc hn hcm hok hP hT hb hs _) _ 0 (fr_rf _ _ _) (by omega) (Nat.lt_succ_self _)

/-! copy -/
set_option maxRecDepth 100000 in
theorem m_copy_cut {zC : Nat → Option zsh} {d : Nat} (hd : 1 ≤ d) {H : hp} {c n a e ms : Nat} (hc : zs zC c = some (.inr (.int, n))) (hn : n ≤ 100000) (hcm : c ≠ 1826 ∧ c ∉ [1856]) (he : a ≤ e ∧ e ≤ n) (hm : (H.1 1826 53) = ms ∧ ms + (e - a) ≤ 12000) : ∀ w : Nat, (∀ (H1 : hp) (i : Nat), (fr [53] [1856] H H1) → (a ≤ i ∧ i ≤ e) → ((H1.1 1826 53) = ((ms + (i - a) : Nat) : Int)) → (∀ x, x < ms → (H1.1 1856) x = (H.1 1856) x) → (∀ x, x < i - a → (H1.1 1856) (ms + x) = H.1 c (a + x)) → e - i < w → hG (zs zC) d mt_198 3 [(0, .inr (.inr 1826)), (1, .inr (.inr c)), (3, .inl (e : Int)), (4, .inl (i : Int))] [] H1 (fun r9 H2 => r9 = none ∧ fr [53] [1856] H H2 ∧ (H2.1 1826 53) = ((ms + (e - a) : Nat) : Int) ∧ (∀ x, x < ms → (H2.1 1856) x = (H.1 1856) x) ∧ ∀ x, x < e - a → (H2.1 1856) (ms + x) = H.1 c (a + x))) := by
  intro w
  induction w with
  | zero => exact fun _ _ _ _ _ _ _ h => absurd h (Nat.not_lt_zero _)
  | succ w ih =>
    intro H1 i hf hi hz hk hcp hw
    refine h_rng (fun hrg1 => ?_)
    have eC : H1.1 c = H.1 c := hf.2.1 c hcm.1 hcm.2
    refine h_run 2 (pc' := 6) (l' := [(0, .inr (.inr 1826)), (1, .inr (.inr c)), (3, .inl (e : Int)), (4, .inl (i : Int))]) (st' := [.inl (e : Int), .inl (i : Int)]) rfl ?_
    refine h_ige (off := 32) (t := 38) rfl rfl (by omega) (by omega) (fun c2 => ?_) (fun c2 => ?_)
    · refine h_ret rfl rfl ?_
      exact ⟨rfl, hf, (by omega), hk, fun x hx => hcp x (by omega)⟩
    · refine h_run 4 (pc' := 17) (l' := [(0, .inr (.inr 1826)), (1, .inr (.inr c)), (3, .inl (e : Int)), (4, .inl (i : Int))]) (st' := [.inl (H1.1 1826 53), .inr (.inr 1856)]) rfl ?_
      have g3 : -2147483648 ≤ (H1.1 1826 53) ∧ (H1.1 1826 53) ≤ 2147483647 := hrg1.1 1826 13 53 _ .int rfl rfl
      refine h_run 2 (pc' := 20) (l' := [(0, .inr (.inr 1826)), (1, .inr (.inr c)), (3, .inl (e : Int)), (4, .inl (i : Int))]) (st' := [.inl (i : Int), .inr (.inr c), .inl (H1.1 1826 53), .inr (.inr 1856)]) rfl ?_
      refine h_ild (c := c) (j := i) (i := (i : Int)) rfl hc (by omega) rfl (by omega) ?_
      have g4 : -2147483648 ≤ (H1.1 c i) ∧ (H1.1 c i) ≤ 2147483647 := hrg1.2 c i n .int hc (by omega)
      refine h_run 0 (pc' := 21) (l' := [(0, .inr (.inr 1826)), (1, .inr (.inr c)), (3, .inl (e : Int)), (4, .inl (i : Int))]) (st' := [.inl (H1.1 c i), .inl (H1.1 1826 53), .inr (.inr 1856)]) rfl ?_
      refine h_ist (c := 1856) (j := ((H1.1 1826 53)).toNat) (i := (H1.1 1826 53)) (x := (H1.1 c i)) rfl rfl (by decide) (by decide) (by omega) (by omega) (by omega) ?_
      refine h_run 3 (pc' := 27) (l' := [(0, .inr (.inr 1826)), (1, .inr (.inr c)), (3, .inl (e : Int)), (4, .inl (i : Int))]) (st' := [.inl (H1.1 1826 53), .inr (.inr 1826)]) rfl ?_
      refine h_run 2 (pc' := 29) (l' := [(0, .inr (.inr 1826)), (1, .inr (.inr c)), (3, .inl (e : Int)), (4, .inl (i : Int))]) (st' := [.inl ((H1.1 1826 53) + 1), .inr (.inr 1826)]) rfl ?_
      refine h_puti (i := 437) (ci := 13) (k := 53) (a := 1826) (x := ((H1.1 1826 53) + 1)) rfl rfl rfl rfl rfl rfl (by decide) (by omega) ?_
      refine h_run 2 (pc' := 3) (l' := [(0, .inr (.inr 1826)), (1, .inr (.inr c)), (3, .inl (e : Int)), (4, .inl ((i : Int) + 1))]) (st' := []) rfl ?_
      rw [show ((i : Int) + 1) = (((i + 1) : Nat) : Int) by omega]
      exact ih _ (i + 1) (fr_o (fr_a hf (by decide)) (by decide)) (by omega) (by omega : ((H1.1 1826 53) + 1) = ((ms + ((i + 1) - a) : Nat) : Int)) (fun x hx => (show up (H1.1 1856) ((H1.1 1826 53)).toNat (H1.1 c i) x = _ from (up_ne _ _ (by omega)).trans (hk x hx))) (fun x hx => by show up (H1.1 1856) ((H1.1 1826 53)).toNat (H1.1 c i) (ms + x) = _; rw [up_if]; by_cases e9 : ms + x = ((H1.1 1826 53)).toNat; { rw [if_pos e9, eC, show a + x = i by omega] }; { rw [if_neg e9]; exact hcp x (by omega) }) (by omega : e - (i + 1) < w)
set_option maxRecDepth 100000 in
theorem m_copy {zC : Nat → Option zsh} {d : Nat} (hd : 1 ≤ d) {H : hp} {c n a e ms : Nat} (hc : zs zC c = some (.inr (.int, n))) (hn : n ≤ 100000) (hcm : c ≠ 1826 ∧ c ∉ [1856]) (he : a ≤ e ∧ e ≤ n) (hm : (H.1 1826 53) = ms ∧ ms + (e - a) ≤ 12000) : hG (zs zC) d mt_198 0 (zargs 0 [.inr (.inr 1826), .inr (.inr c), .inl (a : Int), .inl (e : Int)]) [] H (fun r9 H2 => r9 = none ∧ fr [53] [1856] H H2 ∧ (H2.1 1826 53) = ((ms + (e - a) : Nat) : Int) ∧ (∀ x, x < ms → (H2.1 1856) x = (H.1 1856) x) ∧ ∀ x, x < e - a → (H2.1 1856) (ms + x) = H.1 c (a + x)) := by
  refine h_rng (fun hrg0 => ?_)
  refine h_run 0 (pc' := 0) (l' := [(0, .inr (.inr 1826)), (1, .inr (.inr c)), (2, .inl (a : Int)), (3, .inl (e : Int))]) (st' := []) rfl ?_
  refine h_run 2 (pc' := 3) (l' := [(0, .inr (.inr 1826)), (1, .inr (.inr c)), (2, .inl (a : Int)), (3, .inl (e : Int)), (4, .inl (a : Int))]) (st' := []) rfl ?_
  have g5 : -2147483648 ≤ (H.1 1826 53) ∧ (H.1 1826 53) ≤ 2147483647 := hrg0.1 1826 13 53 _ .int rfl rfl
  refine h_loc [0, 1, 3, 4] rfl ?_
  exact (m_copy_cut hd hc hn hcm he hm _) _ a (fr_rf _ _ _) (by omega) (by omega : (H.1 1826 53) = ((ms + (a - a) : Nat) : Int)) (fun _ _ => rfl) (fun x hx => absurd hx (by omega)) (Nat.lt_succ_self _)
