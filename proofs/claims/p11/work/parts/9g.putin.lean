/-! the reference: something in place of a sign -/
/-! putIn -/
set_option maxRecDepth 100000 in
theorem m_putIn_cut {zC : Nat → Option zsh} {d : Nat} (hd : 1 ≤ d) {H : hp} {c n a ln sn : Nat} {sg : Int} {ok : Int → Prop} (hc : zs zC c = some (.inr (.int, n))) (hn : n ≤ 100000) (hcm : c ≠ 1826 ∧ c ∉ [1856]) (hT : tm (ma (H.1 1833) (H.1 1830)) ok (H.1 c) ln a 1) (hl : a + ln ≤ n ∧ ln ≤ 64) (hsn : (H.1 1826 99) = sn ∧ sn ≤ 4) (hst : tm (ma (H.1 1833) (H.1 1830)) ok (H.1 1887) sn 0 1) (hsg : 1000 ≤ sg ∧ sg ≤ 3000) : ∀ w : Nat, (∀ (H1 : hp) (z : Nat) (cur : Nat) (mm : Nat), (fr [53] [1856] H H1) → (a ≤ z ∧ z ≤ a + ln) → ((H1.1 1826 53) = ((cur : Nat) : Int) ∧ cur ≤ 4 * (z - a)) → (tm (ma (H.1 1833) (H.1 1830)) ok (H.1 c) (a + ln - z) z mm) → (tp (ma (H.1 1833) (H.1 1830)) ok (H1.1 1856) cur 0 1 mm) → 100 * (a + ln - z) + 50 < w → hG (zs zC) d mt_248 8 [(0, .inr (.inr 1826)), (1, .inr (.inr c)), (2, .inl (a : Int)), (3, .inl (ln : Int)), (4, .inl sg), (5, .inl (z : Int))] [] H1 (fun r9 H2 => r9 = none ∧ fr [53] [1856] H H2 ∧ ∃ M : Nat, (H2.1 1826 53) = M ∧ M ≤ 256 ∧ tm (ma (H.1 1833) (H.1 1830)) ok (H2.1 1856) M 0 1)) ∧ (∀ (H1 : hp) (z : Nat) (j : Nat) (cur : Nat) (mm : Nat), (fr [53] [1856] H H1) → (a ≤ z ∧ z < a + ln) → (j ≤ sn) → (1 ≤ mm) → ((H1.1 1826 53) = ((cur + j : Nat) : Int) ∧ cur ≤ 4 * (z - a)) → (tm (ma (H.1 1833) (H.1 1830)) ok (H.1 c) (a + ln - (z + 1)) (z + 1) (mm - 1)) → (tp (ma (H.1 1833) (H.1 1830)) ok (H1.1 1856) cur 0 1 mm) → (∀ x, x < j → (H1.1 1856) (cur + x) = (H.1 1887) x) → 100 * (a + ln - z) + (10 - j) < w → hG (zs zC) d mt_248 28 [(0, .inr (.inr 1826)), (1, .inr (.inr c)), (2, .inl (a : Int)), (3, .inl (ln : Int)), (4, .inl sg), (5, .inl (z : Int)), (6, .inl (j : Int))] [] H1 (fun r9 H2 => r9 = none ∧ fr [53] [1856] H H2 ∧ ∃ M : Nat, (H2.1 1826 53) = M ∧ M ≤ 256 ∧ tm (ma (H.1 1833) (H.1 1830)) ok (H2.1 1856) M 0 1)) := by
  intro w
  induction w with
  | zero => exact ⟨fun _ _ _ _ _ _ _ _ _ h => absurd h (Nat.not_lt_zero _), fun _ _ _ _ _ _ _ _ _ _ _ _ _ h => absurd h (Nat.not_lt_zero _)⟩
  | succ w ih =>
    refine ⟨?_, ?_⟩
    · intro H1 z cur mm hf hz2 hz hp2 hmd hw
      refine h_rng (fun hrg1 => ?_)
      have eC : H1.1 c = H.1 c := hf.2.1 c hcm.1 hcm.2
      have e_st : (H1.1 1887) = (H.1 1887) := hf.2.1 1887 (by decide) (by decide)
      have f_ss : (H1.1 1826 99) = (H.1 1826 99) := hf.2.2 99 (by decide)
      refine h_run 4 (pc' := 13) (l' := [(0, .inr (.inr 1826)), (1, .inr (.inr c)), (2, .inl (a : Int)), (3, .inl (ln : Int)), (4, .inl sg), (5, .inl (z : Int))]) (st' := [.inl ((a : Int) + (ln : Int)), .inl (z : Int)]) rfl ?_
      refine h_ige (off := 88) (t := 101) rfl rfl (by omega) (by omega) (fun c2 => ?_) (fun c2 => ?_)
      · refine h_ret rfl rfl ?_
        rw [show a + ln - z = 0 by omega] at hp2
        obtain rfl : mm = 0 := hp2
        exact ⟨rfl, hf, cur, hz.1, by omega, tp_tm hmd⟩
      · obtain ⟨y2, hy2⟩ : ∃ y2, a + ln - z = y2 + 1 := ⟨a + ln - z - 1, by omega⟩
        rw [hy2] at hp2
        obtain ⟨hm0, hsp, qq, hqq, hq4, hp3⟩ := hp2
        have hp4 : tm (ma (H.1 1833) (H.1 1830)) ok (H.1 c) (a + ln - (z + 1)) (z + 1) (mm - 1 + qq) := by rw [show a + ln - (z + 1) = y2 by omega]; exact hp3
        have es : H1.1 c z = H.1 c z := by rw [eC]
        refine h_run 2 (pc' := 19) (l' := [(0, .inr (.inr 1826)), (1, .inr (.inr c)), (2, .inl (a : Int)), (3, .inl (ln : Int)), (4, .inl sg), (5, .inl (z : Int))]) (st' := [.inl (z : Int), .inr (.inr c)]) rfl ?_
        refine h_ild (c := c) (j := z) (i := (z : Int)) rfl hc (by omega) rfl (by omega) ?_
        have g3 : -2147483648 ≤ (H1.1 c z) ∧ (H1.1 c z) ≤ 2147483647 := hrg1.2 c z n .int hc (by omega)
        refine h_run 0 (pc' := 20) (l' := [(0, .inr (.inr 1826)), (1, .inr (.inr c)), (2, .inl (a : Int)), (3, .inl (ln : Int)), (4, .inl sg), (5, .inl (z : Int))]) (st' := [.inl (H1.1 c z)]) rfl ?_
        refine h_run 1 (pc' := 22) (l' := [(0, .inr (.inr 1826)), (1, .inr (.inr c)), (2, .inl (a : Int)), (3, .inl (ln : Int)), (4, .inl sg), (5, .inl (z : Int))]) (st' := [.inl sg, .inl (H1.1 c z)]) rfl ?_
        refine h_ine (off := 50) (t := 72) rfl rfl (by omega) (by omega) (fun c4 => ?_) (fun c4 => ?_)
        · refine h_run 4 (pc' := 80) (l' := [(0, .inr (.inr 1826)), (1, .inr (.inr c)), (2, .inl (a : Int)), (3, .inl (ln : Int)), (4, .inl sg), (5, .inl (z : Int))]) (st' := [.inl (H1.1 1826 53), .inr (.inr 1856)]) rfl ?_
          have g5 : -2147483648 ≤ (H1.1 1826 53) ∧ (H1.1 1826 53) ≤ 2147483647 := hrg1.1 1826 13 53 _ .int rfl rfl
          refine h_run 2 (pc' := 83) (l' := [(0, .inr (.inr 1826)), (1, .inr (.inr c)), (2, .inl (a : Int)), (3, .inl (ln : Int)), (4, .inl sg), (5, .inl (z : Int))]) (st' := [.inl (z : Int), .inr (.inr c), .inl (H1.1 1826 53), .inr (.inr 1856)]) rfl ?_
          refine h_ild (c := c) (j := z) (i := (z : Int)) rfl hc (by omega) rfl (by omega) ?_
          refine h_run 0 (pc' := 84) (l' := [(0, .inr (.inr 1826)), (1, .inr (.inr c)), (2, .inl (a : Int)), (3, .inl (ln : Int)), (4, .inl sg), (5, .inl (z : Int))]) (st' := [.inl (H1.1 c z), .inl (H1.1 1826 53), .inr (.inr 1856)]) rfl ?_
          refine h_ist (c := 1856) (j := ((H1.1 1826 53)).toNat) (i := (H1.1 1826 53)) (x := (H1.1 c z)) rfl rfl (by decide) (by decide) (by omega) (by omega) (by omega) ?_
          refine h_run 3 (pc' := 90) (l' := [(0, .inr (.inr 1826)), (1, .inr (.inr c)), (2, .inl (a : Int)), (3, .inl (ln : Int)), (4, .inl sg), (5, .inl (z : Int))]) (st' := [.inl (H1.1 1826 53), .inr (.inr 1826)]) rfl ?_
          refine h_run 2 (pc' := 92) (l' := [(0, .inr (.inr 1826)), (1, .inr (.inr c)), (2, .inl (a : Int)), (3, .inl (ln : Int)), (4, .inl sg), (5, .inl (z : Int))]) (st' := [.inl ((H1.1 1826 53) + 1), .inr (.inr 1826)]) rfl ?_
          refine h_puti (i := 437) (ci := 13) (k := 53) (a := 1826) (x := ((H1.1 1826 53) + 1)) rfl rfl rfl rfl rfl rfl (by decide) (by omega) ?_
          refine h_run 2 (pc' := 8) (l' := [(0, .inr (.inr 1826)), (1, .inr (.inr c)), (2, .inl (a : Int)), (3, .inl (ln : Int)), (4, .inl sg), (5, .inl ((z : Int) + 1))]) (st' := []) rfl ?_
          rw [show ((z : Int) + 1) = (((z + 1) : Nat) : Int) by omega]
          exact ih.1 _ (z + 1) (cur + 1) (mm - 1 + qq) (fr_o (fr_a hf (by decide)) (by decide)) (by omega) (by omega : ((H1.1 1826 53) + 1) = (((cur + 1) : Nat) : Int) ∧ (cur + 1) ≤ 4 * ((z + 1) - a)) hp4 (by show tp (ma (H.1 1833) (H.1 1830)) ok (up (H1.1 1856) ((H1.1 1826 53)).toNat (H1.1 c z)) (cur + 1) 0 1 (mm - 1 + qq); rw [show ((H1.1 1826 53)).toNat = cur by omega, es]; refine tp_snoc (tp_at (by rw [show mm - 1 + 1 = mm by omega]; exact hmd) (fun x hx => up_ne _ _ (by omega))) ?_ ?_ hq4; { rw [Nat.zero_add, up_eq]; exact hsp }; { rw [Nat.zero_add, up_eq]; exact hqq }) (by omega : 100 * (a + ln - (z + 1)) + 50 < w)
        · have hq0 : qq = 0 := by rw [ma_0 (by omega)] at hqq; omega
          refine h_run 2 (pc' := 28) (l' := [(0, .inr (.inr 1826)), (1, .inr (.inr c)), (2, .inl (a : Int)), (3, .inl (ln : Int)), (4, .inl sg), (5, .inl (z : Int)), (6, .inl 0)]) (st' := []) rfl ?_
          have g6 : -2147483648 ≤ (H1.1 1826 53) ∧ (H1.1 1826 53) ≤ 2147483647 := hrg1.1 1826 13 53 _ .int rfl rfl
          exact ih.2 _ z 0 (cur) (mm) hf (by omega) (by omega) (by omega) (by omega : (H1.1 1826 53) = (((cur) + 0 : Nat) : Int) ∧ (cur) ≤ 4 * (z - a)) (by have h9 := hp4; rw [hq0, Nat.add_zero] at h9; exact h9) hmd (fun x hx => absurd hx (Nat.not_lt_zero _)) (by omega : 100 * (a + ln - z) + (10 - 0) < w)
    · intro H1 z j cur mm hf hz2 hj hmm hz hp4 hmd hcp hw
      refine h_rng (fun hrg7 => ?_)
      have eC : H1.1 c = H.1 c := hf.2.1 c hcm.1 hcm.2
      have e_st : (H1.1 1887) = (H.1 1887) := hf.2.1 1887 (by decide) (by decide)
      have f_ss : (H1.1 1826 99) = (H.1 1826 99) := hf.2.2 99 (by decide)
      refine h_run 3 (pc' := 34) (l' := [(0, .inr (.inr 1826)), (1, .inr (.inr c)), (2, .inl (a : Int)), (3, .inl (ln : Int)), (4, .inl sg), (5, .inl (z : Int)), (6, .inl (j : Int))]) (st' := [.inl (H1.1 1826 99), .inl (j : Int)]) rfl ?_
      have g8 : -2147483648 ≤ (H1.1 1826 99) ∧ (H1.1 1826 99) ≤ 2147483647 := hrg7.1 1826 13 99 _ .int rfl rfl
      have e9 : (H1.1 1826 99) = (H.1 1826 99) := hf.2.2 99 (by decide)
      refine h_ige (off := 35) (t := 69) rfl rfl (by omega) (by omega) (fun c10 => ?_) (fun c10 => ?_)
      · refine h_run 3 (pc' := 8) (l' := [(0, .inr (.inr 1826)), (1, .inr (.inr c)), (2, .inl (a : Int)), (3, .inl (ln : Int)), (4, .inl sg), (5, .inl ((z : Int) + 1)), (6, .inl (j : Int))]) (st' := []) rfl ?_
        have g11 : -2147483648 ≤ (H1.1 1826 53) ∧ (H1.1 1826 53) ≤ 2147483647 := hrg7.1 1826 13 53 _ .int rfl rfl
        refine h_loc [0, 1, 2, 3, 4, 5] rfl ?_
        rw [show ((z : Int) + 1) = (((z + 1) : Nat) : Int) by omega]
        exact ih.1 _ (z + 1) (cur + sn) (mm - 1) hf (by omega) (by omega : (H1.1 1826 53) = (((cur + sn) : Nat) : Int) ∧ (cur + sn) ≤ 4 * ((z + 1) - a)) hp4 (by rw [show cur + sn = cur + sn from rfl]; refine tp_term (m := mm - 1) (by rw [show mm - 1 + 1 = mm by omega]; exact hmd) ?_; rw [Nat.zero_add]; exact tm_at hst (fun x hx => by rw [Nat.zero_add]; exact hcp x (by omega))) (by omega : 100 * (a + ln - (z + 1)) + 50 < w)
      · refine h_run 4 (pc' := 45) (l' := [(0, .inr (.inr 1826)), (1, .inr (.inr c)), (2, .inl (a : Int)), (3, .inl (ln : Int)), (4, .inl sg), (5, .inl (z : Int)), (6, .inl (j : Int))]) (st' := [.inl (H1.1 1826 53), .inr (.inr 1856)]) rfl ?_
        have g12 : -2147483648 ≤ (H1.1 1826 53) ∧ (H1.1 1826 53) ≤ 2147483647 := hrg7.1 1826 13 53 _ .int rfl rfl
        refine h_run 3 (pc' := 51) (l' := [(0, .inr (.inr 1826)), (1, .inr (.inr c)), (2, .inl (a : Int)), (3, .inl (ln : Int)), (4, .inl sg), (5, .inl (z : Int)), (6, .inl (j : Int))]) (st' := [.inl (j : Int), .inr (.inr 1887), .inl (H1.1 1826 53), .inr (.inr 1856)]) rfl ?_
        refine h_ild (c := 1887) (j := j) (i := (j : Int)) rfl rfl (by decide) rfl (by omega) ?_
        have g13 : -2147483648 ≤ (H1.1 1887 j) ∧ (H1.1 1887 j) ≤ 2147483647 := hrg7.2 1887 j 8 .int rfl (by omega)
        have e14 : (H1.1 1887 j) = (H.1 1887 j) := congrFun (hf.2.1 1887 (by decide) (by decide)) j
        refine h_run 0 (pc' := 52) (l' := [(0, .inr (.inr 1826)), (1, .inr (.inr c)), (2, .inl (a : Int)), (3, .inl (ln : Int)), (4, .inl sg), (5, .inl (z : Int)), (6, .inl (j : Int))]) (st' := [.inl (H1.1 1887 j), .inl (H1.1 1826 53), .inr (.inr 1856)]) rfl ?_
        refine h_ist (c := 1856) (j := ((H1.1 1826 53)).toNat) (i := (H1.1 1826 53)) (x := (H1.1 1887 j)) rfl rfl (by decide) (by decide) (by omega) (by omega) (by omega) ?_
        refine h_run 3 (pc' := 58) (l' := [(0, .inr (.inr 1826)), (1, .inr (.inr c)), (2, .inl (a : Int)), (3, .inl (ln : Int)), (4, .inl sg), (5, .inl (z : Int)), (6, .inl (j : Int))]) (st' := [.inl (H1.1 1826 53), .inr (.inr 1826)]) rfl ?_
        refine h_run 2 (pc' := 60) (l' := [(0, .inr (.inr 1826)), (1, .inr (.inr c)), (2, .inl (a : Int)), (3, .inl (ln : Int)), (4, .inl sg), (5, .inl (z : Int)), (6, .inl (j : Int))]) (st' := [.inl ((H1.1 1826 53) + 1), .inr (.inr 1826)]) rfl ?_
        refine h_puti (i := 437) (ci := 13) (k := 53) (a := 1826) (x := ((H1.1 1826 53) + 1)) rfl rfl rfl rfl rfl rfl (by decide) (by omega) ?_
        refine h_run 2 (pc' := 28) (l' := [(0, .inr (.inr 1826)), (1, .inr (.inr c)), (2, .inl (a : Int)), (3, .inl (ln : Int)), (4, .inl sg), (5, .inl (z : Int)), (6, .inl ((j : Int) + 1))]) (st' := []) rfl ?_
        rw [show ((j : Int) + 1) = (((j + 1) : Nat) : Int) by omega]
        exact ih.2 _ z (j + 1) (cur) (mm) (fr_o (fr_a hf (by decide)) (by decide)) (by omega) (by omega) (by omega) (by omega : ((H1.1 1826 53) + 1) = (((cur) + (j + 1) : Nat) : Int) ∧ (cur) ≤ 4 * (z - a)) hp4 (tp_at hmd (fun x hx => (show up (H1.1 1856) ((H1.1 1826 53)).toNat ((H1.1 1887) j) x = _ from up_ne _ _ (by omega)))) (fun x hx => by show up (H1.1 1856) ((H1.1 1826 53)).toNat ((H1.1 1887) j) (cur + x) = (H.1 1887) x; rw [up_if, e_st]; by_cases e9 : x = j; { rw [if_pos (by omega), e9] }; { rw [if_neg (by omega)]; exact hcp x (by omega) }) (by omega : 100 * (a + ln - z) + (10 - (j + 1)) < w)
set_option maxRecDepth 100000 in
theorem m_putIn {zC : Nat → Option zsh} {d : Nat} (hd : 1 ≤ d) {H : hp} {c n a ln sn : Nat} {sg : Int} {ok : Int → Prop} (hc : zs zC c = some (.inr (.int, n))) (hn : n ≤ 100000) (hcm : c ≠ 1826 ∧ c ∉ [1856]) (hT : tm (ma (H.1 1833) (H.1 1830)) ok (H.1 c) ln a 1) (hl : a + ln ≤ n ∧ ln ≤ 64) (hsn : (H.1 1826 99) = sn ∧ sn ≤ 4) (hst : tm (ma (H.1 1833) (H.1 1830)) ok (H.1 1887) sn 0 1) (hsg : 1000 ≤ sg ∧ sg ≤ 3000) : hG (zs zC) d mt_248 0 (zargs 0 [.inr (.inr 1826), .inr (.inr c), .inl (a : Int), .inl (ln : Int), .inl sg]) [] H (fun r9 H2 => r9 = none ∧ fr [53] [1856] H H2 ∧ ∃ M : Nat, (H2.1 1826 53) = M ∧ M ≤ 256 ∧ tm (ma (H.1 1833) (H.1 1830)) ok (H2.1 1856) M 0 1) := by
  refine h_rng (fun hrg0 => ?_)
  refine h_run 0 (pc' := 0) (l' := [(0, .inr (.inr 1826)), (1, .inr (.inr c)), (2, .inl (a : Int)), (3, .inl (ln : Int)), (4, .inl sg)]) (st' := []) rfl ?_
  refine h_run 2 (pc' := 2) (l' := [(0, .inr (.inr 1826)), (1, .inr (.inr c)), (2, .inl (a : Int)), (3, .inl (ln : Int)), (4, .inl sg)]) (st' := [.inl 0, .inr (.inr 1826)]) rfl ?_
  refine h_puti (i := 437) (ci := 13) (k := 53) (a := 1826) (x := 0) rfl rfl rfl rfl rfl rfl (by decide) (by decide) ?_
  refine h_run 2 (pc' := 8) (l' := [(0, .inr (.inr 1826)), (1, .inr (.inr c)), (2, .inl (a : Int)), (3, .inl (ln : Int)), (4, .inl sg), (5, .inl (a : Int))]) (st' := []) rfl ?_
  exact (m_putIn_cut hd hc hn hcm hT hl hsn hst hsg _).1 _ a (0) (1) (fr_o (fr_rf _ _ _) (by decide)) (by omega) (by omega : (0 : Int) = (((0) : Nat) : Int) ∧ (0) ≤ 4 * (a - a)) (by rw [show a + ln - a = ln by omega]; exact hT) (show (1 : Nat) = 1 from rfl) (Nat.lt_succ_self _)

/-! move -/
set_option maxRecDepth 100000 in
theorem m_move_cut {zC : Nat → Option zsh} {d : Nat} (hd : 1 ≤ d) {H : hp} {ca cb na : Nat} (hca : zs zC ca = some (.inr (.int, na))) (hcb : zs zC cb = some (.inr (.int, na))) (hn : na ≤ 100000) (hne : ca ≠ cb ∧ cb ≠ 1826 ∧ cb ≠ 0) : ∀ w : Nat, (∀ (H1 : hp) (i : Nat), (H1.2 = H.2) → (∀ x, x ≠ cb → H1.1 x = H.1 x) → (i ≤ na) → (∀ x, x < i → H1.1 cb x = H.1 ca x) → na - i < w → hG (zs zC) d mt_263 2 [(0, .inr (.inr ca)), (1, .inr (.inr cb)), (2, .inl (i : Int))] [] H1 (fun r9 H2 => r9 = none ∧ H2.2 = H.2 ∧ (∀ x, x ≠ cb → H2.1 x = H.1 x) ∧ ∀ x, x < na → H2.1 cb x = H.1 ca x)) := by
  intro w
  induction w with
  | zero => exact fun _ _ _ _ _ _ h => absurd h (Nat.not_lt_zero _)
  | succ w ih =>
    intro H1 i hf1 hf hi hcp hw
    refine h_rng (fun hrg1 => ?_)
    refine h_run 2 (pc' := 4) (l' := [(0, .inr (.inr ca)), (1, .inr (.inr cb)), (2, .inl (i : Int))]) (st' := [.inr (.inr ca), .inl (i : Int)]) rfl ?_
    refine h_alen (c := ca) rfl hca ?_
    refine h_run 0 (pc' := 5) (l' := [(0, .inr (.inr ca)), (1, .inr (.inr cb)), (2, .inl (i : Int))]) (st' := [.inl (na : Int), .inl (i : Int)]) rfl ?_
    refine h_ige (off := 15) (t := 20) rfl rfl (by omega) (by omega) (fun c2 => ?_) (fun c2 => ?_)
    · refine h_ret rfl rfl ?_
      exact ⟨rfl, hf1, hf, fun x hx => hcp x (by omega)⟩
    · refine h_run 4 (pc' := 12) (l' := [(0, .inr (.inr ca)), (1, .inr (.inr cb)), (2, .inl (i : Int))]) (st' := [.inl (i : Int), .inr (.inr ca), .inl (i : Int), .inr (.inr cb)]) rfl ?_
      refine h_ild (c := ca) (j := i) (i := (i : Int)) rfl hca (by omega) rfl (by omega) ?_
      have g3 : -2147483648 ≤ (H1.1 ca i) ∧ (H1.1 ca i) ≤ 2147483647 := hrg1.2 ca i na .int hca (by omega)
      refine h_run 0 (pc' := 13) (l' := [(0, .inr (.inr ca)), (1, .inr (.inr cb)), (2, .inl (i : Int))]) (st' := [.inl (H1.1 ca i), .inl (i : Int), .inr (.inr cb)]) rfl ?_
      refine h_ist (c := cb) (j := i) (i := (i : Int)) (x := (H1.1 ca i)) rfl hcb (by omega) (by omega) rfl (by omega) (by omega) ?_
      refine h_run 2 (pc' := 2) (l' := [(0, .inr (.inr ca)), (1, .inr (.inr cb)), (2, .inl ((i : Int) + 1))]) (st' := []) rfl ?_
      rw [show ((i : Int) + 1) = (((i + 1) : Nat) : Int) by omega]
      exact ih _ (i + 1) hf1 (fun x hx => (zu_ne _ _ hx).trans (hf x hx)) (by omega) (fun x hx => by rw [zu_eq, up_if]; by_cases e9 : x = i; { rw [if_pos e9, e9, hf ca hne.1] }; { rw [if_neg e9]; exact hcp x (by omega) }) (by omega : na - (i + 1) < w)
set_option maxRecDepth 100000 in
theorem m_move {zC : Nat → Option zsh} {d : Nat} (hd : 1 ≤ d) {H : hp} {ca cb na : Nat} (hca : zs zC ca = some (.inr (.int, na))) (hcb : zs zC cb = some (.inr (.int, na))) (hn : na ≤ 100000) (hne : ca ≠ cb ∧ cb ≠ 1826 ∧ cb ≠ 0) : hG (zs zC) d mt_263 0 (zargs 0 [.inr (.inr ca), .inr (.inr cb)]) [] H (fun r9 H2 => r9 = none ∧ H2.2 = H.2 ∧ (∀ x, x ≠ cb → H2.1 x = H.1 x) ∧ ∀ x, x < na → H2.1 cb x = H.1 ca x) := by
  refine h_rng (fun hrg0 => ?_)
  refine h_run 0 (pc' := 0) (l' := [(0, .inr (.inr ca)), (1, .inr (.inr cb))]) (st' := []) rfl ?_
  refine h_run 2 (pc' := 2) (l' := [(0, .inr (.inr ca)), (1, .inr (.inr cb)), (2, .inl 0)]) (st' := []) rfl ?_
  exact (m_move_cut hd hca hcb hn hne _) _ 0 rfl (fun _ _ => rfl) (by omega) (fun x hx => absurd hx (Nat.not_lt_zero _)) (Nat.lt_succ_self _)
