/-! the reference reads texts: constructors, data, functions -/
/-! constructor -/
set_option maxRecDepth 100000 in
theorem m_constructor_cut {zC : Nat → Option zsh} {d : Nat} (hd : 5 ≤ d) {H : hp}  (h0 : 0 ≤ (H.1 1826 30) ∧ (H.1 1826 30) ≤ (H.1 1826 29) ∧ (H.1 1826 29) ≤ 1000) (hw : 0 ≤ (H.1 1826 35) ∧ (H.1 1826 35) ≤ 5) (hst : 0 ≤ (H.1 1826 32) ∧ (H.1 1826 32) ≤ 1000) (hP : PWc H) (ht : 1 ≤ (H.1 1826 1)) : ∀ w : Nat, (∀ (H1 : hp) (c : Nat), (fr [30, 31, 32, 33, 35, 36, 3] [1828, 1829, 1830, 1831] H H1) → ((H.1 1826 30) ≤ (H1.1 1826 30) ∧ (H1.1 1826 30) ≤ (H.1 1826 29)) → (0 ≤ (H1.1 1826 35) ∧ (H1.1 1826 35) ≤ 5) → (0 ≤ (H1.1 1826 32) ∧ (H1.1 1826 32) ≤ 1000) → (agp H H1) → ((H.1 1826 35) = 0) → ((c : Int) = (H.1 1826 3) ∧ (H.1 1826 3) ≤ 15) → ((H1.1 1826 3) = (H.1 1826 3) + 1) → ((H.1 1826 31) = 2) → ((H1.1 1826 35) = 0 → m_con (H1.1 1826 1) (H1.1 1826 3) (H1.1 1829) (H1.1 1830) (H1.1 1831)) → mu (H1.1 1826 35) (H1.1 1826 31) (H1.1 1826 30) (H.1 1826 29) < w → hG (zs zC) d mt_171 128 [(0, .inr (.inr 1826)), (1, .inl (c : Int))] [] H1 (fun r H2 => r = none ∧ fr [30, 31, 32, 33, 35, 36, 3] [1828, 1829, 1830, 1831] H H2 ∧ ((H.1 1826 30) ≤ (H2.1 1826 30) ∧ (H2.1 1826 30) ≤ (H.1 1826 29)) ∧ (0 ≤ (H2.1 1826 35) ∧ (H2.1 1826 35) ≤ 5) ∧ ((H.1 1826 35) ≠ 0 → (H2.1 1826 35) ≠ 0) ∧ (0 ≤ (H2.1 1826 32) ∧ (H2.1 1826 32) ≤ 1000) ∧ agp H H2 ∧ ((H2.1 1826 35) = 0 → (H.1 1826 31) = 2 ∧ PWc H2))) := by
  intro w
  induction w with
  | zero => exact fun _ _ _ _ _ _ _ _ _ _ _ _ h => absurd h (Nat.not_lt_zero _)
  | succ w ih =>
    intro H1 c hf ha hk hst1 hag hw0 hc hcn htk hm hw
    refine h_rng (fun hrg1 => ?_)
    obtain ⟨⟨pb1, pb2, pb3, pb4, pb5⟩, pw1, pw2, pw3, pw4⟩ := (id hP : PW H (H.1 1826 1) (H.1 1826 3) (H.1 1826 8) (H.1 1826 13) (H.1 1826 19))
    refine h_run 1 (pc' := 129) (l' := [(0, .inr (.inr 1826)), (1, .inl (c : Int))]) (st' := [.inr (.inr 1826)]) rfl ?_
    have g2 : -2147483648 ≤ (H1.1 1826 35) ∧ (H1.1 1826 35) ≤ 2147483647 := hrg1.1 1826 13 35 _ .int rfl rfl
    refine h_cv (i := 293) (j := 158) (b := 1826) (M' := mt_158) (xs := []) (rest := []) rfl rfl rfl rfl rfl rfl (Nat.le_of_ble_eq_true rfl) (Nat.le_of_ble_eq_true rfl) (by omega) (m_good (by omega)) ?_
    rintro _ _ ⟨⟨rfl, b3⟩ | ⟨rfl, b3⟩, rfl⟩
    · have b3x : (H1.1 1826 35) = 0 := b3
      refine h_run 0 (pc' := 132) (l' := [(0, .inr (.inr 1826)), (1, .inl (c : Int))]) (st' := [.inl 1]) rfl ?_
      refine h_zeq (off := 78) (t := 210) rfl rfl (by decide) (fun c => absurd c (by decide)) (fun _ => ?_)
      refine h_run 2 (pc' := 139) (l' := [(0, .inr (.inr 1826)), (1, .inl (c : Int))]) (st' := [.inl (H1.1 1826 31)]) rfl ?_
      have g4 : -2147483648 ≤ (H1.1 1826 31) ∧ (H1.1 1826 31) ≤ 2147483647 := hrg1.1 1826 13 31 _ .int rfl rfl
      refine h_run 1 (pc' := 140) (l' := [(0, .inr (.inr 1826)), (1, .inl (c : Int))]) (st' := [.inl 2, .inl (H1.1 1826 31)]) rfl ?_
      refine h_ine (off := 70) (t := 210) rfl rfl (by omega) (by decide) (fun c5 => ?_) (fun c5 => ?_)
      · refine h_ret rfl rfl ?_
        have g6 : -2147483648 ≤ (H1.1 1826 30) ∧ (H1.1 1826 30) ≤ 2147483647 := hrg1.1 1826 13 30 _ .int rfl rfl
        have g7 : -2147483648 ≤ (H1.1 1826 32) ∧ (H1.1 1826 32) ≤ 2147483647 := hrg1.1 1826 13 32 _ .int rfl rfl
        have g8 : -2147483648 ≤ (H1.1 1826 29) ∧ (H1.1 1826 29) ≤ 2147483647 := hrg1.1 1826 13 29 _ .int rfl rfl
        have e9 : (H1.1 1826 29) = (H.1 1826 29) := hf.2.2 29 (by decide)
        have g10 : -2147483648 ≤ (H1.1 1826 1) ∧ (H1.1 1826 1) ≤ 2147483647 := hrg1.1 1826 13 1 _ .int rfl rfl
        have e11 : (H1.1 1826 1) = (H.1 1826 1) := hf.2.2 1 (by decide)
        have g12 : -2147483648 ≤ (H1.1 1826 3) ∧ (H1.1 1826 3) ≤ 2147483647 := hrg1.1 1826 13 3 _ .int rfl rfl
        have g13 : -2147483648 ≤ (H1.1 1826 8) ∧ (H1.1 1826 8) ≤ 2147483647 := hrg1.1 1826 13 8 _ .int rfl rfl
        have e14 : (H1.1 1826 8) = (H.1 1826 8) := hf.2.2 8 (by decide)
        have g15 : -2147483648 ≤ (H1.1 1826 13) ∧ (H1.1 1826 13) ≤ 2147483647 := hrg1.1 1826 13 13 _ .int rfl rfl
        have e16 : (H1.1 1826 13) = (H.1 1826 13) := hf.2.2 13 (by decide)
        have g17 : -2147483648 ≤ (H1.1 1826 19) ∧ (H1.1 1826 19) ≤ 2147483647 := hrg1.1 1826 13 19 _ .int rfl rfl
        have e18 : (H1.1 1826 19) = (H.1 1826 19) := hf.2.2 19 (by decide)
        exact ⟨rfl, hf, (by omega : (H.1 1826 30) ≤ (H1.1 1826 30) ∧ (H1.1 1826 30) ≤ (H.1 1826 29)), (by omega : 0 ≤ (H1.1 1826 35) ∧ (H1.1 1826 35) ≤ 5), (by omega : (H.1 1826 35) ≠ 0 → (H1.1 1826 35) ≠ 0), (by omega : 0 ≤ (H1.1 1826 32) ∧ (H1.1 1826 32) ≤ 1000), hag, (fun q => ⟨htk, PW_more hP hag ⟨(by omega : (H1.1 1826 1) ≤ 6), (by omega : (H1.1 1826 3) ≤ 16), (by omega : (H1.1 1826 8) ≤ 16)⟩ (hm q) (m_fun_agp pw2 hag (by omega)) (by omega : (H1.1 1826 13) = (H.1 1826 13)) (by omega : (H1.1 1826 19) = (H.1 1826 19))⟩)⟩
      · refine h_run 1 (pc' := 144) (l' := [(0, .inr (.inr 1826)), (1, .inl (c : Int))]) (st' := [.inr (.inr 1826)]) rfl ?_
        have g19 : -2147483648 ≤ (H1.1 1826 1) ∧ (H1.1 1826 1) ≤ 2147483647 := hrg1.1 1826 13 1 _ .int rfl rfl
        have e20 : (H1.1 1826 1) = (H.1 1826 1) := hf.2.2 1 (by decide)
        refine h_cv (i := 322) (j := 172) (b := 1826) (M' := mt_172) (xs := []) (rest := []) rfl rfl rfl rfl rfl rfl (Nat.le_of_ble_eq_true rfl) (Nat.le_of_ble_eq_true rfl) (by omega) (m_type (by omega) (by omega : 0 ≤ (H1.1 1826 35) ∧ (H1.1 1826 35) ≤ 5) (by omega : 0 ≤ (H1.1 1826 1) ∧ (H1.1 1826 1) ≤ 6)) ?_
        rintro _ H21 ⟨ht21t, rfl, ht21f, ht21b, -, ht21g, ht21e⟩
        refine h_rng (fun hrg22 => ?_)
        have hf23 : fr [30, 31, 32, 33, 35, 36, 3] [1828, 1829, 1830, 1831] H H21 := fr_t hf ht21f (by decide) (by decide)
        have ha24 : agp H H21 := agp_tr hag (agp_fr ht21f (by decide) (by decide))
        replace ht21g : (H21.1 1826 35) = 0 → (H1.1 1826 35) = 0 ∧ (H1.1 1826 31) = 2 ∧ 0 ≤ ht21t ∧ ht21t < (H1.1 1826 1) := ht21g
        refine h_run 0 (pc' := 147) (l' := [(0, .inr (.inr 1826)), (1, .inl (c : Int))]) (st' := [.inl ht21t]) rfl ?_
        refine h_run 2 (pc' := 149) (l' := [(0, .inr (.inr 1826)), (1, .inl (c : Int)), (2, .inl ht21t)]) (st' := [.inr (.inr 1826)]) rfl ?_
        have g25 : -2147483648 ≤ (H21.1 1826 35) ∧ (H21.1 1826 35) ≤ 2147483647 := hrg22.1 1826 13 35 _ .int rfl rfl
        refine h_cv (i := 293) (j := 158) (b := 1826) (M' := mt_158) (xs := []) (rest := []) rfl rfl rfl rfl rfl rfl (Nat.le_of_ble_eq_true rfl) (Nat.le_of_ble_eq_true rfl) (by omega) (m_good (by omega)) ?_
        rintro _ _ ⟨⟨rfl, b26⟩ | ⟨rfl, b26⟩, rfl⟩
        · have b26x : (H21.1 1826 35) = 0 := b26
          replace ht21g := ht21g b26x
          refine h_run 0 (pc' := 152) (l' := [(0, .inr (.inr 1826)), (1, .inl (c : Int)), (2, .inl ht21t)]) (st' := [.inl 1]) rfl ?_
          refine h_zeq (off := 18) (t := 170) rfl rfl (by decide) (fun c => absurd c (by decide)) (fun _ => ?_)
          obtain ⟨hc1, hc2, hc3⟩ := (hm (by omega)) c (by omega)
          refine h_run 3 (pc' := 160) (l' := [(0, .inr (.inr 1826)), (1, .inl (c : Int)), (2, .inl ht21t)]) (st' := [.inl (c : Int), .inr (.inr 1830)]) rfl ?_
          refine h_ild (c := 1830) (j := c) (i := (c : Int)) rfl rfl (by decide) rfl (by omega) ?_
          have g27 : -2147483648 ≤ (H21.1 1830 c) ∧ (H21.1 1830 c) ≤ 2147483647 := hrg22.2 1830 c 16 .int rfl (by omega)
          have e28 : (H21.1 1830 c) = (H1.1 1830 c) := congrFun (ht21f.2.1 1830 (by decide) (by decide)) c
          refine h_run 0 (pc' := 161) (l' := [(0, .inr (.inr 1826)), (1, .inl (c : Int)), (2, .inl ht21t)]) (st' := [.inl (H21.1 1830 c)]) rfl ?_
          refine h_run 1 (pc' := 162) (l' := [(0, .inr (.inr 1826)), (1, .inl (c : Int)), (2, .inl ht21t)]) (st' := [.inl 3, .inl (H21.1 1830 c)]) rfl ?_
          refine h_ine (off := 8) (t := 170) rfl rfl (by omega) (by decide) (fun c29 => ?_) (fun c29 => ?_)
          · refine h_run 1 (pc' := 171) (l' := [(0, .inr (.inr 1826)), (1, .inl (c : Int)), (2, .inl ht21t)]) (st' := [.inr (.inr 1826)]) rfl ?_
            refine h_cv (i := 293) (j := 158) (b := 1826) (M' := mt_158) (xs := []) (rest := []) rfl rfl rfl rfl rfl rfl (Nat.le_of_ble_eq_true rfl) (Nat.le_of_ble_eq_true rfl) (by omega) (m_good1 (by omega) (by omega : (H21.1 1826 35) = 0)) ?_
            rintro _ _ ⟨rfl, rfl⟩
            refine h_run 0 (pc' := 174) (l' := [(0, .inr (.inr 1826)), (1, .inl (c : Int)), (2, .inl ht21t)]) (st' := [.inl 1]) rfl ?_
            refine h_zeq (off := 33) (t := 207) rfl rfl (by decide) (fun c => absurd c (by decide)) (fun _ => ?_)
            refine h_run 8 (pc' := 189) (l' := [(0, .inr (.inr 1826)), (1, .inl (c : Int)), (2, .inl ht21t)]) (st' := [.inl (c : Int), .inr (.inr 1830), .inl (3 * (c : Int)), .inr (.inr 1831)]) rfl ?_
            refine h_ild (c := 1830) (j := c) (i := (c : Int)) rfl rfl (by decide) rfl (by omega) ?_
            refine h_run 0 (pc' := 190) (l' := [(0, .inr (.inr 1826)), (1, .inl (c : Int)), (2, .inl ht21t)]) (st' := [.inl (H21.1 1830 c), .inl (3 * (c : Int)), .inr (.inr 1831)]) rfl ?_
            refine h_run 2 (pc' := 192) (l' := [(0, .inr (.inr 1826)), (1, .inl (c : Int)), (2, .inl ht21t)]) (st' := [.inl ht21t, .inl ((3 * (c : Int)) + (H21.1 1830 c)), .inr (.inr 1831)]) rfl ?_
            refine h_ist (c := 1831) (j := (((3 * (c : Int)) + (H21.1 1830 c))).toNat) (i := ((3 * (c : Int)) + (H21.1 1830 c))) (x := ht21t) rfl rfl (by decide) (by decide) (by omega) (by omega) (by omega) ?_
            refine h_run 4 (pc' := 199) (l' := [(0, .inr (.inr 1826)), (1, .inl (c : Int)), (2, .inl ht21t)]) (st' := [.inl (c : Int), .inr (.inr 1830), .inl (c : Int), .inr (.inr 1830)]) rfl ?_
            refine h_ild (c := 1830) (j := c) (i := (c : Int)) rfl rfl (by decide) rfl (by omega) ?_
            refine h_run 0 (pc' := 200) (l' := [(0, .inr (.inr 1826)), (1, .inl (c : Int)), (2, .inl ht21t)]) (st' := [.inl (H21.1 1830 c), .inl (c : Int), .inr (.inr 1830)]) rfl ?_
            refine h_run 2 (pc' := 202) (l' := [(0, .inr (.inr 1826)), (1, .inl (c : Int)), (2, .inl ht21t)]) (st' := [.inl ((H21.1 1830 c) + 1), .inl (c : Int), .inr (.inr 1830)]) rfl ?_
            refine h_ist (c := 1830) (j := c) (i := (c : Int)) (x := ((H21.1 1830 c) + 1)) rfl rfl (by decide) (by decide) rfl (by omega) (by omega) ?_
            refine h_run 1 (pc' := 204) (l' := [(0, .inr (.inr 1826)), (1, .inl (c : Int)), (2, .inl ht21t)]) (st' := [.inr (.inr 1826)]) rfl ?_
            have g30 : -2147483648 ≤ (H21.1 1826 30) ∧ (H21.1 1826 30) ≤ 2147483647 := hrg22.1 1826 13 30 _ .int rfl rfl
            have e31 : (H21.1 1826 30) = (H1.1 1826 30) := ht21f.2.2 30 (by decide)
            have g32 : -2147483648 ≤ (H21.1 1826 29) ∧ (H21.1 1826 29) ≤ 2147483647 := hrg22.1 1826 13 29 _ .int rfl rfl
            have e33 : (H21.1 1826 29) = (H1.1 1826 29) := ht21f.2.2 29 (by decide)
            have e34 : (H1.1 1826 29) = (H.1 1826 29) := hf.2.2 29 (by decide)
            have g35 : -2147483648 ≤ (H21.1 1826 32) ∧ (H21.1 1826 32) ≤ 2147483647 := hrg22.1 1826 13 32 _ .int rfl rfl
            have e36 : (H21.1 1826 32) = (H1.1 1826 32) := ht21f.2.2 32 (by decide)
            refine h_cv (i := 297) (j := 165) (b := 1826) (M' := mt_165) (xs := []) (rest := []) rfl rfl rfl rfl rfl rfl (Nat.le_of_ble_eq_true rfl) (Nat.le_of_ble_eq_true rfl) (by omega) (m_next (by omega) (by omega : 0 ≤ (H21.1 1826 30) ∧ (H21.1 1826 30) ≤ (H21.1 1826 29) ∧ (H21.1 1826 29) ≤ 1000) (by omega : 0 ≤ (H21.1 1826 35) ∧ (H21.1 1826 35) ≤ 5) (by omega : 0 ≤ (H21.1 1826 32) ∧ (H21.1 1826 32) ≤ 1000)) ?_
            rintro _ H37 ⟨rfl, hx37f, hx37a, hx37b, hx37c, -, hx37e, hx37g⟩
            refine h_rng (fun hrg38 => ?_)
            have hf39 : fr [30, 31, 32, 33, 35, 36, 3] [1828, 1829, 1830, 1831] H H37 := fr_t (fr_a (fr_a hf23 (by decide)) (by decide)) hx37f (by decide) (by decide)
            have ha40 : agp H H37 := agp_tr (agp_1830 (agp_1831 ha24 (by omega : 3 * (H.1 1826 3) ≤ (((((3 * (c : Int)) + (H21.1 1830 c))).toNat : Nat) : Int))) (by omega : (H.1 1826 3) ≤ ((c : Nat) : Int))) (agp_fr hx37f (by decide) (by decide))
            replace hx37a : (H21.1 1826 30) ≤ (H37.1 1826 30) := hx37a
            replace hx37b : (H37.1 1826 30) ≤ (H21.1 1826 29) := hx37b
            replace hx37g : (H37.1 1826 35) = 0 → ((H37.1 1826 31) = 0 ∨ (H21.1 1826 30) < (H37.1 1826 30)) := hx37g
            refine h_run 0 (pc' := 207) (l' := [(0, .inr (.inr 1826)), (1, .inl (c : Int)), (2, .inl ht21t)]) (st' := []) rfl ?_
            refine h_run 1 (pc' := 128) (l' := [(0, .inr (.inr 1826)), (1, .inl (c : Int)), (2, .inl ht21t)]) (st' := []) rfl ?_
            have g41 : -2147483648 ≤ (H37.1 1826 30) ∧ (H37.1 1826 30) ≤ 2147483647 := hrg38.1 1826 13 30 _ .int rfl rfl
            have g42 : -2147483648 ≤ (H37.1 1826 35) ∧ (H37.1 1826 35) ≤ 2147483647 := hrg38.1 1826 13 35 _ .int rfl rfl
            have g43 : -2147483648 ≤ (H37.1 1826 32) ∧ (H37.1 1826 32) ≤ 2147483647 := hrg38.1 1826 13 32 _ .int rfl rfl
            have g44 : -2147483648 ≤ (H37.1 1826 31) ∧ (H37.1 1826 31) ≤ 2147483647 := hrg38.1 1826 13 31 _ .int rfl rfl
            have g45 : -2147483648 ≤ (H37.1 1826 3) ∧ (H37.1 1826 3) ≤ 2147483647 := hrg38.1 1826 13 3 _ .int rfl rfl
            have e46 : (H37.1 1826 3) = (H21.1 1826 3) := hx37f.2.2 3 (by decide)
            have e47 : (H21.1 1826 3) = (H1.1 1826 3) := ht21f.2.2 3 (by decide)
            have g48 : -2147483648 ≤ (H37.1 1826 29) ∧ (H37.1 1826 29) ≤ 2147483647 := hrg38.1 1826 13 29 _ .int rfl rfl
            have e49 : (H37.1 1826 29) = (H21.1 1826 29) := hx37f.2.2 29 (by decide)
            have g50 : -2147483648 ≤ (H37.1 1826 1) ∧ (H37.1 1826 1) ≤ 2147483647 := hrg38.1 1826 13 1 _ .int rfl rfl
            have e51 : (H37.1 1826 1) = (H21.1 1826 1) := hx37f.2.2 1 (by decide)
            have e52 : (H21.1 1826 1) = (H1.1 1826 1) := ht21f.2.2 1 (by decide)
            refine h_loc [0, 1] rfl ?_
            exact ih _ c hf39 (by omega : (H.1 1826 30) ≤ (H37.1 1826 30) ∧ (H37.1 1826 30) ≤ (H.1 1826 29)) (by omega : 0 ≤ (H37.1 1826 35) ∧ (H37.1 1826 35) ≤ 5) (by omega : 0 ≤ (H37.1 1826 32) ∧ (H37.1 1826 32) ≤ 1000) ha40 (by omega) (by omega : (c : Int) = (H.1 1826 3) ∧ (H.1 1826 3) ≤ 15) (by omega : (H37.1 1826 3) = (H.1 1826 3) + 1) (by omega) (fun q => by rw [show (H37.1 1829) = (H21.1 1829) from hx37f.2.1 1829 (by decide) (by decide), show (H37.1 1830) = up (H21.1 1830) c ((H21.1 1830) c + 1) from hx37f.2.1 1830 (by decide) (by decide), show (H37.1 1831) = up (H21.1 1831) (((3 * (c : Int)) + (H21.1 1830 c))).toNat ht21t from hx37f.2.1 1831 (by decide) (by decide), show (H37.1 1826 1) = (H1.1 1826 1) from (by omega), show (H37.1 1826 3) = (H1.1 1826 3) from (by omega)]; exact m_con_arg (by rw [show (H21.1 1829) = (H1.1 1829) from ht21f.2.1 1829 (by decide) (by decide), show (H21.1 1830) = (H1.1 1830) from ht21f.2.1 1830 (by decide) (by decide), show (H21.1 1831) = (H1.1 1831) from ht21f.2.1 1831 (by decide) (by decide)]; exact hm (by omega)) (by omega) rfl (by omega) (by omega) (by omega)) (mu_lt hw (by omega) (by omega : (H37.1 1826 35) ≠ 0 ∨ ((H1.1 1826 30) ≤ (H37.1 1826 30) ∧ (H37.1 1826 30) ≤ (H.1 1826 29) ∧ (((H37.1 1826 31) = 0 ∧ (H1.1 1826 31) ≠ 0) ∨ (H1.1 1826 30) < (H37.1 1826 30)))))
          · refine h_run 2 (pc' := 167) (l' := [(0, .inr (.inr 1826)), (1, .inl (c : Int)), (2, .inl ht21t)]) (st' := [.inl 5, .inr (.inr 1826)]) rfl ?_
            refine h_cv (i := 278) (j := 159) (b := 1826) (M' := mt_159) (xs := [.inl 5]) (rest := []) rfl rfl rfl rfl rfl rfl (Nat.le_of_ble_eq_true rfl) (Nat.le_of_ble_eq_true rfl) (by omega) (m_bad0 (by omega) (by omega) (by omega : (H21.1 1826 35) = 0)) ?_
            rintro _ _ ⟨rfl, rfl⟩
            refine h_run 0 (pc' := 170) (l' := [(0, .inr (.inr 1826)), (1, .inl (c : Int)), (2, .inl ht21t)]) (st' := []) rfl ?_
            refine h_run 1 (pc' := 171) (l' := [(0, .inr (.inr 1826)), (1, .inl (c : Int)), (2, .inl ht21t)]) (st' := [.inr (.inr 1826)]) rfl ?_
            refine h_cv (i := 293) (j := 158) (b := 1826) (M' := mt_158) (xs := []) (rest := []) rfl rfl rfl rfl rfl rfl (Nat.le_of_ble_eq_true rfl) (Nat.le_of_ble_eq_true rfl) (by omega) (m_good0 (by omega) (by omega : (5 : Int) ≠ 0)) ?_
            rintro _ _ ⟨rfl, rfl⟩
            refine h_run 0 (pc' := 174) (l' := [(0, .inr (.inr 1826)), (1, .inl (c : Int)), (2, .inl ht21t)]) (st' := [.inl 0]) rfl ?_
            refine h_zeq (off := 33) (t := 207) rfl rfl (by decide) (fun _ => ?_) (fun c => absurd c (by decide))
            refine h_run 1 (pc' := 128) (l' := [(0, .inr (.inr 1826)), (1, .inl (c : Int)), (2, .inl ht21t)]) (st' := []) rfl ?_
            have g53 : -2147483648 ≤ (H21.1 1826 30) ∧ (H21.1 1826 30) ≤ 2147483647 := hrg22.1 1826 13 30 _ .int rfl rfl
            have e54 : (H21.1 1826 30) = (H1.1 1826 30) := ht21f.2.2 30 (by decide)
            have g55 : -2147483648 ≤ (H21.1 1826 32) ∧ (H21.1 1826 32) ≤ 2147483647 := hrg22.1 1826 13 32 _ .int rfl rfl
            have e56 : (H21.1 1826 32) = (H1.1 1826 32) := ht21f.2.2 32 (by decide)
            have g57 : -2147483648 ≤ (H21.1 1826 31) ∧ (H21.1 1826 31) ≤ 2147483647 := hrg22.1 1826 13 31 _ .int rfl rfl
            have e58 : (H21.1 1826 31) = (H1.1 1826 31) := ht21f.2.2 31 (by decide)
            have g59 : -2147483648 ≤ (H21.1 1826 3) ∧ (H21.1 1826 3) ≤ 2147483647 := hrg22.1 1826 13 3 _ .int rfl rfl
            have e60 : (H21.1 1826 3) = (H1.1 1826 3) := ht21f.2.2 3 (by decide)
            have g61 : -2147483648 ≤ (H21.1 1826 29) ∧ (H21.1 1826 29) ≤ 2147483647 := hrg22.1 1826 13 29 _ .int rfl rfl
            have e62 : (H21.1 1826 29) = (H1.1 1826 29) := ht21f.2.2 29 (by decide)
            have e63 : (H1.1 1826 29) = (H.1 1826 29) := hf.2.2 29 (by decide)
            have g64 : -2147483648 ≤ (H21.1 1826 1) ∧ (H21.1 1826 1) ≤ 2147483647 := hrg22.1 1826 13 1 _ .int rfl rfl
            have e65 : (H21.1 1826 1) = (H1.1 1826 1) := ht21f.2.2 1 (by decide)
            refine h_loc [0, 1] rfl ?_
            exact ih _ c (fr_o (fr_o hf23 (by decide)) (by decide)) (by omega : (H.1 1826 30) ≤ (H21.1 1826 30) ∧ (H21.1 1826 30) ≤ (H.1 1826 29)) (by omega : 0 ≤ (5 : Int) ∧ (5 : Int) ≤ 5) (by omega : 0 ≤ (H21.1 1826 32) ∧ (H21.1 1826 32) ≤ 1000) (agp_o (agp_o ha24 (by decide)) (by decide)) (by omega) (by omega : (c : Int) = (H.1 1826 3) ∧ (H.1 1826 3) ≤ 15) (by omega : (H21.1 1826 3) = (H.1 1826 3) + 1) (by omega) (fun (q : (5 : Int) = 0) => absurd q (by omega)) (mu_lt hw (by omega) (by omega : (5 : Int) ≠ 0 ∨ ((H1.1 1826 30) ≤ (H21.1 1826 30) ∧ (H21.1 1826 30) ≤ (H.1 1826 29) ∧ (((H21.1 1826 31) = 0 ∧ (H1.1 1826 31) ≠ 0) ∨ (H1.1 1826 30) < (H21.1 1826 30)))))
        · have b26x : (H21.1 1826 35) ≠ 0 := b26
          clear ht21g
          refine h_run 0 (pc' := 152) (l' := [(0, .inr (.inr 1826)), (1, .inl (c : Int)), (2, .inl ht21t)]) (st' := [.inl 0]) rfl ?_
          refine h_zeq (off := 18) (t := 170) rfl rfl (by decide) (fun _ => ?_) (fun c => absurd c (by decide))
          refine h_run 1 (pc' := 171) (l' := [(0, .inr (.inr 1826)), (1, .inl (c : Int)), (2, .inl ht21t)]) (st' := [.inr (.inr 1826)]) rfl ?_
          refine h_cv (i := 293) (j := 158) (b := 1826) (M' := mt_158) (xs := []) (rest := []) rfl rfl rfl rfl rfl rfl (Nat.le_of_ble_eq_true rfl) (Nat.le_of_ble_eq_true rfl) (by omega) (m_good0 (by omega) (by omega : (H21.1 1826 35) ≠ 0)) ?_
          rintro _ _ ⟨rfl, rfl⟩
          refine h_run 0 (pc' := 174) (l' := [(0, .inr (.inr 1826)), (1, .inl (c : Int)), (2, .inl ht21t)]) (st' := [.inl 0]) rfl ?_
          refine h_zeq (off := 33) (t := 207) rfl rfl (by decide) (fun _ => ?_) (fun c => absurd c (by decide))
          refine h_run 1 (pc' := 128) (l' := [(0, .inr (.inr 1826)), (1, .inl (c : Int)), (2, .inl ht21t)]) (st' := []) rfl ?_
          have g66 : -2147483648 ≤ (H21.1 1826 30) ∧ (H21.1 1826 30) ≤ 2147483647 := hrg22.1 1826 13 30 _ .int rfl rfl
          have e67 : (H21.1 1826 30) = (H1.1 1826 30) := ht21f.2.2 30 (by decide)
          have g68 : -2147483648 ≤ (H21.1 1826 32) ∧ (H21.1 1826 32) ≤ 2147483647 := hrg22.1 1826 13 32 _ .int rfl rfl
          have e69 : (H21.1 1826 32) = (H1.1 1826 32) := ht21f.2.2 32 (by decide)
          have g70 : -2147483648 ≤ (H21.1 1826 31) ∧ (H21.1 1826 31) ≤ 2147483647 := hrg22.1 1826 13 31 _ .int rfl rfl
          have e71 : (H21.1 1826 31) = (H1.1 1826 31) := ht21f.2.2 31 (by decide)
          have g72 : -2147483648 ≤ (H21.1 1826 3) ∧ (H21.1 1826 3) ≤ 2147483647 := hrg22.1 1826 13 3 _ .int rfl rfl
          have e73 : (H21.1 1826 3) = (H1.1 1826 3) := ht21f.2.2 3 (by decide)
          have g74 : -2147483648 ≤ (H21.1 1826 29) ∧ (H21.1 1826 29) ≤ 2147483647 := hrg22.1 1826 13 29 _ .int rfl rfl
          have e75 : (H21.1 1826 29) = (H1.1 1826 29) := ht21f.2.2 29 (by decide)
          have e76 : (H1.1 1826 29) = (H.1 1826 29) := hf.2.2 29 (by decide)
          have g77 : -2147483648 ≤ (H21.1 1826 1) ∧ (H21.1 1826 1) ≤ 2147483647 := hrg22.1 1826 13 1 _ .int rfl rfl
          have e78 : (H21.1 1826 1) = (H1.1 1826 1) := ht21f.2.2 1 (by decide)
          refine h_loc [0, 1] rfl ?_
          exact ih _ c hf23 (by omega : (H.1 1826 30) ≤ (H21.1 1826 30) ∧ (H21.1 1826 30) ≤ (H.1 1826 29)) (by omega : 0 ≤ (H21.1 1826 35) ∧ (H21.1 1826 35) ≤ 5) (by omega : 0 ≤ (H21.1 1826 32) ∧ (H21.1 1826 32) ≤ 1000) ha24 (by omega) (by omega : (c : Int) = (H.1 1826 3) ∧ (H.1 1826 3) ≤ 15) (by omega : (H21.1 1826 3) = (H.1 1826 3) + 1) (by omega) (fun (q : (H21.1 1826 35) = 0) => absurd q (by omega)) (mu_lt hw (by omega) (by omega : (H21.1 1826 35) ≠ 0 ∨ ((H1.1 1826 30) ≤ (H21.1 1826 30) ∧ (H21.1 1826 30) ≤ (H.1 1826 29) ∧ (((H21.1 1826 31) = 0 ∧ (H1.1 1826 31) ≠ 0) ∨ (H1.1 1826 30) < (H21.1 1826 30)))))
    · have b3x : (H1.1 1826 35) ≠ 0 := b3
      refine h_run 0 (pc' := 132) (l' := [(0, .inr (.inr 1826)), (1, .inl (c : Int))]) (st' := [.inl 0]) rfl ?_
      refine h_zeq (off := 78) (t := 210) rfl rfl (by decide) (fun _ => ?_) (fun c => absurd c (by decide))
      refine h_ret rfl rfl ?_
      have g79 : -2147483648 ≤ (H1.1 1826 30) ∧ (H1.1 1826 30) ≤ 2147483647 := hrg1.1 1826 13 30 _ .int rfl rfl
      have g80 : -2147483648 ≤ (H1.1 1826 32) ∧ (H1.1 1826 32) ≤ 2147483647 := hrg1.1 1826 13 32 _ .int rfl rfl
      have g81 : -2147483648 ≤ (H1.1 1826 29) ∧ (H1.1 1826 29) ≤ 2147483647 := hrg1.1 1826 13 29 _ .int rfl rfl
      have e82 : (H1.1 1826 29) = (H.1 1826 29) := hf.2.2 29 (by decide)
      have g83 : -2147483648 ≤ (H1.1 1826 1) ∧ (H1.1 1826 1) ≤ 2147483647 := hrg1.1 1826 13 1 _ .int rfl rfl
      have e84 : (H1.1 1826 1) = (H.1 1826 1) := hf.2.2 1 (by decide)
      have g85 : -2147483648 ≤ (H1.1 1826 3) ∧ (H1.1 1826 3) ≤ 2147483647 := hrg1.1 1826 13 3 _ .int rfl rfl
      have g86 : -2147483648 ≤ (H1.1 1826 8) ∧ (H1.1 1826 8) ≤ 2147483647 := hrg1.1 1826 13 8 _ .int rfl rfl
      have e87 : (H1.1 1826 8) = (H.1 1826 8) := hf.2.2 8 (by decide)
      have g88 : -2147483648 ≤ (H1.1 1826 13) ∧ (H1.1 1826 13) ≤ 2147483647 := hrg1.1 1826 13 13 _ .int rfl rfl
      have e89 : (H1.1 1826 13) = (H.1 1826 13) := hf.2.2 13 (by decide)
      have g90 : -2147483648 ≤ (H1.1 1826 19) ∧ (H1.1 1826 19) ≤ 2147483647 := hrg1.1 1826 13 19 _ .int rfl rfl
      have e91 : (H1.1 1826 19) = (H.1 1826 19) := hf.2.2 19 (by decide)
      exact ⟨rfl, hf, (by omega : (H.1 1826 30) ≤ (H1.1 1826 30) ∧ (H1.1 1826 30) ≤ (H.1 1826 29)), (by omega : 0 ≤ (H1.1 1826 35) ∧ (H1.1 1826 35) ≤ 5), (by omega : (H.1 1826 35) ≠ 0 → (H1.1 1826 35) ≠ 0), (by omega : 0 ≤ (H1.1 1826 32) ∧ (H1.1 1826 32) ≤ 1000), hag, (fun q => ⟨htk, PW_more hP hag ⟨(by omega : (H1.1 1826 1) ≤ 6), (by omega : (H1.1 1826 3) ≤ 16), (by omega : (H1.1 1826 8) ≤ 16)⟩ (hm q) (m_fun_agp pw2 hag (by omega)) (by omega : (H1.1 1826 13) = (H.1 1826 13)) (by omega : (H1.1 1826 19) = (H.1 1826 19))⟩)⟩
set_option maxRecDepth 100000 in
theorem m_constructor {zC : Nat → Option zsh} {d : Nat} (hd : 5 ≤ d) {H : hp}  (h0 : 0 ≤ (H.1 1826 30) ∧ (H.1 1826 30) ≤ (H.1 1826 29) ∧ (H.1 1826 29) ≤ 1000) (hw : 0 ≤ (H.1 1826 35) ∧ (H.1 1826 35) ≤ 5) (hst : 0 ≤ (H.1 1826 32) ∧ (H.1 1826 32) ≤ 1000) (hP : PWc H) (ht : 1 ≤ (H.1 1826 1)) : hG (zs zC) d mt_171 0 (zargs 0 [.inr (.inr 1826)]) [] H (fun r H2 => r = none ∧ fr [30, 31, 32, 33, 35, 36, 3] [1828, 1829, 1830, 1831] H H2 ∧ ((H.1 1826 30) ≤ (H2.1 1826 30) ∧ (H2.1 1826 30) ≤ (H.1 1826 29)) ∧ (0 ≤ (H2.1 1826 35) ∧ (H2.1 1826 35) ≤ 5) ∧ ((H.1 1826 35) ≠ 0 → (H2.1 1826 35) ≠ 0) ∧ (0 ≤ (H2.1 1826 32) ∧ (H2.1 1826 32) ≤ 1000) ∧ agp H H2 ∧ ((H2.1 1826 35) = 0 → (H.1 1826 31) = 2 ∧ PWc H2)) := by
  refine h_rng (fun hrg0 => ?_)
  refine h_run 0 (pc' := 0) (l' := [(0, .inr (.inr 1826))]) (st' := []) rfl ?_
  obtain ⟨⟨pb1, pb2, pb3, pb4, pb5⟩, pw1, pw2, pw3, pw4⟩ := (id hP : PW H (H.1 1826 1) (H.1 1826 3) (H.1 1826 8) (H.1 1826 13) (H.1 1826 19))
  refine h_run 1 (pc' := 1) (l' := [(0, .inr (.inr 1826))]) (st' := [.inr (.inr 1826)]) rfl ?_
  have g92 : -2147483648 ≤ (H.1 1826 35) ∧ (H.1 1826 35) ≤ 2147483647 := hrg0.1 1826 13 35 _ .int rfl rfl
  refine h_cv (i := 293) (j := 158) (b := 1826) (M' := mt_158) (xs := []) (rest := []) rfl rfl rfl rfl rfl rfl (Nat.le_of_ble_eq_true rfl) (Nat.le_of_ble_eq_true rfl) (by omega) (m_good (by omega)) ?_
  rintro _ _ ⟨⟨rfl, b93⟩ | ⟨rfl, b93⟩, rfl⟩
  · have b93x : (H.1 1826 35) = 0 := b93
    refine h_run 0 (pc' := 4) (l' := [(0, .inr (.inr 1826))]) (st' := [.inl 1]) rfl ?_
    refine h_zeq (off := 16) (t := 20) rfl rfl (by decide) (fun c => absurd c (by decide)) (fun _ => ?_)
    refine h_run 2 (pc' := 11) (l' := [(0, .inr (.inr 1826))]) (st' := [.inl (H.1 1826 31)]) rfl ?_
    have g94 : -2147483648 ≤ (H.1 1826 31) ∧ (H.1 1826 31) ≤ 2147483647 := hrg0.1 1826 13 31 _ .int rfl rfl
    refine h_run 1 (pc' := 12) (l' := [(0, .inr (.inr 1826))]) (st' := [.inl 2, .inl (H.1 1826 31)]) rfl ?_
    refine h_ieq (off := 8) (t := 20) rfl rfl (by omega) (by decide) (fun c95 => ?_) (fun c95 => ?_)
    · refine h_run 1 (pc' := 21) (l' := [(0, .inr (.inr 1826))]) (st' := [.inr (.inr 1826)]) rfl ?_
      refine h_cv (i := 293) (j := 158) (b := 1826) (M' := mt_158) (xs := []) (rest := []) rfl rfl rfl rfl rfl rfl (Nat.le_of_ble_eq_true rfl) (Nat.le_of_ble_eq_true rfl) (by omega) (m_good1 (by omega) (by omega : (H.1 1826 35) = 0)) ?_
      rintro _ _ ⟨rfl, rfl⟩
      refine h_run 0 (pc' := 24) (l' := [(0, .inr (.inr 1826))]) (st' := [.inl 1]) rfl ?_
      refine h_zeq (off := 27) (t := 51) rfl rfl (by decide) (fun c => absurd c (by decide)) (fun _ => ?_)
      refine h_run 4 (pc' := 35) (l' := [(0, .inr (.inr 1826))]) (st' := [.inl (H.1 1826 3), .inr (.inr 1828)]) rfl ?_
      have g96 : -2147483648 ≤ (H.1 1826 3) ∧ (H.1 1826 3) ≤ 2147483647 := hrg0.1 1826 13 3 _ .int rfl rfl
      refine h_run 2 (pc' := 39) (l' := [(0, .inr (.inr 1826))]) (st' := [.inr (.inl (H.1 1826 33)), .inl (H.1 1826 3), .inr (.inr 1828)]) rfl ?_
      have g97 : -9223372036854775808 ≤ (H.1 1826 33) ∧ (H.1 1826 33) ≤ 9223372036854775807 := hrg0.1 1826 13 33 _ .long rfl rfl
      refine h_cs (i := 309) (j := 167) (M' := mt_167) (xs := [.inr (.inl (H.1 1826 33)), .inl (H.1 1826 3), .inr (.inr 1828)]) (rest := []) rfl rfl rfl rfl rfl (Nat.le_of_ble_eq_true rfl) (Nat.le_of_ble_eq_true rfl) (by omega) (m_find (by omega) (m := 16) rfl (by omega : 0 ≤ (H.1 1826 3) ∧ (H.1 1826 3) ≤ ((16 : Nat) : Int) ∧ 16 ≤ 100) (by omega)) ?_
      rintro _ _ ⟨⟨k98, rfl, f99, f99x⟩ | ⟨rfl, f99⟩, rfl⟩
      · refine h_run 0 (pc' := 42) (l' := [(0, .inr (.inr 1826))]) (st' := [.inl (k98 : Int)]) rfl ?_
        refine h_run 1 (pc' := 43) (l' := [(0, .inr (.inr 1826))]) (st' := [.inl (-1), .inl (k98 : Int)]) rfl ?_
        refine h_ieq (off := 8) (t := 51) rfl rfl (by omega) (by decide) (fun c100 => ?_) (fun c100 => ?_)
        · refine h_run 1 (pc' := 52) (l' := [(0, .inr (.inr 1826))]) (st' := [.inr (.inr 1826)]) rfl ?_
          refine h_cv (i := 293) (j := 158) (b := 1826) (M' := mt_158) (xs := []) (rest := []) rfl rfl rfl rfl rfl rfl (Nat.le_of_ble_eq_true rfl) (Nat.le_of_ble_eq_true rfl) (by omega) (m_good1 (by omega) (by omega : (H.1 1826 35) = 0)) ?_
          rintro _ _ ⟨rfl, rfl⟩
          refine h_run 0 (pc' := 55) (l' := [(0, .inr (.inr 1826))]) (st' := [.inl 1]) rfl ?_
          refine h_zeq (off := 17) (t := 72) rfl rfl (by decide) (fun c => absurd c (by decide)) (fun _ => ?_)
          refine h_run 2 (pc' := 62) (l' := [(0, .inr (.inr 1826))]) (st' := [.inl (H.1 1826 3)]) rfl ?_
          refine h_run 1 (pc' := 64) (l' := [(0, .inr (.inr 1826))]) (st' := [.inl 16, .inl (H.1 1826 3)]) rfl ?_
          refine h_ine (off := 8) (t := 72) rfl rfl (by omega) (by decide) (fun c101 => ?_) (fun c101 => ?_)
          · refine h_run 1 (pc' := 73) (l' := [(0, .inr (.inr 1826))]) (st' := [.inr (.inr 1826)]) rfl ?_
            refine h_cv (i := 293) (j := 158) (b := 1826) (M' := mt_158) (xs := []) (rest := []) rfl rfl rfl rfl rfl rfl (Nat.le_of_ble_eq_true rfl) (Nat.le_of_ble_eq_true rfl) (by omega) (m_good1 (by omega) (by omega : (H.1 1826 35) = 0)) ?_
            rintro _ _ ⟨rfl, rfl⟩
            refine h_run 0 (pc' := 76) (l' := [(0, .inr (.inr 1826))]) (st' := [.inl 1]) rfl ?_
            refine h_zne (off := 4) (t := 80) rfl rfl (by decide) (fun _ => ?_) (fun c => absurd c (by decide))
            refine h_run 2 (pc' := 84) (l' := [(0, .inr (.inr 1826))]) (st' := [.inl (H.1 1826 3)]) rfl ?_
            refine h_run 6 (pc' := 94) (l' := [(0, .inr (.inr 1826)), (1, .inl (H.1 1826 3))]) (st' := [.inr (.inl (H.1 1826 33)), .inl (H.1 1826 3), .inr (.inr 1828)]) rfl ?_
            refine h_lst (c := 1828) (j := ((H.1 1826 3)).toNat) (i := (H.1 1826 3)) (x := (H.1 1826 33)) rfl rfl (by decide) (by decide) (by omega) (by omega) (by first | omega | exact z_long _) ?_
            refine h_run 5 (pc' := 104) (l' := [(0, .inr (.inr 1826)), (1, .inl (H.1 1826 3))]) (st' := [.inl (H.1 1826 1), .inl (H.1 1826 3), .inr (.inr 1829)]) rfl ?_
            have g102 : -2147483648 ≤ (H.1 1826 1) ∧ (H.1 1826 1) ≤ 2147483647 := hrg0.1 1826 13 1 _ .int rfl rfl
            refine h_run 2 (pc' := 106) (l' := [(0, .inr (.inr 1826)), (1, .inl (H.1 1826 3))]) (st' := [.inl ((H.1 1826 1) - 1), .inl (H.1 1826 3), .inr (.inr 1829)]) rfl ?_
            refine h_ist (c := 1829) (j := ((H.1 1826 3)).toNat) (i := (H.1 1826 3)) (x := ((H.1 1826 1) - 1)) rfl rfl (by decide) (by decide) (by omega) (by omega) (by omega) ?_
            refine h_run 4 (pc' := 113) (l' := [(0, .inr (.inr 1826)), (1, .inl (H.1 1826 3))]) (st' := [.inl 0, .inl (H.1 1826 3), .inr (.inr 1830)]) rfl ?_
            refine h_ist (c := 1830) (j := ((H.1 1826 3)).toNat) (i := (H.1 1826 3)) (x := 0) rfl rfl (by decide) (by decide) (by omega) (by omega) (by decide) ?_
            refine h_run 3 (pc' := 119) (l' := [(0, .inr (.inr 1826)), (1, .inl (H.1 1826 3))]) (st' := [.inl (H.1 1826 3), .inr (.inr 1826)]) rfl ?_
            refine h_run 2 (pc' := 121) (l' := [(0, .inr (.inr 1826)), (1, .inl (H.1 1826 3))]) (st' := [.inl ((H.1 1826 3) + 1), .inr (.inr 1826)]) rfl ?_
            refine h_puti (i := 319) (ci := 13) (k := 3) (a := 1826) (x := ((H.1 1826 3) + 1)) rfl rfl rfl rfl rfl rfl (by decide) (by omega) ?_
            refine h_run 1 (pc' := 125) (l' := [(0, .inr (.inr 1826)), (1, .inl (H.1 1826 3))]) (st' := [.inr (.inr 1826)]) rfl ?_
            have g103 : -2147483648 ≤ (H.1 1826 30) ∧ (H.1 1826 30) ≤ 2147483647 := hrg0.1 1826 13 30 _ .int rfl rfl
            have g104 : -2147483648 ≤ (H.1 1826 29) ∧ (H.1 1826 29) ≤ 2147483647 := hrg0.1 1826 13 29 _ .int rfl rfl
            have g105 : -2147483648 ≤ (H.1 1826 32) ∧ (H.1 1826 32) ≤ 2147483647 := hrg0.1 1826 13 32 _ .int rfl rfl
            refine h_cv (i := 297) (j := 165) (b := 1826) (M' := mt_165) (xs := []) (rest := []) rfl rfl rfl rfl rfl rfl (Nat.le_of_ble_eq_true rfl) (Nat.le_of_ble_eq_true rfl) (by omega) (m_next (by omega) (by omega : 0 ≤ (H.1 1826 30) ∧ (H.1 1826 30) ≤ (H.1 1826 29) ∧ (H.1 1826 29) ≤ 1000) (by omega : 0 ≤ (H.1 1826 35) ∧ (H.1 1826 35) ≤ 5) (by omega : 0 ≤ (H.1 1826 32) ∧ (H.1 1826 32) ≤ 1000)) ?_
            rintro _ H106 ⟨rfl, hx106f, hx106a, hx106b, hx106c, -, hx106e, hx106g⟩
            refine h_rng (fun hrg107 => ?_)
            have hf108 : fr [30, 31, 32, 33, 35, 36, 3] [1828, 1829, 1830, 1831] H H106 := fr_t (fr_o (fr_a (fr_a (fr_a (fr_rf _ _ _) (by decide)) (by decide)) (by decide)) (by decide)) hx106f (by decide) (by decide)
            have ha109 : agp H H106 := agp_tr (agp_n3 (agp_1830 (agp_1829 (agp_a (agp_rf _) (by decide)) (by omega : (H.1 1826 3) ≤ ((((H.1 1826 3)).toNat : Nat) : Int))) (by omega : (H.1 1826 3) ≤ ((((H.1 1826 3)).toNat : Nat) : Int))) (by omega : (H.1 1826 3) ≤ ((H.1 1826 3) + 1))) (agp_fr hx106f (by decide) (by decide))
            replace hx106a : (H.1 1826 30) ≤ (H106.1 1826 30) := hx106a
            replace hx106b : (H106.1 1826 30) ≤ (H.1 1826 29) := hx106b
            replace hx106g : (H106.1 1826 35) = 0 → ((H106.1 1826 31) = 0 ∨ (H.1 1826 30) < (H106.1 1826 30)) := hx106g
            refine h_run 0 (pc' := 128) (l' := [(0, .inr (.inr 1826)), (1, .inl (H.1 1826 3))]) (st' := []) rfl ?_
            have g110 : -2147483648 ≤ (H106.1 1826 30) ∧ (H106.1 1826 30) ≤ 2147483647 := hrg107.1 1826 13 30 _ .int rfl rfl
            have g111 : -2147483648 ≤ (H106.1 1826 35) ∧ (H106.1 1826 35) ≤ 2147483647 := hrg107.1 1826 13 35 _ .int rfl rfl
            have g112 : -2147483648 ≤ (H106.1 1826 32) ∧ (H106.1 1826 32) ≤ 2147483647 := hrg107.1 1826 13 32 _ .int rfl rfl
            have g113 : -2147483648 ≤ (H106.1 1826 31) ∧ (H106.1 1826 31) ≤ 2147483647 := hrg107.1 1826 13 31 _ .int rfl rfl
            have g114 : -2147483648 ≤ (H106.1 1826 3) ∧ (H106.1 1826 3) ≤ 2147483647 := hrg107.1 1826 13 3 _ .int rfl rfl
            have e115 : (H106.1 1826 3) = ((H.1 1826 3) + 1) := hx106f.2.2 3 (by decide)
            have g116 : -2147483648 ≤ (H106.1 1826 29) ∧ (H106.1 1826 29) ≤ 2147483647 := hrg107.1 1826 13 29 _ .int rfl rfl
            have e117 : (H106.1 1826 29) = (H.1 1826 29) := hx106f.2.2 29 (by decide)
            have g118 : -2147483648 ≤ (H106.1 1826 1) ∧ (H106.1 1826 1) ≤ 2147483647 := hrg107.1 1826 13 1 _ .int rfl rfl
            have e119 : (H106.1 1826 1) = (H.1 1826 1) := hx106f.2.2 1 (by decide)
            rw [show (H.1 1826 3) = ((((H.1 1826 3)).toNat : Nat) : Int) by omega]
            exact (m_constructor_cut hd h0 hw hst hP ht _) _ ((H.1 1826 3)).toNat hf108 (by omega : (H.1 1826 30) ≤ (H106.1 1826 30) ∧ (H106.1 1826 30) ≤ (H.1 1826 29)) (by omega : 0 ≤ (H106.1 1826 35) ∧ (H106.1 1826 35) ≤ 5) (by omega : 0 ≤ (H106.1 1826 32) ∧ (H106.1 1826 32) ≤ 1000) ha109 (by omega) (by omega : (((H.1 1826 3)).toNat : Int) = (H.1 1826 3) ∧ (H.1 1826 3) ≤ 15) (by omega : (H106.1 1826 3) = (H.1 1826 3) + 1) (by omega) (fun _ => by rw [show (H106.1 1829) = _ from hx106f.2.1 1829 (by decide) (by decide), show (H106.1 1830) = _ from hx106f.2.1 1830 (by decide) (by decide), show (H106.1 1831) = _ from hx106f.2.1 1831 (by decide) (by decide), show (H106.1 1826 1) = (H.1 1826 1) from hx106f.2.2 1 (by decide), show (H106.1 1826 3) = (H.1 1826 3) + 1 from hx106f.2.2 3 (by decide)]; exact m_con_new pw1 (by omega) (by omega)) (Nat.lt_succ_self _)
          · refine h_run 2 (pc' := 69) (l' := [(0, .inr (.inr 1826))]) (st' := [.inl 5, .inr (.inr 1826)]) rfl ?_
            refine h_cv (i := 278) (j := 159) (b := 1826) (M' := mt_159) (xs := [.inl 5]) (rest := []) rfl rfl rfl rfl rfl rfl (Nat.le_of_ble_eq_true rfl) (Nat.le_of_ble_eq_true rfl) (by omega) (m_bad0 (by omega) (by omega) (by omega : (H.1 1826 35) = 0)) ?_
            rintro _ _ ⟨rfl, rfl⟩
            refine h_run 0 (pc' := 72) (l' := [(0, .inr (.inr 1826))]) (st' := []) rfl ?_
            refine h_run 1 (pc' := 73) (l' := [(0, .inr (.inr 1826))]) (st' := [.inr (.inr 1826)]) rfl ?_
            refine h_cv (i := 293) (j := 158) (b := 1826) (M' := mt_158) (xs := []) (rest := []) rfl rfl rfl rfl rfl rfl (Nat.le_of_ble_eq_true rfl) (Nat.le_of_ble_eq_true rfl) (by omega) (m_good0 (by omega) (by omega : (5 : Int) ≠ 0)) ?_
            rintro _ _ ⟨rfl, rfl⟩
            refine h_run 0 (pc' := 76) (l' := [(0, .inr (.inr 1826))]) (st' := [.inl 0]) rfl ?_
            refine h_zne (off := 4) (t := 80) rfl rfl (by decide) (fun c => absurd c (by decide)) (fun _ => ?_)
            refine h_ret rfl rfl ?_
            have g120 : -2147483648 ≤ (H.1 1826 30) ∧ (H.1 1826 30) ≤ 2147483647 := hrg0.1 1826 13 30 _ .int rfl rfl
            have g121 : -2147483648 ≤ (H.1 1826 32) ∧ (H.1 1826 32) ≤ 2147483647 := hrg0.1 1826 13 32 _ .int rfl rfl
            have g122 : -2147483648 ≤ (H.1 1826 29) ∧ (H.1 1826 29) ≤ 2147483647 := hrg0.1 1826 13 29 _ .int rfl rfl
            have g123 : -2147483648 ≤ (H.1 1826 1) ∧ (H.1 1826 1) ≤ 2147483647 := hrg0.1 1826 13 1 _ .int rfl rfl
            have g124 : -2147483648 ≤ (H.1 1826 8) ∧ (H.1 1826 8) ≤ 2147483647 := hrg0.1 1826 13 8 _ .int rfl rfl
            have g125 : -2147483648 ≤ (H.1 1826 13) ∧ (H.1 1826 13) ≤ 2147483647 := hrg0.1 1826 13 13 _ .int rfl rfl
            have g126 : -2147483648 ≤ (H.1 1826 19) ∧ (H.1 1826 19) ≤ 2147483647 := hrg0.1 1826 13 19 _ .int rfl rfl
            exact ⟨rfl, (fr_o (fr_o (fr_rf _ _ _) (by decide)) (by decide)), (by omega : (H.1 1826 30) ≤ (H.1 1826 30) ∧ (H.1 1826 30) ≤ (H.1 1826 29)), (by omega : 0 ≤ (5 : Int) ∧ (5 : Int) ≤ 5), (by omega : (H.1 1826 35) ≠ 0 → (5 : Int) ≠ 0), (by omega : 0 ≤ (H.1 1826 32) ∧ (H.1 1826 32) ≤ 1000), (agp_o (agp_o (agp_rf _) (by decide)) (by decide)), (fun (q : (5 : Int) = 0) => absurd q (by omega))⟩
        · refine h_run 2 (pc' := 48) (l' := [(0, .inr (.inr 1826))]) (st' := [.inl 3, .inr (.inr 1826)]) rfl ?_
          refine h_cv (i := 278) (j := 159) (b := 1826) (M' := mt_159) (xs := [.inl 3]) (rest := []) rfl rfl rfl rfl rfl rfl (Nat.le_of_ble_eq_true rfl) (Nat.le_of_ble_eq_true rfl) (by omega) (m_bad0 (by omega) (by omega) (by omega : (H.1 1826 35) = 0)) ?_
          rintro _ _ ⟨rfl, rfl⟩
          refine h_run 0 (pc' := 51) (l' := [(0, .inr (.inr 1826))]) (st' := []) rfl ?_
          refine h_run 1 (pc' := 52) (l' := [(0, .inr (.inr 1826))]) (st' := [.inr (.inr 1826)]) rfl ?_
          refine h_cv (i := 293) (j := 158) (b := 1826) (M' := mt_158) (xs := []) (rest := []) rfl rfl rfl rfl rfl rfl (Nat.le_of_ble_eq_true rfl) (Nat.le_of_ble_eq_true rfl) (by omega) (m_good0 (by omega) (by omega : (3 : Int) ≠ 0)) ?_
          rintro _ _ ⟨rfl, rfl⟩
          refine h_run 0 (pc' := 55) (l' := [(0, .inr (.inr 1826))]) (st' := [.inl 0]) rfl ?_
          refine h_zeq (off := 17) (t := 72) rfl rfl (by decide) (fun _ => ?_) (fun c => absurd c (by decide))
          refine h_run 1 (pc' := 73) (l' := [(0, .inr (.inr 1826))]) (st' := [.inr (.inr 1826)]) rfl ?_
          refine h_cv (i := 293) (j := 158) (b := 1826) (M' := mt_158) (xs := []) (rest := []) rfl rfl rfl rfl rfl rfl (Nat.le_of_ble_eq_true rfl) (Nat.le_of_ble_eq_true rfl) (by omega) (m_good0 (by omega) (by omega : (3 : Int) ≠ 0)) ?_
          rintro _ _ ⟨rfl, rfl⟩
          refine h_run 0 (pc' := 76) (l' := [(0, .inr (.inr 1826))]) (st' := [.inl 0]) rfl ?_
          refine h_zne (off := 4) (t := 80) rfl rfl (by decide) (fun c => absurd c (by decide)) (fun _ => ?_)
          refine h_ret rfl rfl ?_
          have g127 : -2147483648 ≤ (H.1 1826 30) ∧ (H.1 1826 30) ≤ 2147483647 := hrg0.1 1826 13 30 _ .int rfl rfl
          have g128 : -2147483648 ≤ (H.1 1826 32) ∧ (H.1 1826 32) ≤ 2147483647 := hrg0.1 1826 13 32 _ .int rfl rfl
          have g129 : -2147483648 ≤ (H.1 1826 29) ∧ (H.1 1826 29) ≤ 2147483647 := hrg0.1 1826 13 29 _ .int rfl rfl
          have g130 : -2147483648 ≤ (H.1 1826 1) ∧ (H.1 1826 1) ≤ 2147483647 := hrg0.1 1826 13 1 _ .int rfl rfl
          have g131 : -2147483648 ≤ (H.1 1826 8) ∧ (H.1 1826 8) ≤ 2147483647 := hrg0.1 1826 13 8 _ .int rfl rfl
          have g132 : -2147483648 ≤ (H.1 1826 13) ∧ (H.1 1826 13) ≤ 2147483647 := hrg0.1 1826 13 13 _ .int rfl rfl
          have g133 : -2147483648 ≤ (H.1 1826 19) ∧ (H.1 1826 19) ≤ 2147483647 := hrg0.1 1826 13 19 _ .int rfl rfl
          exact ⟨rfl, (fr_o (fr_o (fr_rf _ _ _) (by decide)) (by decide)), (by omega : (H.1 1826 30) ≤ (H.1 1826 30) ∧ (H.1 1826 30) ≤ (H.1 1826 29)), (by omega : 0 ≤ (3 : Int) ∧ (3 : Int) ≤ 5), (by omega : (H.1 1826 35) ≠ 0 → (3 : Int) ≠ 0), (by omega : 0 ≤ (H.1 1826 32) ∧ (H.1 1826 32) ≤ 1000), (agp_o (agp_o (agp_rf _) (by decide)) (by decide)), (fun (q : (3 : Int) = 0) => absurd q (by omega))⟩
      · refine h_run 0 (pc' := 42) (l' := [(0, .inr (.inr 1826))]) (st' := [.inl (-1)]) rfl ?_
        refine h_run 1 (pc' := 43) (l' := [(0, .inr (.inr 1826))]) (st' := [.inl (-1), .inl (-1)]) rfl ?_
        refine h_ieq (off := 8) (t := 51) rfl rfl (by decide) (by decide) (fun _ => ?_) (fun c => absurd c (by decide))
        refine h_run 1 (pc' := 52) (l' := [(0, .inr (.inr 1826))]) (st' := [.inr (.inr 1826)]) rfl ?_
        refine h_cv (i := 293) (j := 158) (b := 1826) (M' := mt_158) (xs := []) (rest := []) rfl rfl rfl rfl rfl rfl (Nat.le_of_ble_eq_true rfl) (Nat.le_of_ble_eq_true rfl) (by omega) (m_good1 (by omega) (by omega : (H.1 1826 35) = 0)) ?_
        rintro _ _ ⟨rfl, rfl⟩
        refine h_run 0 (pc' := 55) (l' := [(0, .inr (.inr 1826))]) (st' := [.inl 1]) rfl ?_
        refine h_zeq (off := 17) (t := 72) rfl rfl (by decide) (fun c => absurd c (by decide)) (fun _ => ?_)
        refine h_run 2 (pc' := 62) (l' := [(0, .inr (.inr 1826))]) (st' := [.inl (H.1 1826 3)]) rfl ?_
        refine h_run 1 (pc' := 64) (l' := [(0, .inr (.inr 1826))]) (st' := [.inl 16, .inl (H.1 1826 3)]) rfl ?_
        refine h_ine (off := 8) (t := 72) rfl rfl (by omega) (by decide) (fun c134 => ?_) (fun c134 => ?_)
        · refine h_run 1 (pc' := 73) (l' := [(0, .inr (.inr 1826))]) (st' := [.inr (.inr 1826)]) rfl ?_
          refine h_cv (i := 293) (j := 158) (b := 1826) (M' := mt_158) (xs := []) (rest := []) rfl rfl rfl rfl rfl rfl (Nat.le_of_ble_eq_true rfl) (Nat.le_of_ble_eq_true rfl) (by omega) (m_good1 (by omega) (by omega : (H.1 1826 35) = 0)) ?_
          rintro _ _ ⟨rfl, rfl⟩
          refine h_run 0 (pc' := 76) (l' := [(0, .inr (.inr 1826))]) (st' := [.inl 1]) rfl ?_
          refine h_zne (off := 4) (t := 80) rfl rfl (by decide) (fun _ => ?_) (fun c => absurd c (by decide))
          refine h_run 2 (pc' := 84) (l' := [(0, .inr (.inr 1826))]) (st' := [.inl (H.1 1826 3)]) rfl ?_
          refine h_run 6 (pc' := 94) (l' := [(0, .inr (.inr 1826)), (1, .inl (H.1 1826 3))]) (st' := [.inr (.inl (H.1 1826 33)), .inl (H.1 1826 3), .inr (.inr 1828)]) rfl ?_
          refine h_lst (c := 1828) (j := ((H.1 1826 3)).toNat) (i := (H.1 1826 3)) (x := (H.1 1826 33)) rfl rfl (by decide) (by decide) (by omega) (by omega) (by first | omega | exact z_long _) ?_
          refine h_run 5 (pc' := 104) (l' := [(0, .inr (.inr 1826)), (1, .inl (H.1 1826 3))]) (st' := [.inl (H.1 1826 1), .inl (H.1 1826 3), .inr (.inr 1829)]) rfl ?_
          have g135 : -2147483648 ≤ (H.1 1826 1) ∧ (H.1 1826 1) ≤ 2147483647 := hrg0.1 1826 13 1 _ .int rfl rfl
          refine h_run 2 (pc' := 106) (l' := [(0, .inr (.inr 1826)), (1, .inl (H.1 1826 3))]) (st' := [.inl ((H.1 1826 1) - 1), .inl (H.1 1826 3), .inr (.inr 1829)]) rfl ?_
          refine h_ist (c := 1829) (j := ((H.1 1826 3)).toNat) (i := (H.1 1826 3)) (x := ((H.1 1826 1) - 1)) rfl rfl (by decide) (by decide) (by omega) (by omega) (by omega) ?_
          refine h_run 4 (pc' := 113) (l' := [(0, .inr (.inr 1826)), (1, .inl (H.1 1826 3))]) (st' := [.inl 0, .inl (H.1 1826 3), .inr (.inr 1830)]) rfl ?_
          refine h_ist (c := 1830) (j := ((H.1 1826 3)).toNat) (i := (H.1 1826 3)) (x := 0) rfl rfl (by decide) (by decide) (by omega) (by omega) (by decide) ?_
          refine h_run 3 (pc' := 119) (l' := [(0, .inr (.inr 1826)), (1, .inl (H.1 1826 3))]) (st' := [.inl (H.1 1826 3), .inr (.inr 1826)]) rfl ?_
          refine h_run 2 (pc' := 121) (l' := [(0, .inr (.inr 1826)), (1, .inl (H.1 1826 3))]) (st' := [.inl ((H.1 1826 3) + 1), .inr (.inr 1826)]) rfl ?_
          refine h_puti (i := 319) (ci := 13) (k := 3) (a := 1826) (x := ((H.1 1826 3) + 1)) rfl rfl rfl rfl rfl rfl (by decide) (by omega) ?_
          refine h_run 1 (pc' := 125) (l' := [(0, .inr (.inr 1826)), (1, .inl (H.1 1826 3))]) (st' := [.inr (.inr 1826)]) rfl ?_
          have g136 : -2147483648 ≤ (H.1 1826 30) ∧ (H.1 1826 30) ≤ 2147483647 := hrg0.1 1826 13 30 _ .int rfl rfl
          have g137 : -2147483648 ≤ (H.1 1826 29) ∧ (H.1 1826 29) ≤ 2147483647 := hrg0.1 1826 13 29 _ .int rfl rfl
          have g138 : -2147483648 ≤ (H.1 1826 32) ∧ (H.1 1826 32) ≤ 2147483647 := hrg0.1 1826 13 32 _ .int rfl rfl
          refine h_cv (i := 297) (j := 165) (b := 1826) (M' := mt_165) (xs := []) (rest := []) rfl rfl rfl rfl rfl rfl (Nat.le_of_ble_eq_true rfl) (Nat.le_of_ble_eq_true rfl) (by omega) (m_next (by omega) (by omega : 0 ≤ (H.1 1826 30) ∧ (H.1 1826 30) ≤ (H.1 1826 29) ∧ (H.1 1826 29) ≤ 1000) (by omega : 0 ≤ (H.1 1826 35) ∧ (H.1 1826 35) ≤ 5) (by omega : 0 ≤ (H.1 1826 32) ∧ (H.1 1826 32) ≤ 1000)) ?_
          rintro _ H139 ⟨rfl, hx139f, hx139a, hx139b, hx139c, -, hx139e, hx139g⟩
          refine h_rng (fun hrg140 => ?_)
          have hf141 : fr [30, 31, 32, 33, 35, 36, 3] [1828, 1829, 1830, 1831] H H139 := fr_t (fr_o (fr_a (fr_a (fr_a (fr_rf _ _ _) (by decide)) (by decide)) (by decide)) (by decide)) hx139f (by decide) (by decide)
          have ha142 : agp H H139 := agp_tr (agp_n3 (agp_1830 (agp_1829 (agp_a (agp_rf _) (by decide)) (by omega : (H.1 1826 3) ≤ ((((H.1 1826 3)).toNat : Nat) : Int))) (by omega : (H.1 1826 3) ≤ ((((H.1 1826 3)).toNat : Nat) : Int))) (by omega : (H.1 1826 3) ≤ ((H.1 1826 3) + 1))) (agp_fr hx139f (by decide) (by decide))
          replace hx139a : (H.1 1826 30) ≤ (H139.1 1826 30) := hx139a
          replace hx139b : (H139.1 1826 30) ≤ (H.1 1826 29) := hx139b
          replace hx139g : (H139.1 1826 35) = 0 → ((H139.1 1826 31) = 0 ∨ (H.1 1826 30) < (H139.1 1826 30)) := hx139g
          refine h_run 0 (pc' := 128) (l' := [(0, .inr (.inr 1826)), (1, .inl (H.1 1826 3))]) (st' := []) rfl ?_
          have g143 : -2147483648 ≤ (H139.1 1826 30) ∧ (H139.1 1826 30) ≤ 2147483647 := hrg140.1 1826 13 30 _ .int rfl rfl
          have g144 : -2147483648 ≤ (H139.1 1826 35) ∧ (H139.1 1826 35) ≤ 2147483647 := hrg140.1 1826 13 35 _ .int rfl rfl
          have g145 : -2147483648 ≤ (H139.1 1826 32) ∧ (H139.1 1826 32) ≤ 2147483647 := hrg140.1 1826 13 32 _ .int rfl rfl
          have g146 : -2147483648 ≤ (H139.1 1826 31) ∧ (H139.1 1826 31) ≤ 2147483647 := hrg140.1 1826 13 31 _ .int rfl rfl
          have g147 : -2147483648 ≤ (H139.1 1826 3) ∧ (H139.1 1826 3) ≤ 2147483647 := hrg140.1 1826 13 3 _ .int rfl rfl
          have e148 : (H139.1 1826 3) = ((H.1 1826 3) + 1) := hx139f.2.2 3 (by decide)
          have g149 : -2147483648 ≤ (H139.1 1826 29) ∧ (H139.1 1826 29) ≤ 2147483647 := hrg140.1 1826 13 29 _ .int rfl rfl
          have e150 : (H139.1 1826 29) = (H.1 1826 29) := hx139f.2.2 29 (by decide)
          have g151 : -2147483648 ≤ (H139.1 1826 1) ∧ (H139.1 1826 1) ≤ 2147483647 := hrg140.1 1826 13 1 _ .int rfl rfl
          have e152 : (H139.1 1826 1) = (H.1 1826 1) := hx139f.2.2 1 (by decide)
          rw [show (H.1 1826 3) = ((((H.1 1826 3)).toNat : Nat) : Int) by omega]
          exact (m_constructor_cut hd h0 hw hst hP ht _) _ ((H.1 1826 3)).toNat hf141 (by omega : (H.1 1826 30) ≤ (H139.1 1826 30) ∧ (H139.1 1826 30) ≤ (H.1 1826 29)) (by omega : 0 ≤ (H139.1 1826 35) ∧ (H139.1 1826 35) ≤ 5) (by omega : 0 ≤ (H139.1 1826 32) ∧ (H139.1 1826 32) ≤ 1000) ha142 (by omega) (by omega : (((H.1 1826 3)).toNat : Int) = (H.1 1826 3) ∧ (H.1 1826 3) ≤ 15) (by omega : (H139.1 1826 3) = (H.1 1826 3) + 1) (by omega) (fun _ => by rw [show (H139.1 1829) = _ from hx139f.2.1 1829 (by decide) (by decide), show (H139.1 1830) = _ from hx139f.2.1 1830 (by decide) (by decide), show (H139.1 1831) = _ from hx139f.2.1 1831 (by decide) (by decide), show (H139.1 1826 1) = (H.1 1826 1) from hx139f.2.2 1 (by decide), show (H139.1 1826 3) = (H.1 1826 3) + 1 from hx139f.2.2 3 (by decide)]; exact m_con_new pw1 (by omega) (by omega)) (Nat.lt_succ_self _)
        · refine h_run 2 (pc' := 69) (l' := [(0, .inr (.inr 1826))]) (st' := [.inl 5, .inr (.inr 1826)]) rfl ?_
          refine h_cv (i := 278) (j := 159) (b := 1826) (M' := mt_159) (xs := [.inl 5]) (rest := []) rfl rfl rfl rfl rfl rfl (Nat.le_of_ble_eq_true rfl) (Nat.le_of_ble_eq_true rfl) (by omega) (m_bad0 (by omega) (by omega) (by omega : (H.1 1826 35) = 0)) ?_
          rintro _ _ ⟨rfl, rfl⟩
          refine h_run 0 (pc' := 72) (l' := [(0, .inr (.inr 1826))]) (st' := []) rfl ?_
          refine h_run 1 (pc' := 73) (l' := [(0, .inr (.inr 1826))]) (st' := [.inr (.inr 1826)]) rfl ?_
          refine h_cv (i := 293) (j := 158) (b := 1826) (M' := mt_158) (xs := []) (rest := []) rfl rfl rfl rfl rfl rfl (Nat.le_of_ble_eq_true rfl) (Nat.le_of_ble_eq_true rfl) (by omega) (m_good0 (by omega) (by omega : (5 : Int) ≠ 0)) ?_
          rintro _ _ ⟨rfl, rfl⟩
          refine h_run 0 (pc' := 76) (l' := [(0, .inr (.inr 1826))]) (st' := [.inl 0]) rfl ?_
          refine h_zne (off := 4) (t := 80) rfl rfl (by decide) (fun c => absurd c (by decide)) (fun _ => ?_)
          refine h_ret rfl rfl ?_
          have g153 : -2147483648 ≤ (H.1 1826 30) ∧ (H.1 1826 30) ≤ 2147483647 := hrg0.1 1826 13 30 _ .int rfl rfl
          have g154 : -2147483648 ≤ (H.1 1826 32) ∧ (H.1 1826 32) ≤ 2147483647 := hrg0.1 1826 13 32 _ .int rfl rfl
          have g155 : -2147483648 ≤ (H.1 1826 29) ∧ (H.1 1826 29) ≤ 2147483647 := hrg0.1 1826 13 29 _ .int rfl rfl
          have g156 : -2147483648 ≤ (H.1 1826 1) ∧ (H.1 1826 1) ≤ 2147483647 := hrg0.1 1826 13 1 _ .int rfl rfl
          have g157 : -2147483648 ≤ (H.1 1826 8) ∧ (H.1 1826 8) ≤ 2147483647 := hrg0.1 1826 13 8 _ .int rfl rfl
          have g158 : -2147483648 ≤ (H.1 1826 13) ∧ (H.1 1826 13) ≤ 2147483647 := hrg0.1 1826 13 13 _ .int rfl rfl
          have g159 : -2147483648 ≤ (H.1 1826 19) ∧ (H.1 1826 19) ≤ 2147483647 := hrg0.1 1826 13 19 _ .int rfl rfl
          exact ⟨rfl, (fr_o (fr_o (fr_rf _ _ _) (by decide)) (by decide)), (by omega : (H.1 1826 30) ≤ (H.1 1826 30) ∧ (H.1 1826 30) ≤ (H.1 1826 29)), (by omega : 0 ≤ (5 : Int) ∧ (5 : Int) ≤ 5), (by omega : (H.1 1826 35) ≠ 0 → (5 : Int) ≠ 0), (by omega : 0 ≤ (H.1 1826 32) ∧ (H.1 1826 32) ≤ 1000), (agp_o (agp_o (agp_rf _) (by decide)) (by decide)), (fun (q : (5 : Int) = 0) => absurd q (by omega))⟩
    · refine h_run 2 (pc' := 17) (l' := [(0, .inr (.inr 1826))]) (st' := [.inl 2, .inr (.inr 1826)]) rfl ?_
      refine h_cv (i := 278) (j := 159) (b := 1826) (M' := mt_159) (xs := [.inl 2]) (rest := []) rfl rfl rfl rfl rfl rfl (Nat.le_of_ble_eq_true rfl) (Nat.le_of_ble_eq_true rfl) (by omega) (m_bad0 (by omega) (by omega) (by omega : (H.1 1826 35) = 0)) ?_
      rintro _ _ ⟨rfl, rfl⟩
      refine h_run 0 (pc' := 20) (l' := [(0, .inr (.inr 1826))]) (st' := []) rfl ?_
      refine h_run 1 (pc' := 21) (l' := [(0, .inr (.inr 1826))]) (st' := [.inr (.inr 1826)]) rfl ?_
      refine h_cv (i := 293) (j := 158) (b := 1826) (M' := mt_158) (xs := []) (rest := []) rfl rfl rfl rfl rfl rfl (Nat.le_of_ble_eq_true rfl) (Nat.le_of_ble_eq_true rfl) (by omega) (m_good0 (by omega) (by omega : (2 : Int) ≠ 0)) ?_
      rintro _ _ ⟨rfl, rfl⟩
      refine h_run 0 (pc' := 24) (l' := [(0, .inr (.inr 1826))]) (st' := [.inl 0]) rfl ?_
      refine h_zeq (off := 27) (t := 51) rfl rfl (by decide) (fun _ => ?_) (fun c => absurd c (by decide))
      refine h_run 1 (pc' := 52) (l' := [(0, .inr (.inr 1826))]) (st' := [.inr (.inr 1826)]) rfl ?_
      refine h_cv (i := 293) (j := 158) (b := 1826) (M' := mt_158) (xs := []) (rest := []) rfl rfl rfl rfl rfl rfl (Nat.le_of_ble_eq_true rfl) (Nat.le_of_ble_eq_true rfl) (by omega) (m_good0 (by omega) (by omega : (2 : Int) ≠ 0)) ?_
      rintro _ _ ⟨rfl, rfl⟩
      refine h_run 0 (pc' := 55) (l' := [(0, .inr (.inr 1826))]) (st' := [.inl 0]) rfl ?_
      refine h_zeq (off := 17) (t := 72) rfl rfl (by decide) (fun _ => ?_) (fun c => absurd c (by decide))
      refine h_run 1 (pc' := 73) (l' := [(0, .inr (.inr 1826))]) (st' := [.inr (.inr 1826)]) rfl ?_
      refine h_cv (i := 293) (j := 158) (b := 1826) (M' := mt_158) (xs := []) (rest := []) rfl rfl rfl rfl rfl rfl (Nat.le_of_ble_eq_true rfl) (Nat.le_of_ble_eq_true rfl) (by omega) (m_good0 (by omega) (by omega : (2 : Int) ≠ 0)) ?_
      rintro _ _ ⟨rfl, rfl⟩
      refine h_run 0 (pc' := 76) (l' := [(0, .inr (.inr 1826))]) (st' := [.inl 0]) rfl ?_
      refine h_zne (off := 4) (t := 80) rfl rfl (by decide) (fun c => absurd c (by decide)) (fun _ => ?_)
      refine h_ret rfl rfl ?_
      have g160 : -2147483648 ≤ (H.1 1826 30) ∧ (H.1 1826 30) ≤ 2147483647 := hrg0.1 1826 13 30 _ .int rfl rfl
      have g161 : -2147483648 ≤ (H.1 1826 32) ∧ (H.1 1826 32) ≤ 2147483647 := hrg0.1 1826 13 32 _ .int rfl rfl
      have g162 : -2147483648 ≤ (H.1 1826 29) ∧ (H.1 1826 29) ≤ 2147483647 := hrg0.1 1826 13 29 _ .int rfl rfl
      have g163 : -2147483648 ≤ (H.1 1826 1) ∧ (H.1 1826 1) ≤ 2147483647 := hrg0.1 1826 13 1 _ .int rfl rfl
      have g164 : -2147483648 ≤ (H.1 1826 3) ∧ (H.1 1826 3) ≤ 2147483647 := hrg0.1 1826 13 3 _ .int rfl rfl
      have g165 : -2147483648 ≤ (H.1 1826 8) ∧ (H.1 1826 8) ≤ 2147483647 := hrg0.1 1826 13 8 _ .int rfl rfl
      have g166 : -2147483648 ≤ (H.1 1826 13) ∧ (H.1 1826 13) ≤ 2147483647 := hrg0.1 1826 13 13 _ .int rfl rfl
      have g167 : -2147483648 ≤ (H.1 1826 19) ∧ (H.1 1826 19) ≤ 2147483647 := hrg0.1 1826 13 19 _ .int rfl rfl
      exact ⟨rfl, (fr_o (fr_o (fr_rf _ _ _) (by decide)) (by decide)), (by omega : (H.1 1826 30) ≤ (H.1 1826 30) ∧ (H.1 1826 30) ≤ (H.1 1826 29)), (by omega : 0 ≤ (2 : Int) ∧ (2 : Int) ≤ 5), (by omega : (H.1 1826 35) ≠ 0 → (2 : Int) ≠ 0), (by omega : 0 ≤ (H.1 1826 32) ∧ (H.1 1826 32) ≤ 1000), (agp_o (agp_o (agp_rf _) (by decide)) (by decide)), (fun (q : (2 : Int) = 0) => absurd q (by omega))⟩
  · have b93x : (H.1 1826 35) ≠ 0 := b93
    refine h_run 0 (pc' := 4) (l' := [(0, .inr (.inr 1826))]) (st' := [.inl 0]) rfl ?_
    refine h_zeq (off := 16) (t := 20) rfl rfl (by decide) (fun _ => ?_) (fun c => absurd c (by decide))
    refine h_run 1 (pc' := 21) (l' := [(0, .inr (.inr 1826))]) (st' := [.inr (.inr 1826)]) rfl ?_
    refine h_cv (i := 293) (j := 158) (b := 1826) (M' := mt_158) (xs := []) (rest := []) rfl rfl rfl rfl rfl rfl (Nat.le_of_ble_eq_true rfl) (Nat.le_of_ble_eq_true rfl) (by omega) (m_good0 (by omega) (by omega : (H.1 1826 35) ≠ 0)) ?_
    rintro _ _ ⟨rfl, rfl⟩
    refine h_run 0 (pc' := 24) (l' := [(0, .inr (.inr 1826))]) (st' := [.inl 0]) rfl ?_
    refine h_zeq (off := 27) (t := 51) rfl rfl (by decide) (fun _ => ?_) (fun c => absurd c (by decide))
    refine h_run 1 (pc' := 52) (l' := [(0, .inr (.inr 1826))]) (st' := [.inr (.inr 1826)]) rfl ?_
    refine h_cv (i := 293) (j := 158) (b := 1826) (M' := mt_158) (xs := []) (rest := []) rfl rfl rfl rfl rfl rfl (Nat.le_of_ble_eq_true rfl) (Nat.le_of_ble_eq_true rfl) (by omega) (m_good0 (by omega) (by omega : (H.1 1826 35) ≠ 0)) ?_
    rintro _ _ ⟨rfl, rfl⟩
    refine h_run 0 (pc' := 55) (l' := [(0, .inr (.inr 1826))]) (st' := [.inl 0]) rfl ?_
    refine h_zeq (off := 17) (t := 72) rfl rfl (by decide) (fun _ => ?_) (fun c => absurd c (by decide))
    refine h_run 1 (pc' := 73) (l' := [(0, .inr (.inr 1826))]) (st' := [.inr (.inr 1826)]) rfl ?_
    refine h_cv (i := 293) (j := 158) (b := 1826) (M' := mt_158) (xs := []) (rest := []) rfl rfl rfl rfl rfl rfl (Nat.le_of_ble_eq_true rfl) (Nat.le_of_ble_eq_true rfl) (by omega) (m_good0 (by omega) (by omega : (H.1 1826 35) ≠ 0)) ?_
    rintro _ _ ⟨rfl, rfl⟩
    refine h_run 0 (pc' := 76) (l' := [(0, .inr (.inr 1826))]) (st' := [.inl 0]) rfl ?_
    refine h_zne (off := 4) (t := 80) rfl rfl (by decide) (fun c => absurd c (by decide)) (fun _ => ?_)
    refine h_ret rfl rfl ?_
    have g168 : -2147483648 ≤ (H.1 1826 30) ∧ (H.1 1826 30) ≤ 2147483647 := hrg0.1 1826 13 30 _ .int rfl rfl
    have g169 : -2147483648 ≤ (H.1 1826 32) ∧ (H.1 1826 32) ≤ 2147483647 := hrg0.1 1826 13 32 _ .int rfl rfl
    have g170 : -2147483648 ≤ (H.1 1826 29) ∧ (H.1 1826 29) ≤ 2147483647 := hrg0.1 1826 13 29 _ .int rfl rfl
    have g171 : -2147483648 ≤ (H.1 1826 1) ∧ (H.1 1826 1) ≤ 2147483647 := hrg0.1 1826 13 1 _ .int rfl rfl
    have g172 : -2147483648 ≤ (H.1 1826 3) ∧ (H.1 1826 3) ≤ 2147483647 := hrg0.1 1826 13 3 _ .int rfl rfl
    have g173 : -2147483648 ≤ (H.1 1826 8) ∧ (H.1 1826 8) ≤ 2147483647 := hrg0.1 1826 13 8 _ .int rfl rfl
    have g174 : -2147483648 ≤ (H.1 1826 13) ∧ (H.1 1826 13) ≤ 2147483647 := hrg0.1 1826 13 13 _ .int rfl rfl
    have g175 : -2147483648 ≤ (H.1 1826 19) ∧ (H.1 1826 19) ≤ 2147483647 := hrg0.1 1826 13 19 _ .int rfl rfl
    exact ⟨rfl, (fr_rf _ _ _), (by omega : (H.1 1826 30) ≤ (H.1 1826 30) ∧ (H.1 1826 30) ≤ (H.1 1826 29)), (by omega : 0 ≤ (H.1 1826 35) ∧ (H.1 1826 35) ≤ 5), (by omega : (H.1 1826 35) ≠ 0 → (H.1 1826 35) ≠ 0), (by omega : 0 ≤ (H.1 1826 32) ∧ (H.1 1826 32) ≤ 1000), (agp_rf _), (fun (q : (H.1 1826 35) = 0) => absurd q (by omega))⟩

/-! data -/
set_option maxRecDepth 100000 in
theorem m_data_cut {zC : Nat → Option zsh} {d : Nat} (hd : 6 ≤ d) {H : hp}  (h0 : 0 ≤ (H.1 1826 30) ∧ (H.1 1826 30) ≤ (H.1 1826 29) ∧ (H.1 1826 29) ≤ 1000) (hw : 0 ≤ (H.1 1826 35) ∧ (H.1 1826 35) ≤ 5) (hst : 0 ≤ (H.1 1826 32) ∧ (H.1 1826 32) ≤ 1000) (hP : PWc H) (hw0 : (H.1 1826 35) = 0) : ∀ w : Nat, (∀ (H1 : hp), (fr [30, 31, 32, 33, 35, 36, 3, 1] [1828, 1829, 1830, 1831, 1827] H H1) → ((H.1 1826 30) ≤ (H1.1 1826 30) ∧ (H1.1 1826 30) ≤ (H.1 1826 29)) → (0 ≤ (H1.1 1826 35) ∧ (H1.1 1826 35) ≤ 5) → (0 ≤ (H1.1 1826 32) ∧ (H1.1 1826 32) ≤ 1000) → (agp H H1) → ((H.1 1826 35) = 0) → ((H1.1 1826 35) = 0 → PWc H1) → (1 ≤ (H1.1 1826 1)) → mu (H1.1 1826 35) (H1.1 1826 31) (H1.1 1826 30) (H.1 1826 29) < w → hG (zs zC) d mt_170 121 [(0, .inr (.inr 1826))] [] H1 (fun r H2 => r = none ∧ fr [30, 31, 32, 33, 35, 36, 3, 1] [1828, 1829, 1830, 1831, 1827] H H2 ∧ ((H.1 1826 30) ≤ (H2.1 1826 30) ∧ (H2.1 1826 30) ≤ (H.1 1826 29)) ∧ (0 ≤ (H2.1 1826 35) ∧ (H2.1 1826 35) ≤ 5) ∧ ((H.1 1826 35) ≠ 0 → (H2.1 1826 35) ≠ 0) ∧ (0 ≤ (H2.1 1826 32) ∧ (H2.1 1826 32) ≤ 1000) ∧ agp H H2 ∧ ((H2.1 1826 35) = 0 → PWc H2))) := by
  intro w
  induction w with
  | zero => exact fun _ _ _ _ _ _ _ _ _ h => absurd h (Nat.not_lt_zero _)
  | succ w ih =>
    intro H1 hf ha hk hst1 hag hw0 hP1 ht1 hw
    refine h_rng (fun hrg1 => ?_)
    obtain ⟨⟨pb1, pb2, pb3, pb4, pb5⟩, pw1, pw2, pw3, pw4⟩ := (id hP : PW H (H.1 1826 1) (H.1 1826 3) (H.1 1826 8) (H.1 1826 13) (H.1 1826 19))
    refine h_run 1 (pc' := 122) (l' := [(0, .inr (.inr 1826))]) (st' := [.inr (.inr 1826)]) rfl ?_
    have g2 : -2147483648 ≤ (H1.1 1826 35) ∧ (H1.1 1826 35) ≤ 2147483647 := hrg1.1 1826 13 35 _ .int rfl rfl
    refine h_cv (i := 293) (j := 158) (b := 1826) (M' := mt_158) (xs := []) (rest := []) rfl rfl rfl rfl rfl rfl (Nat.le_of_ble_eq_true rfl) (Nat.le_of_ble_eq_true rfl) (by omega) (m_good (by omega)) ?_
    rintro _ _ ⟨⟨rfl, b3⟩ | ⟨rfl, b3⟩, rfl⟩
    · have b3x : (H1.1 1826 35) = 0 := b3
      refine h_run 0 (pc' := 125) (l' := [(0, .inr (.inr 1826))]) (st' := [.inl 1]) rfl ?_
      refine h_zeq (off := 23) (t := 148) rfl rfl (by decide) (fun c => absurd c (by decide)) (fun _ => ?_)
      refine h_run 2 (pc' := 132) (l' := [(0, .inr (.inr 1826))]) (st' := [.inl (H1.1 1826 31)]) rfl ?_
      have g4 : -2147483648 ≤ (H1.1 1826 31) ∧ (H1.1 1826 31) ≤ 2147483647 := hrg1.1 1826 13 31 _ .int rfl rfl
      refine h_run 1 (pc' := 134) (l' := [(0, .inr (.inr 1826))]) (st' := [.inl 124, .inl (H1.1 1826 31)]) rfl ?_
      refine h_ine (off := 14) (t := 148) rfl rfl (by omega) (by decide) (fun c5 => ?_) (fun c5 => ?_)
      · refine h_ret rfl rfl ?_
        have g6 : -2147483648 ≤ (H1.1 1826 30) ∧ (H1.1 1826 30) ≤ 2147483647 := hrg1.1 1826 13 30 _ .int rfl rfl
        have g7 : -2147483648 ≤ (H1.1 1826 32) ∧ (H1.1 1826 32) ≤ 2147483647 := hrg1.1 1826 13 32 _ .int rfl rfl
        have g8 : -2147483648 ≤ (H1.1 1826 29) ∧ (H1.1 1826 29) ≤ 2147483647 := hrg1.1 1826 13 29 _ .int rfl rfl
        have e9 : (H1.1 1826 29) = (H.1 1826 29) := hf.2.2 29 (by decide)
        have g10 : -2147483648 ≤ (H1.1 1826 1) ∧ (H1.1 1826 1) ≤ 2147483647 := hrg1.1 1826 13 1 _ .int rfl rfl
        have g11 : -2147483648 ≤ (H1.1 1826 3) ∧ (H1.1 1826 3) ≤ 2147483647 := hrg1.1 1826 13 3 _ .int rfl rfl
        have g12 : -2147483648 ≤ (H1.1 1826 8) ∧ (H1.1 1826 8) ≤ 2147483647 := hrg1.1 1826 13 8 _ .int rfl rfl
        have e13 : (H1.1 1826 8) = (H.1 1826 8) := hf.2.2 8 (by decide)
        have g14 : -2147483648 ≤ (H1.1 1826 13) ∧ (H1.1 1826 13) ≤ 2147483647 := hrg1.1 1826 13 13 _ .int rfl rfl
        have e15 : (H1.1 1826 13) = (H.1 1826 13) := hf.2.2 13 (by decide)
        have g16 : -2147483648 ≤ (H1.1 1826 19) ∧ (H1.1 1826 19) ≤ 2147483647 := hrg1.1 1826 13 19 _ .int rfl rfl
        have e17 : (H1.1 1826 19) = (H.1 1826 19) := hf.2.2 19 (by decide)
        exact ⟨rfl, hf, (by omega : (H.1 1826 30) ≤ (H1.1 1826 30) ∧ (H1.1 1826 30) ≤ (H.1 1826 29)), (by omega : 0 ≤ (H1.1 1826 35) ∧ (H1.1 1826 35) ≤ 5), (by omega : (H.1 1826 35) ≠ 0 → (H1.1 1826 35) ≠ 0), (by omega : 0 ≤ (H1.1 1826 32) ∧ (H1.1 1826 32) ≤ 1000), hag, hP1⟩
      · refine h_run 1 (pc' := 138) (l' := [(0, .inr (.inr 1826))]) (st' := [.inr (.inr 1826)]) rfl ?_
        have g18 : -2147483648 ≤ (H1.1 1826 30) ∧ (H1.1 1826 30) ≤ 2147483647 := hrg1.1 1826 13 30 _ .int rfl rfl
        have g19 : -2147483648 ≤ (H1.1 1826 29) ∧ (H1.1 1826 29) ≤ 2147483647 := hrg1.1 1826 13 29 _ .int rfl rfl
        have e20 : (H1.1 1826 29) = (H.1 1826 29) := hf.2.2 29 (by decide)
        have g21 : -2147483648 ≤ (H1.1 1826 32) ∧ (H1.1 1826 32) ≤ 2147483647 := hrg1.1 1826 13 32 _ .int rfl rfl
        refine h_cv (i := 297) (j := 165) (b := 1826) (M' := mt_165) (xs := []) (rest := []) rfl rfl rfl rfl rfl rfl (Nat.le_of_ble_eq_true rfl) (Nat.le_of_ble_eq_true rfl) (by omega) (m_next (by omega) (by omega : 0 ≤ (H1.1 1826 30) ∧ (H1.1 1826 30) ≤ (H1.1 1826 29) ∧ (H1.1 1826 29) ≤ 1000) (by omega : 0 ≤ (H1.1 1826 35) ∧ (H1.1 1826 35) ≤ 5) (by omega : 0 ≤ (H1.1 1826 32) ∧ (H1.1 1826 32) ≤ 1000)) ?_
        rintro _ H22 ⟨rfl, hx22f, hx22a, hx22b, hx22c, -, hx22e, hx22g⟩
        refine h_rng (fun hrg23 => ?_)
        have hf24 : fr [30, 31, 32, 33, 35, 36, 3, 1] [1828, 1829, 1830, 1831, 1827] H H22 := fr_t hf hx22f (by decide) (by decide)
        have ha25 : agp H H22 := agp_tr hag (agp_fr hx22f (by decide) (by decide))
        replace hx22a : (H1.1 1826 30) ≤ (H22.1 1826 30) := hx22a
        replace hx22b : (H22.1 1826 30) ≤ (H1.1 1826 29) := hx22b
        replace hx22g : (H22.1 1826 35) = 0 → ((H22.1 1826 31) = 0 ∨ (H1.1 1826 30) < (H22.1 1826 30)) := hx22g
        refine h_run 0 (pc' := 141) (l' := [(0, .inr (.inr 1826))]) (st' := []) rfl ?_
        refine h_run 1 (pc' := 142) (l' := [(0, .inr (.inr 1826))]) (st' := [.inr (.inr 1826)]) rfl ?_
        have g26 : -2147483648 ≤ (H22.1 1826 30) ∧ (H22.1 1826 30) ≤ 2147483647 := hrg23.1 1826 13 30 _ .int rfl rfl
        have g27 : -2147483648 ≤ (H22.1 1826 29) ∧ (H22.1 1826 29) ≤ 2147483647 := hrg23.1 1826 13 29 _ .int rfl rfl
        have e28 : (H22.1 1826 29) = (H1.1 1826 29) := hx22f.2.2 29 (by decide)
        have g29 : -2147483648 ≤ (H22.1 1826 35) ∧ (H22.1 1826 35) ≤ 2147483647 := hrg23.1 1826 13 35 _ .int rfl rfl
        have g30 : -2147483648 ≤ (H22.1 1826 31) ∧ (H22.1 1826 31) ≤ 2147483647 := hrg23.1 1826 13 31 _ .int rfl rfl
        have g32 : -2147483648 ≤ (H22.1 1826 32) ∧ (H22.1 1826 32) ≤ 2147483647 := hrg23.1 1826 13 32 _ .int rfl rfl
        have g33 : -2147483648 ≤ (H22.1 1826 1) ∧ (H22.1 1826 1) ≤ 2147483647 := hrg23.1 1826 13 1 _ .int rfl rfl
        have e34 : (H22.1 1826 1) = (H1.1 1826 1) := hx22f.2.2 1 (by decide)
        refine h_cv (i := 316) (j := 171) (b := 1826) (M' := mt_171) (xs := []) (rest := []) rfl rfl rfl rfl rfl rfl (Nat.le_of_ble_eq_true rfl) (Nat.le_of_ble_eq_true rfl) (by omega) (m_constructor (by omega) (by omega : 0 ≤ (H22.1 1826 30) ∧ (H22.1 1826 30) ≤ (H22.1 1826 29) ∧ (H22.1 1826 29) ≤ 1000) (by omega : 0 ≤ (H22.1 1826 35) ∧ (H22.1 1826 35) ≤ 5) (by omega : 0 ≤ (H22.1 1826 32) ∧ (H22.1 1826 32) ≤ 1000) (PWc_fr (hP1 (by omega)) hx22f (by decide) (by decide)) (by omega : 1 ≤ (H22.1 1826 1))) ?_
        rintro _ H31 ⟨rfl, hx31f, hx31a, hx31c, hx31d, hx31e, hx31g, hx31p⟩
        refine h_rng (fun hrg35 => ?_)
        have hf36 : fr [30, 31, 32, 33, 35, 36, 3, 1] [1828, 1829, 1830, 1831, 1827] H H31 := fr_t hf24 hx31f (by decide) (by decide)
        have ha37 : agp H H31 := agp_tr ha25 hx31g
        replace hx31a : (H22.1 1826 30) ≤ (H31.1 1826 30) ∧ (H31.1 1826 30) ≤ (H22.1 1826 29) := hx31a
        replace hx31d : (H22.1 1826 35) ≠ 0 → (H31.1 1826 35) ≠ 0 := hx31d
        have hx31t : (H31.1 1826 35) = 0 → (H22.1 1826 31) = 2 := fun q => (hx31p q).1
        replace hx31p : (H31.1 1826 35) = 0 → PWc H31 := fun q => (hx31p q).2
        refine h_run 0 (pc' := 145) (l' := [(0, .inr (.inr 1826))]) (st' := []) rfl ?_
        refine h_run 1 (pc' := 121) (l' := [(0, .inr (.inr 1826))]) (st' := []) rfl ?_
        have g38 : -2147483648 ≤ (H31.1 1826 30) ∧ (H31.1 1826 30) ≤ 2147483647 := hrg35.1 1826 13 30 _ .int rfl rfl
        have g39 : -2147483648 ≤ (H31.1 1826 35) ∧ (H31.1 1826 35) ≤ 2147483647 := hrg35.1 1826 13 35 _ .int rfl rfl
        have g40 : -2147483648 ≤ (H31.1 1826 32) ∧ (H31.1 1826 32) ≤ 2147483647 := hrg35.1 1826 13 32 _ .int rfl rfl
        have g41 : -2147483648 ≤ (H31.1 1826 31) ∧ (H31.1 1826 31) ≤ 2147483647 := hrg35.1 1826 13 31 _ .int rfl rfl
        have g42 : -2147483648 ≤ (H31.1 1826 3) ∧ (H31.1 1826 3) ≤ 2147483647 := hrg35.1 1826 13 3 _ .int rfl rfl
        have g43 : -2147483648 ≤ (H31.1 1826 29) ∧ (H31.1 1826 29) ≤ 2147483647 := hrg35.1 1826 13 29 _ .int rfl rfl
        have e44 : (H31.1 1826 29) = (H22.1 1826 29) := hx31f.2.2 29 (by decide)
        have g45 : -2147483648 ≤ (H31.1 1826 1) ∧ (H31.1 1826 1) ≤ 2147483647 := hrg35.1 1826 13 1 _ .int rfl rfl
        have e46 : (H31.1 1826 1) = (H22.1 1826 1) := hx31f.2.2 1 (by decide)
        exact ih _ hf36 (by omega : (H.1 1826 30) ≤ (H31.1 1826 30) ∧ (H31.1 1826 30) ≤ (H.1 1826 29)) (by omega : 0 ≤ (H31.1 1826 35) ∧ (H31.1 1826 35) ≤ 5) (by omega : 0 ≤ (H31.1 1826 32) ∧ (H31.1 1826 32) ≤ 1000) ha37 (by omega) hx31p (by omega : 1 ≤ (H31.1 1826 1)) (mu_lt hw (by omega) (by omega : (H31.1 1826 35) ≠ 0 ∨ ((H1.1 1826 30) ≤ (H31.1 1826 30) ∧ (H31.1 1826 30) ≤ (H.1 1826 29) ∧ (((H31.1 1826 31) = 0 ∧ (H1.1 1826 31) ≠ 0) ∨ (H1.1 1826 30) < (H31.1 1826 30)))))
    · have b3x : (H1.1 1826 35) ≠ 0 := b3
      refine h_run 0 (pc' := 125) (l' := [(0, .inr (.inr 1826))]) (st' := [.inl 0]) rfl ?_
      refine h_zeq (off := 23) (t := 148) rfl rfl (by decide) (fun _ => ?_) (fun c => absurd c (by decide))
      refine h_ret rfl rfl ?_
      have g47 : -2147483648 ≤ (H1.1 1826 30) ∧ (H1.1 1826 30) ≤ 2147483647 := hrg1.1 1826 13 30 _ .int rfl rfl
      have g48 : -2147483648 ≤ (H1.1 1826 32) ∧ (H1.1 1826 32) ≤ 2147483647 := hrg1.1 1826 13 32 _ .int rfl rfl
      have g49 : -2147483648 ≤ (H1.1 1826 29) ∧ (H1.1 1826 29) ≤ 2147483647 := hrg1.1 1826 13 29 _ .int rfl rfl
      have e50 : (H1.1 1826 29) = (H.1 1826 29) := hf.2.2 29 (by decide)
      have g51 : -2147483648 ≤ (H1.1 1826 1) ∧ (H1.1 1826 1) ≤ 2147483647 := hrg1.1 1826 13 1 _ .int rfl rfl
      have g52 : -2147483648 ≤ (H1.1 1826 3) ∧ (H1.1 1826 3) ≤ 2147483647 := hrg1.1 1826 13 3 _ .int rfl rfl
      have g53 : -2147483648 ≤ (H1.1 1826 8) ∧ (H1.1 1826 8) ≤ 2147483647 := hrg1.1 1826 13 8 _ .int rfl rfl
      have e54 : (H1.1 1826 8) = (H.1 1826 8) := hf.2.2 8 (by decide)
      have g55 : -2147483648 ≤ (H1.1 1826 13) ∧ (H1.1 1826 13) ≤ 2147483647 := hrg1.1 1826 13 13 _ .int rfl rfl
      have e56 : (H1.1 1826 13) = (H.1 1826 13) := hf.2.2 13 (by decide)
      have g57 : -2147483648 ≤ (H1.1 1826 19) ∧ (H1.1 1826 19) ≤ 2147483647 := hrg1.1 1826 13 19 _ .int rfl rfl
      have e58 : (H1.1 1826 19) = (H.1 1826 19) := hf.2.2 19 (by decide)
      exact ⟨rfl, hf, (by omega : (H.1 1826 30) ≤ (H1.1 1826 30) ∧ (H1.1 1826 30) ≤ (H.1 1826 29)), (by omega : 0 ≤ (H1.1 1826 35) ∧ (H1.1 1826 35) ≤ 5), (by omega : (H.1 1826 35) ≠ 0 → (H1.1 1826 35) ≠ 0), (by omega : 0 ≤ (H1.1 1826 32) ∧ (H1.1 1826 32) ≤ 1000), hag, hP1⟩
set_option maxRecDepth 100000 in
theorem m_data {zC : Nat → Option zsh} {d : Nat} (hd : 6 ≤ d) {H : hp}  (h0 : 0 ≤ (H.1 1826 30) ∧ (H.1 1826 30) ≤ (H.1 1826 29) ∧ (H.1 1826 29) ≤ 1000) (hw : 0 ≤ (H.1 1826 35) ∧ (H.1 1826 35) ≤ 5) (hst : 0 ≤ (H.1 1826 32) ∧ (H.1 1826 32) ≤ 1000) (hP : PWc H) (hw0 : (H.1 1826 35) = 0) : hG (zs zC) d mt_170 0 (zargs 0 [.inr (.inr 1826)]) [] H (fun r H2 => r = none ∧ fr [30, 31, 32, 33, 35, 36, 3, 1] [1828, 1829, 1830, 1831, 1827] H H2 ∧ ((H.1 1826 30) ≤ (H2.1 1826 30) ∧ (H2.1 1826 30) ≤ (H.1 1826 29)) ∧ (0 ≤ (H2.1 1826 35) ∧ (H2.1 1826 35) ≤ 5) ∧ ((H.1 1826 35) ≠ 0 → (H2.1 1826 35) ≠ 0) ∧ (0 ≤ (H2.1 1826 32) ∧ (H2.1 1826 32) ≤ 1000) ∧ agp H H2 ∧ ((H2.1 1826 35) = 0 → PWc H2)) := by
  refine h_rng (fun hrg0 => ?_)
  refine h_run 0 (pc' := 0) (l' := [(0, .inr (.inr 1826))]) (st' := []) rfl ?_
  obtain ⟨⟨pb1, pb2, pb3, pb4, pb5⟩, pw1, pw2, pw3, pw4⟩ := (id hP : PW H (H.1 1826 1) (H.1 1826 3) (H.1 1826 8) (H.1 1826 13) (H.1 1826 19))
  refine h_run 1 (pc' := 1) (l' := [(0, .inr (.inr 1826))]) (st' := [.inr (.inr 1826)]) rfl ?_
  have g59 : -2147483648 ≤ (H.1 1826 30) ∧ (H.1 1826 30) ≤ 2147483647 := hrg0.1 1826 13 30 _ .int rfl rfl
  have g60 : -2147483648 ≤ (H.1 1826 29) ∧ (H.1 1826 29) ≤ 2147483647 := hrg0.1 1826 13 29 _ .int rfl rfl
  have g61 : -2147483648 ≤ (H.1 1826 35) ∧ (H.1 1826 35) ≤ 2147483647 := hrg0.1 1826 13 35 _ .int rfl rfl
  have g62 : -2147483648 ≤ (H.1 1826 32) ∧ (H.1 1826 32) ≤ 2147483647 := hrg0.1 1826 13 32 _ .int rfl rfl
  refine h_cv (i := 297) (j := 165) (b := 1826) (M' := mt_165) (xs := []) (rest := []) rfl rfl rfl rfl rfl rfl (Nat.le_of_ble_eq_true rfl) (Nat.le_of_ble_eq_true rfl) (by omega) (m_next (by omega) (by omega : 0 ≤ (H.1 1826 30) ∧ (H.1 1826 30) ≤ (H.1 1826 29) ∧ (H.1 1826 29) ≤ 1000) (by omega : 0 ≤ (H.1 1826 35) ∧ (H.1 1826 35) ≤ 5) (by omega : 0 ≤ (H.1 1826 32) ∧ (H.1 1826 32) ≤ 1000)) ?_
  rintro _ H63 ⟨rfl, hx63f, hx63a, hx63b, hx63c, -, hx63e, hx63g⟩
  refine h_rng (fun hrg64 => ?_)
  have hf65 : fr [30, 31, 32, 33, 35, 36, 3, 1] [1828, 1829, 1830, 1831, 1827] H H63 := fr_t (fr_rf _ _ _) hx63f (by decide) (by decide)
  have ha66 : agp H H63 := agp_tr (agp_rf _) (agp_fr hx63f (by decide) (by decide))
  replace hx63a : (H.1 1826 30) ≤ (H63.1 1826 30) := hx63a
  replace hx63b : (H63.1 1826 30) ≤ (H.1 1826 29) := hx63b
  replace hx63g : (H63.1 1826 35) = 0 → ((H63.1 1826 31) = 0 ∨ (H.1 1826 30) < (H63.1 1826 30)) := hx63g
  refine h_run 0 (pc' := 4) (l' := [(0, .inr (.inr 1826))]) (st' := []) rfl ?_
  refine h_run 1 (pc' := 5) (l' := [(0, .inr (.inr 1826))]) (st' := [.inr (.inr 1826)]) rfl ?_
  have g67 : -2147483648 ≤ (H63.1 1826 35) ∧ (H63.1 1826 35) ≤ 2147483647 := hrg64.1 1826 13 35 _ .int rfl rfl
  refine h_cv (i := 293) (j := 158) (b := 1826) (M' := mt_158) (xs := []) (rest := []) rfl rfl rfl rfl rfl rfl (Nat.le_of_ble_eq_true rfl) (Nat.le_of_ble_eq_true rfl) (by omega) (m_good (by omega)) ?_
  rintro _ _ ⟨⟨rfl, b68⟩ | ⟨rfl, b68⟩, rfl⟩
  · have b68x : (H63.1 1826 35) = 0 := b68
    replace hx63g := hx63g b68x
    refine h_run 0 (pc' := 8) (l' := [(0, .inr (.inr 1826))]) (st' := [.inl 1]) rfl ?_
    refine h_zeq (off := 16) (t := 24) rfl rfl (by decide) (fun c => absurd c (by decide)) (fun _ => ?_)
    refine h_run 2 (pc' := 15) (l' := [(0, .inr (.inr 1826))]) (st' := [.inl (H63.1 1826 31)]) rfl ?_
    have g69 : -2147483648 ≤ (H63.1 1826 31) ∧ (H63.1 1826 31) ≤ 2147483647 := hrg64.1 1826 13 31 _ .int rfl rfl
    refine h_run 1 (pc' := 16) (l' := [(0, .inr (.inr 1826))]) (st' := [.inl 2, .inl (H63.1 1826 31)]) rfl ?_
    refine h_ieq (off := 8) (t := 24) rfl rfl (by omega) (by decide) (fun c70 => ?_) (fun c70 => ?_)
    · refine h_run 1 (pc' := 25) (l' := [(0, .inr (.inr 1826))]) (st' := [.inr (.inr 1826)]) rfl ?_
      refine h_cv (i := 293) (j := 158) (b := 1826) (M' := mt_158) (xs := []) (rest := []) rfl rfl rfl rfl rfl rfl (Nat.le_of_ble_eq_true rfl) (Nat.le_of_ble_eq_true rfl) (by omega) (m_good1 (by omega) (by omega : (H63.1 1826 35) = 0)) ?_
      rintro _ _ ⟨rfl, rfl⟩
      refine h_run 0 (pc' := 28) (l' := [(0, .inr (.inr 1826))]) (st' := [.inl 1]) rfl ?_
      refine h_zeq (off := 27) (t := 55) rfl rfl (by decide) (fun c => absurd c (by decide)) (fun _ => ?_)
      refine h_run 4 (pc' := 39) (l' := [(0, .inr (.inr 1826))]) (st' := [.inl (H63.1 1826 1), .inr (.inr 1827)]) rfl ?_
      have g71 : -2147483648 ≤ (H63.1 1826 1) ∧ (H63.1 1826 1) ≤ 2147483647 := hrg64.1 1826 13 1 _ .int rfl rfl
      have e72 : (H63.1 1826 1) = (H.1 1826 1) := hx63f.2.2 1 (by decide)
      refine h_run 2 (pc' := 43) (l' := [(0, .inr (.inr 1826))]) (st' := [.inr (.inl (H63.1 1826 33)), .inl (H63.1 1826 1), .inr (.inr 1827)]) rfl ?_
      have g73 : -9223372036854775808 ≤ (H63.1 1826 33) ∧ (H63.1 1826 33) ≤ 9223372036854775807 := hrg64.1 1826 13 33 _ .long rfl rfl
      refine h_cs (i := 309) (j := 167) (M' := mt_167) (xs := [.inr (.inl (H63.1 1826 33)), .inl (H63.1 1826 1), .inr (.inr 1827)]) (rest := []) rfl rfl rfl rfl rfl (Nat.le_of_ble_eq_true rfl) (Nat.le_of_ble_eq_true rfl) (by omega) (m_find (by omega) (m := 6) rfl (by omega : 0 ≤ (H63.1 1826 1) ∧ (H63.1 1826 1) ≤ ((6 : Nat) : Int) ∧ 6 ≤ 100) (by omega)) ?_
      rintro _ _ ⟨⟨k74, rfl, f75, f75x⟩ | ⟨rfl, f75⟩, rfl⟩
      · refine h_run 0 (pc' := 46) (l' := [(0, .inr (.inr 1826))]) (st' := [.inl (k74 : Int)]) rfl ?_
        refine h_run 1 (pc' := 47) (l' := [(0, .inr (.inr 1826))]) (st' := [.inl (-1), .inl (k74 : Int)]) rfl ?_
        refine h_ieq (off := 8) (t := 55) rfl rfl (by omega) (by decide) (fun c76 => ?_) (fun c76 => ?_)
        · refine h_run 1 (pc' := 56) (l' := [(0, .inr (.inr 1826))]) (st' := [.inr (.inr 1826)]) rfl ?_
          refine h_cv (i := 293) (j := 158) (b := 1826) (M' := mt_158) (xs := []) (rest := []) rfl rfl rfl rfl rfl rfl (Nat.le_of_ble_eq_true rfl) (Nat.le_of_ble_eq_true rfl) (by omega) (m_good1 (by omega) (by omega : (H63.1 1826 35) = 0)) ?_
          rintro _ _ ⟨rfl, rfl⟩
          refine h_run 0 (pc' := 59) (l' := [(0, .inr (.inr 1826))]) (st' := [.inl 1]) rfl ?_
          refine h_zeq (off := 17) (t := 76) rfl rfl (by decide) (fun c => absurd c (by decide)) (fun _ => ?_)
          refine h_run 2 (pc' := 66) (l' := [(0, .inr (.inr 1826))]) (st' := [.inl (H63.1 1826 1)]) rfl ?_
          refine h_run 1 (pc' := 68) (l' := [(0, .inr (.inr 1826))]) (st' := [.inl 6, .inl (H63.1 1826 1)]) rfl ?_
          refine h_ine (off := 8) (t := 76) rfl rfl (by omega) (by decide) (fun c77 => ?_) (fun c77 => ?_)
          · refine h_run 1 (pc' := 77) (l' := [(0, .inr (.inr 1826))]) (st' := [.inr (.inr 1826)]) rfl ?_
            refine h_cv (i := 293) (j := 158) (b := 1826) (M' := mt_158) (xs := []) (rest := []) rfl rfl rfl rfl rfl rfl (Nat.le_of_ble_eq_true rfl) (Nat.le_of_ble_eq_true rfl) (by omega) (m_good1 (by omega) (by omega : (H63.1 1826 35) = 0)) ?_
            rintro _ _ ⟨rfl, rfl⟩
            refine h_run 0 (pc' := 80) (l' := [(0, .inr (.inr 1826))]) (st' := [.inl 1]) rfl ?_
            refine h_zne (off := 4) (t := 84) rfl rfl (by decide) (fun _ => ?_) (fun c => absurd c (by decide))
            refine h_run 4 (pc' := 92) (l' := [(0, .inr (.inr 1826))]) (st' := [.inl (H63.1 1826 1), .inr (.inr 1827)]) rfl ?_
            refine h_run 2 (pc' := 96) (l' := [(0, .inr (.inr 1826))]) (st' := [.inr (.inl (H63.1 1826 33)), .inl (H63.1 1826 1), .inr (.inr 1827)]) rfl ?_
            refine h_lst (c := 1827) (j := ((H63.1 1826 1)).toNat) (i := (H63.1 1826 1)) (x := (H63.1 1826 33)) rfl rfl (by decide) (by decide) (by omega) (by omega) (by first | omega | exact z_long _) ?_
            refine h_run 3 (pc' := 102) (l' := [(0, .inr (.inr 1826))]) (st' := [.inl (H63.1 1826 1), .inr (.inr 1826)]) rfl ?_
            refine h_run 2 (pc' := 104) (l' := [(0, .inr (.inr 1826))]) (st' := [.inl ((H63.1 1826 1) + 1), .inr (.inr 1826)]) rfl ?_
            refine h_puti (i := 306) (ci := 13) (k := 1) (a := 1826) (x := ((H63.1 1826 1) + 1)) rfl rfl rfl rfl rfl rfl (by decide) (by omega) ?_
            refine h_run 1 (pc' := 108) (l' := [(0, .inr (.inr 1826))]) (st' := [.inr (.inr 1826)]) rfl ?_
            have g78 : -2147483648 ≤ (H63.1 1826 30) ∧ (H63.1 1826 30) ≤ 2147483647 := hrg64.1 1826 13 30 _ .int rfl rfl
            have g79 : -2147483648 ≤ (H63.1 1826 29) ∧ (H63.1 1826 29) ≤ 2147483647 := hrg64.1 1826 13 29 _ .int rfl rfl
            have e80 : (H63.1 1826 29) = (H.1 1826 29) := hx63f.2.2 29 (by decide)
            have g81 : -2147483648 ≤ (H63.1 1826 32) ∧ (H63.1 1826 32) ≤ 2147483647 := hrg64.1 1826 13 32 _ .int rfl rfl
            refine h_cv (i := 297) (j := 165) (b := 1826) (M' := mt_165) (xs := []) (rest := []) rfl rfl rfl rfl rfl rfl (Nat.le_of_ble_eq_true rfl) (Nat.le_of_ble_eq_true rfl) (by omega) (m_next (by omega) (by omega : 0 ≤ (H63.1 1826 30) ∧ (H63.1 1826 30) ≤ (H63.1 1826 29) ∧ (H63.1 1826 29) ≤ 1000) (by omega : 0 ≤ (H63.1 1826 35) ∧ (H63.1 1826 35) ≤ 5) (by omega : 0 ≤ (H63.1 1826 32) ∧ (H63.1 1826 32) ≤ 1000)) ?_
            rintro _ H82 ⟨rfl, hx82f, hx82a, hx82b, hx82c, -, hx82e, hx82g⟩
            refine h_rng (fun hrg83 => ?_)
            have hf84 : fr [30, 31, 32, 33, 35, 36, 3, 1] [1828, 1829, 1830, 1831, 1827] H H82 := fr_t (fr_o (fr_a hf65 (by decide)) (by decide)) hx82f (by decide) (by decide)
            have ha85 : agp H H82 := agp_tr (agp_n1 (agp_a ha66 (by decide)) (by omega : (H.1 1826 1) ≤ ((H63.1 1826 1) + 1))) (agp_fr hx82f (by decide) (by decide))
            replace hx82a : (H63.1 1826 30) ≤ (H82.1 1826 30) := hx82a
            replace hx82b : (H82.1 1826 30) ≤ (H63.1 1826 29) := hx82b
            replace hx82g : (H82.1 1826 35) = 0 → ((H82.1 1826 31) = 0 ∨ (H63.1 1826 30) < (H82.1 1826 30)) := hx82g
            refine h_run 0 (pc' := 111) (l' := [(0, .inr (.inr 1826))]) (st' := []) rfl ?_
            refine h_run 2 (pc' := 114) (l' := [(0, .inr (.inr 1826))]) (st' := [.inl 61, .inr (.inr 1826)]) rfl ?_
            have g86 : -2147483648 ≤ (H82.1 1826 30) ∧ (H82.1 1826 30) ≤ 2147483647 := hrg83.1 1826 13 30 _ .int rfl rfl
            have g87 : -2147483648 ≤ (H82.1 1826 29) ∧ (H82.1 1826 29) ≤ 2147483647 := hrg83.1 1826 13 29 _ .int rfl rfl
            have e88 : (H82.1 1826 29) = (H63.1 1826 29) := hx82f.2.2 29 (by decide)
            have g89 : -2147483648 ≤ (H82.1 1826 35) ∧ (H82.1 1826 35) ≤ 2147483647 := hrg83.1 1826 13 35 _ .int rfl rfl
            have g90 : -2147483648 ≤ (H82.1 1826 31) ∧ (H82.1 1826 31) ≤ 2147483647 := hrg83.1 1826 13 31 _ .int rfl rfl
            have g92 : -2147483648 ≤ (H82.1 1826 32) ∧ (H82.1 1826 32) ≤ 2147483647 := hrg83.1 1826 13 32 _ .int rfl rfl
            refine h_cv (i := 313) (j := 166) (b := 1826) (M' := mt_166) (xs := [.inl 61]) (rest := []) rfl rfl rfl rfl rfl rfl (Nat.le_of_ble_eq_true rfl) (Nat.le_of_ble_eq_true rfl) (by omega) (m_want (by omega) (by omega : 0 ≤ (H82.1 1826 30) ∧ (H82.1 1826 30) ≤ (H82.1 1826 29) ∧ (H82.1 1826 29) ≤ 1000) (by omega : 0 ≤ (H82.1 1826 35) ∧ (H82.1 1826 35) ≤ 5) (by omega : 0 ≤ (H82.1 1826 32) ∧ (H82.1 1826 32) ≤ 1000) (by omega)) ?_
            rintro _ H91 ⟨rfl, hx91f, hx91a, hx91b, hx91c, hx91d, hx91e, hx91g⟩
            refine h_rng (fun hrg93 => ?_)
            have hf94 : fr [30, 31, 32, 33, 35, 36, 3, 1] [1828, 1829, 1830, 1831, 1827] H H91 := fr_t hf84 hx91f (by decide) (by decide)
            have ha95 : agp H H91 := agp_tr ha85 (agp_fr hx91f (by decide) (by decide))
            replace hx91a : (H82.1 1826 30) ≤ (H91.1 1826 30) := hx91a
            replace hx91b : (H91.1 1826 30) ≤ (H82.1 1826 29) := hx91b
            replace hx91d : (H82.1 1826 35) ≠ 0 → (H91.1 1826 35) = (H82.1 1826 35) := hx91d
            replace hx91g : (H91.1 1826 35) = 0 → (H82.1 1826 31) = (61 : Int) ∧ ((H91.1 1826 31) = 0 ∨ (H82.1 1826 30) < (H91.1 1826 30)) := hx91g
            refine h_run 0 (pc' := 117) (l' := [(0, .inr (.inr 1826))]) (st' := []) rfl ?_
            refine h_run 1 (pc' := 118) (l' := [(0, .inr (.inr 1826))]) (st' := [.inr (.inr 1826)]) rfl ?_
            have g96 : -2147483648 ≤ (H91.1 1826 30) ∧ (H91.1 1826 30) ≤ 2147483647 := hrg93.1 1826 13 30 _ .int rfl rfl
            have g97 : -2147483648 ≤ (H91.1 1826 29) ∧ (H91.1 1826 29) ≤ 2147483647 := hrg93.1 1826 13 29 _ .int rfl rfl
            have e98 : (H91.1 1826 29) = (H82.1 1826 29) := hx91f.2.2 29 (by decide)
            have g99 : -2147483648 ≤ (H91.1 1826 35) ∧ (H91.1 1826 35) ≤ 2147483647 := hrg93.1 1826 13 35 _ .int rfl rfl
            have g100 : -2147483648 ≤ (H91.1 1826 31) ∧ (H91.1 1826 31) ≤ 2147483647 := hrg93.1 1826 13 31 _ .int rfl rfl
            have g102 : -2147483648 ≤ (H91.1 1826 1) ∧ (H91.1 1826 1) ≤ 2147483647 := hrg93.1 1826 13 1 _ .int rfl rfl
            have e103 : (H91.1 1826 1) = (H82.1 1826 1) := hx91f.2.2 1 (by decide)
            have e104 : (H82.1 1826 1) = ((H63.1 1826 1) + 1) := hx82f.2.2 1 (by decide)
            have g105 : -2147483648 ≤ (H91.1 1826 3) ∧ (H91.1 1826 3) ≤ 2147483647 := hrg93.1 1826 13 3 _ .int rfl rfl
            have e106 : (H91.1 1826 3) = (H82.1 1826 3) := hx91f.2.2 3 (by decide)
            have e107 : (H82.1 1826 3) = (H63.1 1826 3) := hx82f.2.2 3 (by decide)
            have e108 : (H63.1 1826 3) = (H.1 1826 3) := hx63f.2.2 3 (by decide)
            have g109 : -2147483648 ≤ (H91.1 1826 8) ∧ (H91.1 1826 8) ≤ 2147483647 := hrg93.1 1826 13 8 _ .int rfl rfl
            have e110 : (H91.1 1826 8) = (H82.1 1826 8) := hx91f.2.2 8 (by decide)
            have e111 : (H82.1 1826 8) = (H63.1 1826 8) := hx82f.2.2 8 (by decide)
            have e112 : (H63.1 1826 8) = (H.1 1826 8) := hx63f.2.2 8 (by decide)
            have g113 : -2147483648 ≤ (H91.1 1826 13) ∧ (H91.1 1826 13) ≤ 2147483647 := hrg93.1 1826 13 13 _ .int rfl rfl
            have e114 : (H91.1 1826 13) = (H82.1 1826 13) := hx91f.2.2 13 (by decide)
            have e115 : (H82.1 1826 13) = (H63.1 1826 13) := hx82f.2.2 13 (by decide)
            have e116 : (H63.1 1826 13) = (H.1 1826 13) := hx63f.2.2 13 (by decide)
            have g117 : -2147483648 ≤ (H91.1 1826 19) ∧ (H91.1 1826 19) ≤ 2147483647 := hrg93.1 1826 13 19 _ .int rfl rfl
            have e118 : (H91.1 1826 19) = (H82.1 1826 19) := hx91f.2.2 19 (by decide)
            have e119 : (H82.1 1826 19) = (H63.1 1826 19) := hx82f.2.2 19 (by decide)
            have e120 : (H63.1 1826 19) = (H.1 1826 19) := hx63f.2.2 19 (by decide)
            have g121 : -2147483648 ≤ (H91.1 1826 32) ∧ (H91.1 1826 32) ≤ 2147483647 := hrg93.1 1826 13 32 _ .int rfl rfl
            refine h_cv (i := 316) (j := 171) (b := 1826) (M' := mt_171) (xs := []) (rest := []) rfl rfl rfl rfl rfl rfl (Nat.le_of_ble_eq_true rfl) (Nat.le_of_ble_eq_true rfl) (by omega) (m_constructor (by omega) (by omega : 0 ≤ (H91.1 1826 30) ∧ (H91.1 1826 30) ≤ (H91.1 1826 29) ∧ (H91.1 1826 29) ≤ 1000) (by omega : 0 ≤ (H91.1 1826 35) ∧ (H91.1 1826 35) ≤ 5) (by omega : 0 ≤ (H91.1 1826 32) ∧ (H91.1 1826 32) ≤ 1000) (PW_more hP ha95 ⟨(by omega : (H91.1 1826 1) ≤ 6), (by omega : (H91.1 1826 3) ≤ 16), (by omega : (H91.1 1826 8) ≤ 16)⟩ (m_con_agp pw1 ha95 (by omega : (H91.1 1826 3) = (H.1 1826 3))) (m_fun_agp pw2 ha95 (by omega : (H91.1 1826 8) = (H.1 1826 8))) (by omega : (H91.1 1826 13) = (H.1 1826 13)) (by omega : (H91.1 1826 19) = (H.1 1826 19))) (by omega : 1 ≤ (H91.1 1826 1))) ?_
            rintro _ H101 ⟨rfl, hx101f, hx101a, hx101c, hx101d, hx101e, hx101g, hx101p⟩
            refine h_rng (fun hrg122 => ?_)
            have hf123 : fr [30, 31, 32, 33, 35, 36, 3, 1] [1828, 1829, 1830, 1831, 1827] H H101 := fr_t hf94 hx101f (by decide) (by decide)
            have ha124 : agp H H101 := agp_tr ha95 hx101g
            replace hx101a : (H91.1 1826 30) ≤ (H101.1 1826 30) ∧ (H101.1 1826 30) ≤ (H91.1 1826 29) := hx101a
            replace hx101d : (H91.1 1826 35) ≠ 0 → (H101.1 1826 35) ≠ 0 := hx101d
            have hx101t : (H101.1 1826 35) = 0 → (H91.1 1826 31) = 2 := fun q => (hx101p q).1
            replace hx101p : (H101.1 1826 35) = 0 → PWc H101 := fun q => (hx101p q).2
            refine h_run 0 (pc' := 121) (l' := [(0, .inr (.inr 1826))]) (st' := []) rfl ?_
            have g125 : -2147483648 ≤ (H101.1 1826 30) ∧ (H101.1 1826 30) ≤ 2147483647 := hrg122.1 1826 13 30 _ .int rfl rfl
            have g126 : -2147483648 ≤ (H101.1 1826 35) ∧ (H101.1 1826 35) ≤ 2147483647 := hrg122.1 1826 13 35 _ .int rfl rfl
            have g127 : -2147483648 ≤ (H101.1 1826 32) ∧ (H101.1 1826 32) ≤ 2147483647 := hrg122.1 1826 13 32 _ .int rfl rfl
            have g128 : -2147483648 ≤ (H101.1 1826 31) ∧ (H101.1 1826 31) ≤ 2147483647 := hrg122.1 1826 13 31 _ .int rfl rfl
            have g129 : -2147483648 ≤ (H101.1 1826 3) ∧ (H101.1 1826 3) ≤ 2147483647 := hrg122.1 1826 13 3 _ .int rfl rfl
            have g130 : -2147483648 ≤ (H101.1 1826 29) ∧ (H101.1 1826 29) ≤ 2147483647 := hrg122.1 1826 13 29 _ .int rfl rfl
            have e131 : (H101.1 1826 29) = (H91.1 1826 29) := hx101f.2.2 29 (by decide)
            have g132 : -2147483648 ≤ (H101.1 1826 1) ∧ (H101.1 1826 1) ≤ 2147483647 := hrg122.1 1826 13 1 _ .int rfl rfl
            have e133 : (H101.1 1826 1) = (H91.1 1826 1) := hx101f.2.2 1 (by decide)
            exact (m_data_cut hd h0 hw hst hP hw0 _) _ hf123 (by omega : (H.1 1826 30) ≤ (H101.1 1826 30) ∧ (H101.1 1826 30) ≤ (H.1 1826 29)) (by omega : 0 ≤ (H101.1 1826 35) ∧ (H101.1 1826 35) ≤ 5) (by omega : 0 ≤ (H101.1 1826 32) ∧ (H101.1 1826 32) ≤ 1000) ha124 (by omega) hx101p (by omega : 1 ≤ (H101.1 1826 1)) (Nat.lt_succ_self _)
          · refine h_run 2 (pc' := 73) (l' := [(0, .inr (.inr 1826))]) (st' := [.inl 5, .inr (.inr 1826)]) rfl ?_
            refine h_cv (i := 278) (j := 159) (b := 1826) (M' := mt_159) (xs := [.inl 5]) (rest := []) rfl rfl rfl rfl rfl rfl (Nat.le_of_ble_eq_true rfl) (Nat.le_of_ble_eq_true rfl) (by omega) (m_bad0 (by omega) (by omega) (by omega : (H63.1 1826 35) = 0)) ?_
            rintro _ _ ⟨rfl, rfl⟩
            refine h_run 0 (pc' := 76) (l' := [(0, .inr (.inr 1826))]) (st' := []) rfl ?_
            refine h_run 1 (pc' := 77) (l' := [(0, .inr (.inr 1826))]) (st' := [.inr (.inr 1826)]) rfl ?_
            refine h_cv (i := 293) (j := 158) (b := 1826) (M' := mt_158) (xs := []) (rest := []) rfl rfl rfl rfl rfl rfl (Nat.le_of_ble_eq_true rfl) (Nat.le_of_ble_eq_true rfl) (by omega) (m_good0 (by omega) (by omega : (5 : Int) ≠ 0)) ?_
            rintro _ _ ⟨rfl, rfl⟩
            refine h_run 0 (pc' := 80) (l' := [(0, .inr (.inr 1826))]) (st' := [.inl 0]) rfl ?_
            refine h_zne (off := 4) (t := 84) rfl rfl (by decide) (fun c => absurd c (by decide)) (fun _ => ?_)
            refine h_ret rfl rfl ?_
            have g134 : -2147483648 ≤ (H63.1 1826 30) ∧ (H63.1 1826 30) ≤ 2147483647 := hrg64.1 1826 13 30 _ .int rfl rfl
            have g135 : -2147483648 ≤ (H63.1 1826 32) ∧ (H63.1 1826 32) ≤ 2147483647 := hrg64.1 1826 13 32 _ .int rfl rfl
            have g136 : -2147483648 ≤ (H63.1 1826 29) ∧ (H63.1 1826 29) ≤ 2147483647 := hrg64.1 1826 13 29 _ .int rfl rfl
            have e137 : (H63.1 1826 29) = (H.1 1826 29) := hx63f.2.2 29 (by decide)
            have g138 : -2147483648 ≤ (H63.1 1826 3) ∧ (H63.1 1826 3) ≤ 2147483647 := hrg64.1 1826 13 3 _ .int rfl rfl
            have e139 : (H63.1 1826 3) = (H.1 1826 3) := hx63f.2.2 3 (by decide)
            have g140 : -2147483648 ≤ (H63.1 1826 8) ∧ (H63.1 1826 8) ≤ 2147483647 := hrg64.1 1826 13 8 _ .int rfl rfl
            have e141 : (H63.1 1826 8) = (H.1 1826 8) := hx63f.2.2 8 (by decide)
            have g142 : -2147483648 ≤ (H63.1 1826 13) ∧ (H63.1 1826 13) ≤ 2147483647 := hrg64.1 1826 13 13 _ .int rfl rfl
            have e143 : (H63.1 1826 13) = (H.1 1826 13) := hx63f.2.2 13 (by decide)
            have g144 : -2147483648 ≤ (H63.1 1826 19) ∧ (H63.1 1826 19) ≤ 2147483647 := hrg64.1 1826 13 19 _ .int rfl rfl
            have e145 : (H63.1 1826 19) = (H.1 1826 19) := hx63f.2.2 19 (by decide)
            exact ⟨rfl, (fr_o (fr_o hf65 (by decide)) (by decide)), (by omega : (H.1 1826 30) ≤ (H63.1 1826 30) ∧ (H63.1 1826 30) ≤ (H.1 1826 29)), (by omega : 0 ≤ (5 : Int) ∧ (5 : Int) ≤ 5), (by omega : (H.1 1826 35) ≠ 0 → (5 : Int) ≠ 0), (by omega : 0 ≤ (H63.1 1826 32) ∧ (H63.1 1826 32) ≤ 1000), (agp_o (agp_o ha66 (by decide)) (by decide)), (fun (q : (5 : Int) = 0) => absurd q (by omega))⟩
        · refine h_run 2 (pc' := 52) (l' := [(0, .inr (.inr 1826))]) (st' := [.inl 3, .inr (.inr 1826)]) rfl ?_
          refine h_cv (i := 278) (j := 159) (b := 1826) (M' := mt_159) (xs := [.inl 3]) (rest := []) rfl rfl rfl rfl rfl rfl (Nat.le_of_ble_eq_true rfl) (Nat.le_of_ble_eq_true rfl) (by omega) (m_bad0 (by omega) (by omega) (by omega : (H63.1 1826 35) = 0)) ?_
          rintro _ _ ⟨rfl, rfl⟩
          refine h_run 0 (pc' := 55) (l' := [(0, .inr (.inr 1826))]) (st' := []) rfl ?_
          refine h_run 1 (pc' := 56) (l' := [(0, .inr (.inr 1826))]) (st' := [.inr (.inr 1826)]) rfl ?_
          refine h_cv (i := 293) (j := 158) (b := 1826) (M' := mt_158) (xs := []) (rest := []) rfl rfl rfl rfl rfl rfl (Nat.le_of_ble_eq_true rfl) (Nat.le_of_ble_eq_true rfl) (by omega) (m_good0 (by omega) (by omega : (3 : Int) ≠ 0)) ?_
          rintro _ _ ⟨rfl, rfl⟩
          refine h_run 0 (pc' := 59) (l' := [(0, .inr (.inr 1826))]) (st' := [.inl 0]) rfl ?_
          refine h_zeq (off := 17) (t := 76) rfl rfl (by decide) (fun _ => ?_) (fun c => absurd c (by decide))
          refine h_run 1 (pc' := 77) (l' := [(0, .inr (.inr 1826))]) (st' := [.inr (.inr 1826)]) rfl ?_
          refine h_cv (i := 293) (j := 158) (b := 1826) (M' := mt_158) (xs := []) (rest := []) rfl rfl rfl rfl rfl rfl (Nat.le_of_ble_eq_true rfl) (Nat.le_of_ble_eq_true rfl) (by omega) (m_good0 (by omega) (by omega : (3 : Int) ≠ 0)) ?_
          rintro _ _ ⟨rfl, rfl⟩
          refine h_run 0 (pc' := 80) (l' := [(0, .inr (.inr 1826))]) (st' := [.inl 0]) rfl ?_
          refine h_zne (off := 4) (t := 84) rfl rfl (by decide) (fun c => absurd c (by decide)) (fun _ => ?_)
          refine h_ret rfl rfl ?_
          have g146 : -2147483648 ≤ (H63.1 1826 30) ∧ (H63.1 1826 30) ≤ 2147483647 := hrg64.1 1826 13 30 _ .int rfl rfl
          have g147 : -2147483648 ≤ (H63.1 1826 32) ∧ (H63.1 1826 32) ≤ 2147483647 := hrg64.1 1826 13 32 _ .int rfl rfl
          have g148 : -2147483648 ≤ (H63.1 1826 29) ∧ (H63.1 1826 29) ≤ 2147483647 := hrg64.1 1826 13 29 _ .int rfl rfl
          have e149 : (H63.1 1826 29) = (H.1 1826 29) := hx63f.2.2 29 (by decide)
          have g150 : -2147483648 ≤ (H63.1 1826 3) ∧ (H63.1 1826 3) ≤ 2147483647 := hrg64.1 1826 13 3 _ .int rfl rfl
          have e151 : (H63.1 1826 3) = (H.1 1826 3) := hx63f.2.2 3 (by decide)
          have g152 : -2147483648 ≤ (H63.1 1826 8) ∧ (H63.1 1826 8) ≤ 2147483647 := hrg64.1 1826 13 8 _ .int rfl rfl
          have e153 : (H63.1 1826 8) = (H.1 1826 8) := hx63f.2.2 8 (by decide)
          have g154 : -2147483648 ≤ (H63.1 1826 13) ∧ (H63.1 1826 13) ≤ 2147483647 := hrg64.1 1826 13 13 _ .int rfl rfl
          have e155 : (H63.1 1826 13) = (H.1 1826 13) := hx63f.2.2 13 (by decide)
          have g156 : -2147483648 ≤ (H63.1 1826 19) ∧ (H63.1 1826 19) ≤ 2147483647 := hrg64.1 1826 13 19 _ .int rfl rfl
          have e157 : (H63.1 1826 19) = (H.1 1826 19) := hx63f.2.2 19 (by decide)
          exact ⟨rfl, (fr_o (fr_o hf65 (by decide)) (by decide)), (by omega : (H.1 1826 30) ≤ (H63.1 1826 30) ∧ (H63.1 1826 30) ≤ (H.1 1826 29)), (by omega : 0 ≤ (3 : Int) ∧ (3 : Int) ≤ 5), (by omega : (H.1 1826 35) ≠ 0 → (3 : Int) ≠ 0), (by omega : 0 ≤ (H63.1 1826 32) ∧ (H63.1 1826 32) ≤ 1000), (agp_o (agp_o ha66 (by decide)) (by decide)), (fun (q : (3 : Int) = 0) => absurd q (by omega))⟩
      · refine h_run 0 (pc' := 46) (l' := [(0, .inr (.inr 1826))]) (st' := [.inl (-1)]) rfl ?_
        refine h_run 1 (pc' := 47) (l' := [(0, .inr (.inr 1826))]) (st' := [.inl (-1), .inl (-1)]) rfl ?_
        refine h_ieq (off := 8) (t := 55) rfl rfl (by decide) (by decide) (fun _ => ?_) (fun c => absurd c (by decide))
        refine h_run 1 (pc' := 56) (l' := [(0, .inr (.inr 1826))]) (st' := [.inr (.inr 1826)]) rfl ?_
        refine h_cv (i := 293) (j := 158) (b := 1826) (M' := mt_158) (xs := []) (rest := []) rfl rfl rfl rfl rfl rfl (Nat.le_of_ble_eq_true rfl) (Nat.le_of_ble_eq_true rfl) (by omega) (m_good1 (by omega) (by omega : (H63.1 1826 35) = 0)) ?_
        rintro _ _ ⟨rfl, rfl⟩
        refine h_run 0 (pc' := 59) (l' := [(0, .inr (.inr 1826))]) (st' := [.inl 1]) rfl ?_
        refine h_zeq (off := 17) (t := 76) rfl rfl (by decide) (fun c => absurd c (by decide)) (fun _ => ?_)
        refine h_run 2 (pc' := 66) (l' := [(0, .inr (.inr 1826))]) (st' := [.inl (H63.1 1826 1)]) rfl ?_
        refine h_run 1 (pc' := 68) (l' := [(0, .inr (.inr 1826))]) (st' := [.inl 6, .inl (H63.1 1826 1)]) rfl ?_
        refine h_ine (off := 8) (t := 76) rfl rfl (by omega) (by decide) (fun c158 => ?_) (fun c158 => ?_)
        · refine h_run 1 (pc' := 77) (l' := [(0, .inr (.inr 1826))]) (st' := [.inr (.inr 1826)]) rfl ?_
          refine h_cv (i := 293) (j := 158) (b := 1826) (M' := mt_158) (xs := []) (rest := []) rfl rfl rfl rfl rfl rfl (Nat.le_of_ble_eq_true rfl) (Nat.le_of_ble_eq_true rfl) (by omega) (m_good1 (by omega) (by omega : (H63.1 1826 35) = 0)) ?_
          rintro _ _ ⟨rfl, rfl⟩
          refine h_run 0 (pc' := 80) (l' := [(0, .inr (.inr 1826))]) (st' := [.inl 1]) rfl ?_
          refine h_zne (off := 4) (t := 84) rfl rfl (by decide) (fun _ => ?_) (fun c => absurd c (by decide))
          refine h_run 4 (pc' := 92) (l' := [(0, .inr (.inr 1826))]) (st' := [.inl (H63.1 1826 1), .inr (.inr 1827)]) rfl ?_
          refine h_run 2 (pc' := 96) (l' := [(0, .inr (.inr 1826))]) (st' := [.inr (.inl (H63.1 1826 33)), .inl (H63.1 1826 1), .inr (.inr 1827)]) rfl ?_
          refine h_lst (c := 1827) (j := ((H63.1 1826 1)).toNat) (i := (H63.1 1826 1)) (x := (H63.1 1826 33)) rfl rfl (by decide) (by decide) (by omega) (by omega) (by first | omega | exact z_long _) ?_
          refine h_run 3 (pc' := 102) (l' := [(0, .inr (.inr 1826))]) (st' := [.inl (H63.1 1826 1), .inr (.inr 1826)]) rfl ?_
          refine h_run 2 (pc' := 104) (l' := [(0, .inr (.inr 1826))]) (st' := [.inl ((H63.1 1826 1) + 1), .inr (.inr 1826)]) rfl ?_
          refine h_puti (i := 306) (ci := 13) (k := 1) (a := 1826) (x := ((H63.1 1826 1) + 1)) rfl rfl rfl rfl rfl rfl (by decide) (by omega) ?_
          refine h_run 1 (pc' := 108) (l' := [(0, .inr (.inr 1826))]) (st' := [.inr (.inr 1826)]) rfl ?_
          have g159 : -2147483648 ≤ (H63.1 1826 30) ∧ (H63.1 1826 30) ≤ 2147483647 := hrg64.1 1826 13 30 _ .int rfl rfl
          have g160 : -2147483648 ≤ (H63.1 1826 29) ∧ (H63.1 1826 29) ≤ 2147483647 := hrg64.1 1826 13 29 _ .int rfl rfl
          have e161 : (H63.1 1826 29) = (H.1 1826 29) := hx63f.2.2 29 (by decide)
          have g162 : -2147483648 ≤ (H63.1 1826 32) ∧ (H63.1 1826 32) ≤ 2147483647 := hrg64.1 1826 13 32 _ .int rfl rfl
          refine h_cv (i := 297) (j := 165) (b := 1826) (M' := mt_165) (xs := []) (rest := []) rfl rfl rfl rfl rfl rfl (Nat.le_of_ble_eq_true rfl) (Nat.le_of_ble_eq_true rfl) (by omega) (m_next (by omega) (by omega : 0 ≤ (H63.1 1826 30) ∧ (H63.1 1826 30) ≤ (H63.1 1826 29) ∧ (H63.1 1826 29) ≤ 1000) (by omega : 0 ≤ (H63.1 1826 35) ∧ (H63.1 1826 35) ≤ 5) (by omega : 0 ≤ (H63.1 1826 32) ∧ (H63.1 1826 32) ≤ 1000)) ?_
          rintro _ H163 ⟨rfl, hx163f, hx163a, hx163b, hx163c, -, hx163e, hx163g⟩
          refine h_rng (fun hrg164 => ?_)
          have hf165 : fr [30, 31, 32, 33, 35, 36, 3, 1] [1828, 1829, 1830, 1831, 1827] H H163 := fr_t (fr_o (fr_a hf65 (by decide)) (by decide)) hx163f (by decide) (by decide)
          have ha166 : agp H H163 := agp_tr (agp_n1 (agp_a ha66 (by decide)) (by omega : (H.1 1826 1) ≤ ((H63.1 1826 1) + 1))) (agp_fr hx163f (by decide) (by decide))
          replace hx163a : (H63.1 1826 30) ≤ (H163.1 1826 30) := hx163a
          replace hx163b : (H163.1 1826 30) ≤ (H63.1 1826 29) := hx163b
          replace hx163g : (H163.1 1826 35) = 0 → ((H163.1 1826 31) = 0 ∨ (H63.1 1826 30) < (H163.1 1826 30)) := hx163g
          refine h_run 0 (pc' := 111) (l' := [(0, .inr (.inr 1826))]) (st' := []) rfl ?_
          refine h_run 2 (pc' := 114) (l' := [(0, .inr (.inr 1826))]) (st' := [.inl 61, .inr (.inr 1826)]) rfl ?_
          have g167 : -2147483648 ≤ (H163.1 1826 30) ∧ (H163.1 1826 30) ≤ 2147483647 := hrg164.1 1826 13 30 _ .int rfl rfl
          have g168 : -2147483648 ≤ (H163.1 1826 29) ∧ (H163.1 1826 29) ≤ 2147483647 := hrg164.1 1826 13 29 _ .int rfl rfl
          have e169 : (H163.1 1826 29) = (H63.1 1826 29) := hx163f.2.2 29 (by decide)
          have g170 : -2147483648 ≤ (H163.1 1826 35) ∧ (H163.1 1826 35) ≤ 2147483647 := hrg164.1 1826 13 35 _ .int rfl rfl
          have g171 : -2147483648 ≤ (H163.1 1826 31) ∧ (H163.1 1826 31) ≤ 2147483647 := hrg164.1 1826 13 31 _ .int rfl rfl
          have g173 : -2147483648 ≤ (H163.1 1826 32) ∧ (H163.1 1826 32) ≤ 2147483647 := hrg164.1 1826 13 32 _ .int rfl rfl
          refine h_cv (i := 313) (j := 166) (b := 1826) (M' := mt_166) (xs := [.inl 61]) (rest := []) rfl rfl rfl rfl rfl rfl (Nat.le_of_ble_eq_true rfl) (Nat.le_of_ble_eq_true rfl) (by omega) (m_want (by omega) (by omega : 0 ≤ (H163.1 1826 30) ∧ (H163.1 1826 30) ≤ (H163.1 1826 29) ∧ (H163.1 1826 29) ≤ 1000) (by omega : 0 ≤ (H163.1 1826 35) ∧ (H163.1 1826 35) ≤ 5) (by omega : 0 ≤ (H163.1 1826 32) ∧ (H163.1 1826 32) ≤ 1000) (by omega)) ?_
          rintro _ H172 ⟨rfl, hx172f, hx172a, hx172b, hx172c, hx172d, hx172e, hx172g⟩
          refine h_rng (fun hrg174 => ?_)
          have hf175 : fr [30, 31, 32, 33, 35, 36, 3, 1] [1828, 1829, 1830, 1831, 1827] H H172 := fr_t hf165 hx172f (by decide) (by decide)
          have ha176 : agp H H172 := agp_tr ha166 (agp_fr hx172f (by decide) (by decide))
          replace hx172a : (H163.1 1826 30) ≤ (H172.1 1826 30) := hx172a
          replace hx172b : (H172.1 1826 30) ≤ (H163.1 1826 29) := hx172b
          replace hx172d : (H163.1 1826 35) ≠ 0 → (H172.1 1826 35) = (H163.1 1826 35) := hx172d
          replace hx172g : (H172.1 1826 35) = 0 → (H163.1 1826 31) = (61 : Int) ∧ ((H172.1 1826 31) = 0 ∨ (H163.1 1826 30) < (H172.1 1826 30)) := hx172g
          refine h_run 0 (pc' := 117) (l' := [(0, .inr (.inr 1826))]) (st' := []) rfl ?_
          refine h_run 1 (pc' := 118) (l' := [(0, .inr (.inr 1826))]) (st' := [.inr (.inr 1826)]) rfl ?_
          have g177 : -2147483648 ≤ (H172.1 1826 30) ∧ (H172.1 1826 30) ≤ 2147483647 := hrg174.1 1826 13 30 _ .int rfl rfl
          have g178 : -2147483648 ≤ (H172.1 1826 29) ∧ (H172.1 1826 29) ≤ 2147483647 := hrg174.1 1826 13 29 _ .int rfl rfl
          have e179 : (H172.1 1826 29) = (H163.1 1826 29) := hx172f.2.2 29 (by decide)
          have g180 : -2147483648 ≤ (H172.1 1826 35) ∧ (H172.1 1826 35) ≤ 2147483647 := hrg174.1 1826 13 35 _ .int rfl rfl
          have g181 : -2147483648 ≤ (H172.1 1826 31) ∧ (H172.1 1826 31) ≤ 2147483647 := hrg174.1 1826 13 31 _ .int rfl rfl
          have g183 : -2147483648 ≤ (H172.1 1826 1) ∧ (H172.1 1826 1) ≤ 2147483647 := hrg174.1 1826 13 1 _ .int rfl rfl
          have e184 : (H172.1 1826 1) = (H163.1 1826 1) := hx172f.2.2 1 (by decide)
          have e185 : (H163.1 1826 1) = ((H63.1 1826 1) + 1) := hx163f.2.2 1 (by decide)
          have g186 : -2147483648 ≤ (H172.1 1826 3) ∧ (H172.1 1826 3) ≤ 2147483647 := hrg174.1 1826 13 3 _ .int rfl rfl
          have e187 : (H172.1 1826 3) = (H163.1 1826 3) := hx172f.2.2 3 (by decide)
          have e188 : (H163.1 1826 3) = (H63.1 1826 3) := hx163f.2.2 3 (by decide)
          have e189 : (H63.1 1826 3) = (H.1 1826 3) := hx63f.2.2 3 (by decide)
          have g190 : -2147483648 ≤ (H172.1 1826 8) ∧ (H172.1 1826 8) ≤ 2147483647 := hrg174.1 1826 13 8 _ .int rfl rfl
          have e191 : (H172.1 1826 8) = (H163.1 1826 8) := hx172f.2.2 8 (by decide)
          have e192 : (H163.1 1826 8) = (H63.1 1826 8) := hx163f.2.2 8 (by decide)
          have e193 : (H63.1 1826 8) = (H.1 1826 8) := hx63f.2.2 8 (by decide)
          have g194 : -2147483648 ≤ (H172.1 1826 13) ∧ (H172.1 1826 13) ≤ 2147483647 := hrg174.1 1826 13 13 _ .int rfl rfl
          have e195 : (H172.1 1826 13) = (H163.1 1826 13) := hx172f.2.2 13 (by decide)
          have e196 : (H163.1 1826 13) = (H63.1 1826 13) := hx163f.2.2 13 (by decide)
          have e197 : (H63.1 1826 13) = (H.1 1826 13) := hx63f.2.2 13 (by decide)
          have g198 : -2147483648 ≤ (H172.1 1826 19) ∧ (H172.1 1826 19) ≤ 2147483647 := hrg174.1 1826 13 19 _ .int rfl rfl
          have e199 : (H172.1 1826 19) = (H163.1 1826 19) := hx172f.2.2 19 (by decide)
          have e200 : (H163.1 1826 19) = (H63.1 1826 19) := hx163f.2.2 19 (by decide)
          have e201 : (H63.1 1826 19) = (H.1 1826 19) := hx63f.2.2 19 (by decide)
          have g202 : -2147483648 ≤ (H172.1 1826 32) ∧ (H172.1 1826 32) ≤ 2147483647 := hrg174.1 1826 13 32 _ .int rfl rfl
          refine h_cv (i := 316) (j := 171) (b := 1826) (M' := mt_171) (xs := []) (rest := []) rfl rfl rfl rfl rfl rfl (Nat.le_of_ble_eq_true rfl) (Nat.le_of_ble_eq_true rfl) (by omega) (m_constructor (by omega) (by omega : 0 ≤ (H172.1 1826 30) ∧ (H172.1 1826 30) ≤ (H172.1 1826 29) ∧ (H172.1 1826 29) ≤ 1000) (by omega : 0 ≤ (H172.1 1826 35) ∧ (H172.1 1826 35) ≤ 5) (by omega : 0 ≤ (H172.1 1826 32) ∧ (H172.1 1826 32) ≤ 1000) (PW_more hP ha176 ⟨(by omega : (H172.1 1826 1) ≤ 6), (by omega : (H172.1 1826 3) ≤ 16), (by omega : (H172.1 1826 8) ≤ 16)⟩ (m_con_agp pw1 ha176 (by omega : (H172.1 1826 3) = (H.1 1826 3))) (m_fun_agp pw2 ha176 (by omega : (H172.1 1826 8) = (H.1 1826 8))) (by omega : (H172.1 1826 13) = (H.1 1826 13)) (by omega : (H172.1 1826 19) = (H.1 1826 19))) (by omega : 1 ≤ (H172.1 1826 1))) ?_
          rintro _ H182 ⟨rfl, hx182f, hx182a, hx182c, hx182d, hx182e, hx182g, hx182p⟩
          refine h_rng (fun hrg203 => ?_)
          have hf204 : fr [30, 31, 32, 33, 35, 36, 3, 1] [1828, 1829, 1830, 1831, 1827] H H182 := fr_t hf175 hx182f (by decide) (by decide)
          have ha205 : agp H H182 := agp_tr ha176 hx182g
          replace hx182a : (H172.1 1826 30) ≤ (H182.1 1826 30) ∧ (H182.1 1826 30) ≤ (H172.1 1826 29) := hx182a
          replace hx182d : (H172.1 1826 35) ≠ 0 → (H182.1 1826 35) ≠ 0 := hx182d
          have hx182t : (H182.1 1826 35) = 0 → (H172.1 1826 31) = 2 := fun q => (hx182p q).1
          replace hx182p : (H182.1 1826 35) = 0 → PWc H182 := fun q => (hx182p q).2
          refine h_run 0 (pc' := 121) (l' := [(0, .inr (.inr 1826))]) (st' := []) rfl ?_
          have g206 : -2147483648 ≤ (H182.1 1826 30) ∧ (H182.1 1826 30) ≤ 2147483647 := hrg203.1 1826 13 30 _ .int rfl rfl
          have g207 : -2147483648 ≤ (H182.1 1826 35) ∧ (H182.1 1826 35) ≤ 2147483647 := hrg203.1 1826 13 35 _ .int rfl rfl
          have g208 : -2147483648 ≤ (H182.1 1826 32) ∧ (H182.1 1826 32) ≤ 2147483647 := hrg203.1 1826 13 32 _ .int rfl rfl
          have g209 : -2147483648 ≤ (H182.1 1826 31) ∧ (H182.1 1826 31) ≤ 2147483647 := hrg203.1 1826 13 31 _ .int rfl rfl
          have g210 : -2147483648 ≤ (H182.1 1826 3) ∧ (H182.1 1826 3) ≤ 2147483647 := hrg203.1 1826 13 3 _ .int rfl rfl
          have g211 : -2147483648 ≤ (H182.1 1826 29) ∧ (H182.1 1826 29) ≤ 2147483647 := hrg203.1 1826 13 29 _ .int rfl rfl
          have e212 : (H182.1 1826 29) = (H172.1 1826 29) := hx182f.2.2 29 (by decide)
          have g213 : -2147483648 ≤ (H182.1 1826 1) ∧ (H182.1 1826 1) ≤ 2147483647 := hrg203.1 1826 13 1 _ .int rfl rfl
          have e214 : (H182.1 1826 1) = (H172.1 1826 1) := hx182f.2.2 1 (by decide)
          exact (m_data_cut hd h0 hw hst hP hw0 _) _ hf204 (by omega : (H.1 1826 30) ≤ (H182.1 1826 30) ∧ (H182.1 1826 30) ≤ (H.1 1826 29)) (by omega : 0 ≤ (H182.1 1826 35) ∧ (H182.1 1826 35) ≤ 5) (by omega : 0 ≤ (H182.1 1826 32) ∧ (H182.1 1826 32) ≤ 1000) ha205 (by omega) hx182p (by omega : 1 ≤ (H182.1 1826 1)) (Nat.lt_succ_self _)
        · refine h_run 2 (pc' := 73) (l' := [(0, .inr (.inr 1826))]) (st' := [.inl 5, .inr (.inr 1826)]) rfl ?_
          refine h_cv (i := 278) (j := 159) (b := 1826) (M' := mt_159) (xs := [.inl 5]) (rest := []) rfl rfl rfl rfl rfl rfl (Nat.le_of_ble_eq_true rfl) (Nat.le_of_ble_eq_true rfl) (by omega) (m_bad0 (by omega) (by omega) (by omega : (H63.1 1826 35) = 0)) ?_
          rintro _ _ ⟨rfl, rfl⟩
          refine h_run 0 (pc' := 76) (l' := [(0, .inr (.inr 1826))]) (st' := []) rfl ?_
          refine h_run 1 (pc' := 77) (l' := [(0, .inr (.inr 1826))]) (st' := [.inr (.inr 1826)]) rfl ?_
          refine h_cv (i := 293) (j := 158) (b := 1826) (M' := mt_158) (xs := []) (rest := []) rfl rfl rfl rfl rfl rfl (Nat.le_of_ble_eq_true rfl) (Nat.le_of_ble_eq_true rfl) (by omega) (m_good0 (by omega) (by omega : (5 : Int) ≠ 0)) ?_
          rintro _ _ ⟨rfl, rfl⟩
          refine h_run 0 (pc' := 80) (l' := [(0, .inr (.inr 1826))]) (st' := [.inl 0]) rfl ?_
          refine h_zne (off := 4) (t := 84) rfl rfl (by decide) (fun c => absurd c (by decide)) (fun _ => ?_)
          refine h_ret rfl rfl ?_
          have g215 : -2147483648 ≤ (H63.1 1826 30) ∧ (H63.1 1826 30) ≤ 2147483647 := hrg64.1 1826 13 30 _ .int rfl rfl
          have g216 : -2147483648 ≤ (H63.1 1826 32) ∧ (H63.1 1826 32) ≤ 2147483647 := hrg64.1 1826 13 32 _ .int rfl rfl
          have g217 : -2147483648 ≤ (H63.1 1826 29) ∧ (H63.1 1826 29) ≤ 2147483647 := hrg64.1 1826 13 29 _ .int rfl rfl
          have e218 : (H63.1 1826 29) = (H.1 1826 29) := hx63f.2.2 29 (by decide)
          have g219 : -2147483648 ≤ (H63.1 1826 3) ∧ (H63.1 1826 3) ≤ 2147483647 := hrg64.1 1826 13 3 _ .int rfl rfl
          have e220 : (H63.1 1826 3) = (H.1 1826 3) := hx63f.2.2 3 (by decide)
          have g221 : -2147483648 ≤ (H63.1 1826 8) ∧ (H63.1 1826 8) ≤ 2147483647 := hrg64.1 1826 13 8 _ .int rfl rfl
          have e222 : (H63.1 1826 8) = (H.1 1826 8) := hx63f.2.2 8 (by decide)
          have g223 : -2147483648 ≤ (H63.1 1826 13) ∧ (H63.1 1826 13) ≤ 2147483647 := hrg64.1 1826 13 13 _ .int rfl rfl
          have e224 : (H63.1 1826 13) = (H.1 1826 13) := hx63f.2.2 13 (by decide)
          have g225 : -2147483648 ≤ (H63.1 1826 19) ∧ (H63.1 1826 19) ≤ 2147483647 := hrg64.1 1826 13 19 _ .int rfl rfl
          have e226 : (H63.1 1826 19) = (H.1 1826 19) := hx63f.2.2 19 (by decide)
          exact ⟨rfl, (fr_o (fr_o hf65 (by decide)) (by decide)), (by omega : (H.1 1826 30) ≤ (H63.1 1826 30) ∧ (H63.1 1826 30) ≤ (H.1 1826 29)), (by omega : 0 ≤ (5 : Int) ∧ (5 : Int) ≤ 5), (by omega : (H.1 1826 35) ≠ 0 → (5 : Int) ≠ 0), (by omega : 0 ≤ (H63.1 1826 32) ∧ (H63.1 1826 32) ≤ 1000), (agp_o (agp_o ha66 (by decide)) (by decide)), (fun (q : (5 : Int) = 0) => absurd q (by omega))⟩
    · refine h_run 2 (pc' := 21) (l' := [(0, .inr (.inr 1826))]) (st' := [.inl 2, .inr (.inr 1826)]) rfl ?_
      refine h_cv (i := 278) (j := 159) (b := 1826) (M' := mt_159) (xs := [.inl 2]) (rest := []) rfl rfl rfl rfl rfl rfl (Nat.le_of_ble_eq_true rfl) (Nat.le_of_ble_eq_true rfl) (by omega) (m_bad0 (by omega) (by omega) (by omega : (H63.1 1826 35) = 0)) ?_
      rintro _ _ ⟨rfl, rfl⟩
      refine h_run 0 (pc' := 24) (l' := [(0, .inr (.inr 1826))]) (st' := []) rfl ?_
      refine h_run 1 (pc' := 25) (l' := [(0, .inr (.inr 1826))]) (st' := [.inr (.inr 1826)]) rfl ?_
      refine h_cv (i := 293) (j := 158) (b := 1826) (M' := mt_158) (xs := []) (rest := []) rfl rfl rfl rfl rfl rfl (Nat.le_of_ble_eq_true rfl) (Nat.le_of_ble_eq_true rfl) (by omega) (m_good0 (by omega) (by omega : (2 : Int) ≠ 0)) ?_
      rintro _ _ ⟨rfl, rfl⟩
      refine h_run 0 (pc' := 28) (l' := [(0, .inr (.inr 1826))]) (st' := [.inl 0]) rfl ?_
      refine h_zeq (off := 27) (t := 55) rfl rfl (by decide) (fun _ => ?_) (fun c => absurd c (by decide))
      refine h_run 1 (pc' := 56) (l' := [(0, .inr (.inr 1826))]) (st' := [.inr (.inr 1826)]) rfl ?_
      refine h_cv (i := 293) (j := 158) (b := 1826) (M' := mt_158) (xs := []) (rest := []) rfl rfl rfl rfl rfl rfl (Nat.le_of_ble_eq_true rfl) (Nat.le_of_ble_eq_true rfl) (by omega) (m_good0 (by omega) (by omega : (2 : Int) ≠ 0)) ?_
      rintro _ _ ⟨rfl, rfl⟩
      refine h_run 0 (pc' := 59) (l' := [(0, .inr (.inr 1826))]) (st' := [.inl 0]) rfl ?_
      refine h_zeq (off := 17) (t := 76) rfl rfl (by decide) (fun _ => ?_) (fun c => absurd c (by decide))
      refine h_run 1 (pc' := 77) (l' := [(0, .inr (.inr 1826))]) (st' := [.inr (.inr 1826)]) rfl ?_
      refine h_cv (i := 293) (j := 158) (b := 1826) (M' := mt_158) (xs := []) (rest := []) rfl rfl rfl rfl rfl rfl (Nat.le_of_ble_eq_true rfl) (Nat.le_of_ble_eq_true rfl) (by omega) (m_good0 (by omega) (by omega : (2 : Int) ≠ 0)) ?_
      rintro _ _ ⟨rfl, rfl⟩
      refine h_run 0 (pc' := 80) (l' := [(0, .inr (.inr 1826))]) (st' := [.inl 0]) rfl ?_
      refine h_zne (off := 4) (t := 84) rfl rfl (by decide) (fun c => absurd c (by decide)) (fun _ => ?_)
      refine h_ret rfl rfl ?_
      have g227 : -2147483648 ≤ (H63.1 1826 30) ∧ (H63.1 1826 30) ≤ 2147483647 := hrg64.1 1826 13 30 _ .int rfl rfl
      have g228 : -2147483648 ≤ (H63.1 1826 32) ∧ (H63.1 1826 32) ≤ 2147483647 := hrg64.1 1826 13 32 _ .int rfl rfl
      have g229 : -2147483648 ≤ (H63.1 1826 29) ∧ (H63.1 1826 29) ≤ 2147483647 := hrg64.1 1826 13 29 _ .int rfl rfl
      have e230 : (H63.1 1826 29) = (H.1 1826 29) := hx63f.2.2 29 (by decide)
      have g231 : -2147483648 ≤ (H63.1 1826 1) ∧ (H63.1 1826 1) ≤ 2147483647 := hrg64.1 1826 13 1 _ .int rfl rfl
      have e232 : (H63.1 1826 1) = (H.1 1826 1) := hx63f.2.2 1 (by decide)
      have g233 : -2147483648 ≤ (H63.1 1826 3) ∧ (H63.1 1826 3) ≤ 2147483647 := hrg64.1 1826 13 3 _ .int rfl rfl
      have e234 : (H63.1 1826 3) = (H.1 1826 3) := hx63f.2.2 3 (by decide)
      have g235 : -2147483648 ≤ (H63.1 1826 8) ∧ (H63.1 1826 8) ≤ 2147483647 := hrg64.1 1826 13 8 _ .int rfl rfl
      have e236 : (H63.1 1826 8) = (H.1 1826 8) := hx63f.2.2 8 (by decide)
      have g237 : -2147483648 ≤ (H63.1 1826 13) ∧ (H63.1 1826 13) ≤ 2147483647 := hrg64.1 1826 13 13 _ .int rfl rfl
      have e238 : (H63.1 1826 13) = (H.1 1826 13) := hx63f.2.2 13 (by decide)
      have g239 : -2147483648 ≤ (H63.1 1826 19) ∧ (H63.1 1826 19) ≤ 2147483647 := hrg64.1 1826 13 19 _ .int rfl rfl
      have e240 : (H63.1 1826 19) = (H.1 1826 19) := hx63f.2.2 19 (by decide)
      exact ⟨rfl, (fr_o (fr_o hf65 (by decide)) (by decide)), (by omega : (H.1 1826 30) ≤ (H63.1 1826 30) ∧ (H63.1 1826 30) ≤ (H.1 1826 29)), (by omega : 0 ≤ (2 : Int) ∧ (2 : Int) ≤ 5), (by omega : (H.1 1826 35) ≠ 0 → (2 : Int) ≠ 0), (by omega : 0 ≤ (H63.1 1826 32) ∧ (H63.1 1826 32) ≤ 1000), (agp_o (agp_o ha66 (by decide)) (by decide)), (fun (q : (2 : Int) = 0) => absurd q (by omega))⟩
  · have b68x : (H63.1 1826 35) ≠ 0 := b68
    clear hx63g
    refine h_run 0 (pc' := 8) (l' := [(0, .inr (.inr 1826))]) (st' := [.inl 0]) rfl ?_
    refine h_zeq (off := 16) (t := 24) rfl rfl (by decide) (fun _ => ?_) (fun c => absurd c (by decide))
    refine h_run 1 (pc' := 25) (l' := [(0, .inr (.inr 1826))]) (st' := [.inr (.inr 1826)]) rfl ?_
    refine h_cv (i := 293) (j := 158) (b := 1826) (M' := mt_158) (xs := []) (rest := []) rfl rfl rfl rfl rfl rfl (Nat.le_of_ble_eq_true rfl) (Nat.le_of_ble_eq_true rfl) (by omega) (m_good0 (by omega) (by omega : (H63.1 1826 35) ≠ 0)) ?_
    rintro _ _ ⟨rfl, rfl⟩
    refine h_run 0 (pc' := 28) (l' := [(0, .inr (.inr 1826))]) (st' := [.inl 0]) rfl ?_
    refine h_zeq (off := 27) (t := 55) rfl rfl (by decide) (fun _ => ?_) (fun c => absurd c (by decide))
    refine h_run 1 (pc' := 56) (l' := [(0, .inr (.inr 1826))]) (st' := [.inr (.inr 1826)]) rfl ?_
    refine h_cv (i := 293) (j := 158) (b := 1826) (M' := mt_158) (xs := []) (rest := []) rfl rfl rfl rfl rfl rfl (Nat.le_of_ble_eq_true rfl) (Nat.le_of_ble_eq_true rfl) (by omega) (m_good0 (by omega) (by omega : (H63.1 1826 35) ≠ 0)) ?_
    rintro _ _ ⟨rfl, rfl⟩
    refine h_run 0 (pc' := 59) (l' := [(0, .inr (.inr 1826))]) (st' := [.inl 0]) rfl ?_
    refine h_zeq (off := 17) (t := 76) rfl rfl (by decide) (fun _ => ?_) (fun c => absurd c (by decide))
    refine h_run 1 (pc' := 77) (l' := [(0, .inr (.inr 1826))]) (st' := [.inr (.inr 1826)]) rfl ?_
    refine h_cv (i := 293) (j := 158) (b := 1826) (M' := mt_158) (xs := []) (rest := []) rfl rfl rfl rfl rfl rfl (Nat.le_of_ble_eq_true rfl) (Nat.le_of_ble_eq_true rfl) (by omega) (m_good0 (by omega) (by omega : (H63.1 1826 35) ≠ 0)) ?_
    rintro _ _ ⟨rfl, rfl⟩
    refine h_run 0 (pc' := 80) (l' := [(0, .inr (.inr 1826))]) (st' := [.inl 0]) rfl ?_
    refine h_zne (off := 4) (t := 84) rfl rfl (by decide) (fun c => absurd c (by decide)) (fun _ => ?_)
    refine h_ret rfl rfl ?_
    have g241 : -2147483648 ≤ (H63.1 1826 30) ∧ (H63.1 1826 30) ≤ 2147483647 := hrg64.1 1826 13 30 _ .int rfl rfl
    have g242 : -2147483648 ≤ (H63.1 1826 32) ∧ (H63.1 1826 32) ≤ 2147483647 := hrg64.1 1826 13 32 _ .int rfl rfl
    have g243 : -2147483648 ≤ (H63.1 1826 29) ∧ (H63.1 1826 29) ≤ 2147483647 := hrg64.1 1826 13 29 _ .int rfl rfl
    have e244 : (H63.1 1826 29) = (H.1 1826 29) := hx63f.2.2 29 (by decide)
    have g245 : -2147483648 ≤ (H63.1 1826 1) ∧ (H63.1 1826 1) ≤ 2147483647 := hrg64.1 1826 13 1 _ .int rfl rfl
    have e246 : (H63.1 1826 1) = (H.1 1826 1) := hx63f.2.2 1 (by decide)
    have g247 : -2147483648 ≤ (H63.1 1826 3) ∧ (H63.1 1826 3) ≤ 2147483647 := hrg64.1 1826 13 3 _ .int rfl rfl
    have e248 : (H63.1 1826 3) = (H.1 1826 3) := hx63f.2.2 3 (by decide)
    have g249 : -2147483648 ≤ (H63.1 1826 8) ∧ (H63.1 1826 8) ≤ 2147483647 := hrg64.1 1826 13 8 _ .int rfl rfl
    have e250 : (H63.1 1826 8) = (H.1 1826 8) := hx63f.2.2 8 (by decide)
    have g251 : -2147483648 ≤ (H63.1 1826 13) ∧ (H63.1 1826 13) ≤ 2147483647 := hrg64.1 1826 13 13 _ .int rfl rfl
    have e252 : (H63.1 1826 13) = (H.1 1826 13) := hx63f.2.2 13 (by decide)
    have g253 : -2147483648 ≤ (H63.1 1826 19) ∧ (H63.1 1826 19) ≤ 2147483647 := hrg64.1 1826 13 19 _ .int rfl rfl
    have e254 : (H63.1 1826 19) = (H.1 1826 19) := hx63f.2.2 19 (by decide)
    exact ⟨rfl, hf65, (by omega : (H.1 1826 30) ≤ (H63.1 1826 30) ∧ (H63.1 1826 30) ≤ (H.1 1826 29)), (by omega : 0 ≤ (H63.1 1826 35) ∧ (H63.1 1826 35) ≤ 5), (by omega : (H.1 1826 35) ≠ 0 → (H63.1 1826 35) ≠ 0), (by omega : 0 ≤ (H63.1 1826 32) ∧ (H63.1 1826 32) ≤ 1000), ha66, (fun (q : (H63.1 1826 35) = 0) => absurd q (by omega))⟩

/-! function -/
set_option maxRecDepth 100000 in
theorem m_function_cut {zC : Nat → Option zsh} {d : Nat} (hd : 5 ≤ d) {H : hp}  (h0 : 0 ≤ (H.1 1826 30) ∧ (H.1 1826 30) ≤ (H.1 1826 29) ∧ (H.1 1826 29) ≤ 1000) (hw : 0 ≤ (H.1 1826 35) ∧ (H.1 1826 35) ≤ 5) (hst : 0 ≤ (H.1 1826 32) ∧ (H.1 1826 32) ≤ 1000) (hP : PWc H) (hw0 : (H.1 1826 35) = 0) : ∀ w : Nat, (∀ (H1 : hp) (c : Nat) (t : Int), (fr [30, 31, 32, 33, 35, 36, 8] [1832, 1833, 1834, 1835] H H1) → ((H.1 1826 30) ≤ (H1.1 1826 30) ∧ (H1.1 1826 30) ≤ (H.1 1826 29)) → (0 ≤ (H1.1 1826 35) ∧ (H1.1 1826 35) ≤ 5) → (0 ≤ (H1.1 1826 32) ∧ (H1.1 1826 32) ≤ 1000) → (agp H H1) → ((H.1 1826 35) = 0) → ((c : Int) = (H.1 1826 8) ∧ (H.1 1826 8) ≤ 15) → ((H1.1 1826 8) = (H.1 1826 8) + 1) → (-1 ≤ t ∧ t ≤ 6) → ((H1.1 1826 35) = 0 → 0 ≤ t ∧ t < (H1.1 1826 1)) → ((H1.1 1826 35) = 0 → (0 ≤ (H1.1 1833) c ∧ (H1.1 1833) c ≤ 4) ∧ ∀ i : Nat, (i : Int) < (H1.1 1833) c → 0 ≤ (H1.1 1834) (4 * c + i) ∧ (H1.1 1834) (4 * c + i) < (H1.1 1826 1)) → mu (H1.1 1826 35) (H1.1 1826 31) (H1.1 1826 30) (H.1 1826 29) < w → hG (zs zC) d mt_173 142 [(0, .inr (.inr 1826)), (1, .inl (c : Int)), (2, .inl t)] [] H1 (fun r H2 => r = none ∧ fr [30, 31, 32, 33, 35, 36, 8] [1832, 1833, 1834, 1835] H H2 ∧ ((H.1 1826 30) ≤ (H2.1 1826 30) ∧ (H2.1 1826 30) ≤ (H.1 1826 29)) ∧ (0 ≤ (H2.1 1826 35) ∧ (H2.1 1826 35) ≤ 5) ∧ ((H.1 1826 35) ≠ 0 → (H2.1 1826 35) ≠ 0) ∧ (0 ≤ (H2.1 1826 32) ∧ (H2.1 1826 32) ≤ 1000) ∧ agp H H2 ∧ ((H2.1 1826 35) = 0 → PWc H2))) := by
  intro w
  induction w with
  | zero => exact fun _ _ _ _ _ _ _ _ _ _ _ _ _ _ h => absurd h (Nat.not_lt_zero _)
  | succ w ih =>
    intro H1 c t hf ha hk hst1 hag hw0 hc hcn ht htg hfa hw
    refine h_rng (fun hrg1 => ?_)
    obtain ⟨⟨pb1, pb2, pb3, pb4, pb5⟩, pw1, pw2, pw3, pw4⟩ := (id hP : PW H (H.1 1826 1) (H.1 1826 3) (H.1 1826 8) (H.1 1826 13) (H.1 1826 19))
    refine h_run 1 (pc' := 143) (l' := [(0, .inr (.inr 1826)), (1, .inl (c : Int)), (2, .inl t)]) (st' := [.inr (.inr 1826)]) rfl ?_
    have g2 : -2147483648 ≤ (H1.1 1826 35) ∧ (H1.1 1826 35) ≤ 2147483647 := hrg1.1 1826 13 35 _ .int rfl rfl
    refine h_cv (i := 293) (j := 158) (b := 1826) (M' := mt_158) (xs := []) (rest := []) rfl rfl rfl rfl rfl rfl (Nat.le_of_ble_eq_true rfl) (Nat.le_of_ble_eq_true rfl) (by omega) (m_good (by omega)) ?_
    rintro _ _ ⟨⟨rfl, b3⟩ | ⟨rfl, b3⟩, rfl⟩
    · have b3x : (H1.1 1826 35) = 0 := b3
      refine h_run 0 (pc' := 146) (l' := [(0, .inr (.inr 1826)), (1, .inl (c : Int)), (2, .inl t)]) (st' := [.inl 1]) rfl ?_
      refine h_zeq (off := 77) (t := 223) rfl rfl (by decide) (fun c => absurd c (by decide)) (fun _ => ?_)
      refine h_run 2 (pc' := 153) (l' := [(0, .inr (.inr 1826)), (1, .inl (c : Int)), (2, .inl t)]) (st' := [.inl (H1.1 1826 31)]) rfl ?_
      have g4 : -2147483648 ≤ (H1.1 1826 31) ∧ (H1.1 1826 31) ≤ 2147483647 := hrg1.1 1826 13 31 _ .int rfl rfl
      refine h_run 1 (pc' := 155) (l' := [(0, .inr (.inr 1826)), (1, .inl (c : Int)), (2, .inl t)]) (st' := [.inl 62, .inl (H1.1 1826 31)]) rfl ?_
      refine h_ine (off := 68) (t := 223) rfl rfl (by omega) (by decide) (fun c5 => ?_) (fun c5 => ?_)
      · refine h_run 4 (pc' := 229) (l' := [(0, .inr (.inr 1826)), (1, .inl (c : Int)), (2, .inl t)]) (st' := [.inl t, .inl (c : Int), .inr (.inr 1835)]) rfl ?_
        refine h_ist (c := 1835) (j := c) (i := (c : Int)) (x := t) rfl rfl (by decide) (by decide) rfl (by omega) (by omega) ?_
        refine h_ret rfl rfl ?_
        have g6 : -2147483648 ≤ (H1.1 1826 30) ∧ (H1.1 1826 30) ≤ 2147483647 := hrg1.1 1826 13 30 _ .int rfl rfl
        have g7 : -2147483648 ≤ (H1.1 1826 32) ∧ (H1.1 1826 32) ≤ 2147483647 := hrg1.1 1826 13 32 _ .int rfl rfl
        have g8 : -2147483648 ≤ (H1.1 1826 29) ∧ (H1.1 1826 29) ≤ 2147483647 := hrg1.1 1826 13 29 _ .int rfl rfl
        have e9 : (H1.1 1826 29) = (H.1 1826 29) := hf.2.2 29 (by decide)
        have g10 : -2147483648 ≤ (H1.1 1826 1) ∧ (H1.1 1826 1) ≤ 2147483647 := hrg1.1 1826 13 1 _ .int rfl rfl
        have e11 : (H1.1 1826 1) = (H.1 1826 1) := hf.2.2 1 (by decide)
        have g12 : -2147483648 ≤ (H1.1 1826 3) ∧ (H1.1 1826 3) ≤ 2147483647 := hrg1.1 1826 13 3 _ .int rfl rfl
        have e13 : (H1.1 1826 3) = (H.1 1826 3) := hf.2.2 3 (by decide)
        have g14 : -2147483648 ≤ (H1.1 1826 8) ∧ (H1.1 1826 8) ≤ 2147483647 := hrg1.1 1826 13 8 _ .int rfl rfl
        have g15 : -2147483648 ≤ (H1.1 1826 13) ∧ (H1.1 1826 13) ≤ 2147483647 := hrg1.1 1826 13 13 _ .int rfl rfl
        have e16 : (H1.1 1826 13) = (H.1 1826 13) := hf.2.2 13 (by decide)
        have g17 : -2147483648 ≤ (H1.1 1826 19) ∧ (H1.1 1826 19) ≤ 2147483647 := hrg1.1 1826 13 19 _ .int rfl rfl
        have e18 : (H1.1 1826 19) = (H.1 1826 19) := hf.2.2 19 (by decide)
        exact ⟨rfl, (fr_a hf (by decide)), (by omega : (H.1 1826 30) ≤ (H1.1 1826 30) ∧ (H1.1 1826 30) ≤ (H.1 1826 29)), (by omega : 0 ≤ (H1.1 1826 35) ∧ (H1.1 1826 35) ≤ 5), (by omega : (H.1 1826 35) ≠ 0 → (H1.1 1826 35) ≠ 0), (by omega : 0 ≤ (H1.1 1826 32) ∧ (H1.1 1826 32) ≤ 1000), (agp_1835 hag (by omega : (H.1 1826 8) ≤ ((c : Nat) : Int))), (fun (q : (H1.1 1826 35) = 0) => PW_more hP (agp_1835 hag (by omega : (H.1 1826 8) ≤ ((c : Nat) : Int))) ⟨(by omega : (H1.1 1826 1) ≤ 6), (by omega : (H1.1 1826 3) ≤ 16), (by omega : (H1.1 1826 8) ≤ 16)⟩ (m_con_agp pw1 (agp_1835 hag (by omega : (H.1 1826 8) ≤ ((c : Nat) : Int))) (by omega : (H1.1 1826 3) = (H.1 1826 3))) (by show m_fun (H1.1 1826 1) (H1.1 1826 8) (H1.1 1833) (H1.1 1834) (up (H1.1 1835) c t); rw [show (H1.1 1826 8) = (H.1 1826 8) + 1 from hcn]; exact m_fun_fin pw2 hag.2.2.1 hag.1.1 (by omega) (hfa q).1 (hfa q).2 (htg q)) (by omega : (H1.1 1826 13) = (H.1 1826 13)) (by omega : (H1.1 1826 19) = (H.1 1826 19)))⟩
      · obtain ⟨hc1, hc3⟩ := hfa (by omega)
        refine h_run 3 (pc' := 163) (l' := [(0, .inr (.inr 1826)), (1, .inl (c : Int)), (2, .inl t)]) (st' := [.inl (c : Int), .inr (.inr 1833)]) rfl ?_
        refine h_ild (c := 1833) (j := c) (i := (c : Int)) rfl rfl (by decide) rfl (by omega) ?_
        have g19 : -2147483648 ≤ (H1.1 1833 c) ∧ (H1.1 1833 c) ≤ 2147483647 := hrg1.2 1833 c 16 .int rfl (by omega)
        refine h_run 0 (pc' := 164) (l' := [(0, .inr (.inr 1826)), (1, .inl (c : Int)), (2, .inl t)]) (st' := [.inl (H1.1 1833 c)]) rfl ?_
        refine h_run 1 (pc' := 165) (l' := [(0, .inr (.inr 1826)), (1, .inl (c : Int)), (2, .inl t)]) (st' := [.inl 4, .inl (H1.1 1833 c)]) rfl ?_
        refine h_ine (off := 9) (t := 174) rfl rfl (by omega) (by decide) (fun c20 => ?_) (fun c20 => ?_)
        · refine h_run 8 (pc' := 186) (l' := [(0, .inr (.inr 1826)), (1, .inl (c : Int)), (2, .inl t)]) (st' := [.inl (c : Int), .inr (.inr 1833), .inl (4 * (c : Int)), .inr (.inr 1834)]) rfl ?_
          refine h_ild (c := 1833) (j := c) (i := (c : Int)) rfl rfl (by decide) rfl (by omega) ?_
          refine h_run 0 (pc' := 187) (l' := [(0, .inr (.inr 1826)), (1, .inl (c : Int)), (2, .inl t)]) (st' := [.inl (H1.1 1833 c), .inl (4 * (c : Int)), .inr (.inr 1834)]) rfl ?_
          refine h_run 2 (pc' := 189) (l' := [(0, .inr (.inr 1826)), (1, .inl (c : Int)), (2, .inl t)]) (st' := [.inl t, .inl ((4 * (c : Int)) + (H1.1 1833 c)), .inr (.inr 1834)]) rfl ?_
          refine h_ist (c := 1834) (j := (((4 * (c : Int)) + (H1.1 1833 c))).toNat) (i := ((4 * (c : Int)) + (H1.1 1833 c))) (x := t) rfl rfl (by decide) (by decide) (by omega) (by omega) (by omega) ?_
          refine h_run 4 (pc' := 196) (l' := [(0, .inr (.inr 1826)), (1, .inl (c : Int)), (2, .inl t)]) (st' := [.inl (c : Int), .inr (.inr 1833), .inl (c : Int), .inr (.inr 1833)]) rfl ?_
          refine h_ild (c := 1833) (j := c) (i := (c : Int)) rfl rfl (by decide) rfl (by omega) ?_
          refine h_run 0 (pc' := 197) (l' := [(0, .inr (.inr 1826)), (1, .inl (c : Int)), (2, .inl t)]) (st' := [.inl (H1.1 1833 c), .inl (c : Int), .inr (.inr 1833)]) rfl ?_
          refine h_run 2 (pc' := 199) (l' := [(0, .inr (.inr 1826)), (1, .inl (c : Int)), (2, .inl t)]) (st' := [.inl ((H1.1 1833 c) + 1), .inl (c : Int), .inr (.inr 1833)]) rfl ?_
          refine h_ist (c := 1833) (j := c) (i := (c : Int)) (x := ((H1.1 1833 c) + 1)) rfl rfl (by decide) (by decide) rfl (by omega) (by omega) ?_
          refine h_run 1 (pc' := 201) (l' := [(0, .inr (.inr 1826)), (1, .inl (c : Int)), (2, .inl t)]) (st' := [.inr (.inr 1826)]) rfl ?_
          have g21 : -2147483648 ≤ (H1.1 1826 30) ∧ (H1.1 1826 30) ≤ 2147483647 := hrg1.1 1826 13 30 _ .int rfl rfl
          have g22 : -2147483648 ≤ (H1.1 1826 29) ∧ (H1.1 1826 29) ≤ 2147483647 := hrg1.1 1826 13 29 _ .int rfl rfl
          have e23 : (H1.1 1826 29) = (H.1 1826 29) := hf.2.2 29 (by decide)
          have g24 : -2147483648 ≤ (H1.1 1826 32) ∧ (H1.1 1826 32) ≤ 2147483647 := hrg1.1 1826 13 32 _ .int rfl rfl
          refine h_cv (i := 297) (j := 165) (b := 1826) (M' := mt_165) (xs := []) (rest := []) rfl rfl rfl rfl rfl rfl (Nat.le_of_ble_eq_true rfl) (Nat.le_of_ble_eq_true rfl) (by omega) (m_next (by omega) (by omega : 0 ≤ (H1.1 1826 30) ∧ (H1.1 1826 30) ≤ (H1.1 1826 29) ∧ (H1.1 1826 29) ≤ 1000) (by omega : 0 ≤ (H1.1 1826 35) ∧ (H1.1 1826 35) ≤ 5) (by omega : 0 ≤ (H1.1 1826 32) ∧ (H1.1 1826 32) ≤ 1000)) ?_
          rintro _ H25 ⟨rfl, hx25f, hx25a, hx25b, hx25c, -, hx25e, hx25g⟩
          refine h_rng (fun hrg26 => ?_)
          have hf27 : fr [30, 31, 32, 33, 35, 36, 8] [1832, 1833, 1834, 1835] H H25 := fr_t (fr_a (fr_a hf (by decide)) (by decide)) hx25f (by decide) (by decide)
          have ha28 : agp H H25 := agp_tr (agp_1833 (agp_1834 hag (by omega : 4 * (H.1 1826 8) ≤ (((((4 * (c : Int)) + (H1.1 1833 c))).toNat : Nat) : Int))) (by omega : (H.1 1826 8) ≤ ((c : Nat) : Int))) (agp_fr hx25f (by decide) (by decide))
          replace hx25a : (H1.1 1826 30) ≤ (H25.1 1826 30) := hx25a
          replace hx25b : (H25.1 1826 30) ≤ (H1.1 1826 29) := hx25b
          replace hx25g : (H25.1 1826 35) = 0 → ((H25.1 1826 31) = 0 ∨ (H1.1 1826 30) < (H25.1 1826 30)) := hx25g
          refine h_run 0 (pc' := 204) (l' := [(0, .inr (.inr 1826)), (1, .inl (c : Int)), (2, .inl t)]) (st' := []) rfl ?_
          refine h_run 1 (pc' := 205) (l' := [(0, .inr (.inr 1826)), (1, .inl (c : Int)), (2, .inl t)]) (st' := [.inr (.inr 1826)]) rfl ?_
          have g29 : -2147483648 ≤ (H25.1 1826 35) ∧ (H25.1 1826 35) ≤ 2147483647 := hrg26.1 1826 13 35 _ .int rfl rfl
          have g30 : -2147483648 ≤ (H25.1 1826 1) ∧ (H25.1 1826 1) ≤ 2147483647 := hrg26.1 1826 13 1 _ .int rfl rfl
          have e31 : (H25.1 1826 1) = (H1.1 1826 1) := hx25f.2.2 1 (by decide)
          have e32 : (H1.1 1826 1) = (H.1 1826 1) := hf.2.2 1 (by decide)
          have g33 : -2147483648 ≤ (H25.1 1826 31) ∧ (H25.1 1826 31) ≤ 2147483647 := hrg26.1 1826 13 31 _ .int rfl rfl
          refine h_cv (i := 322) (j := 172) (b := 1826) (M' := mt_172) (xs := []) (rest := []) rfl rfl rfl rfl rfl rfl (Nat.le_of_ble_eq_true rfl) (Nat.le_of_ble_eq_true rfl) (by omega) (m_type (by omega) (by omega : 0 ≤ (H25.1 1826 35) ∧ (H25.1 1826 35) ≤ 5) (by omega : 0 ≤ (H25.1 1826 1) ∧ (H25.1 1826 1) ≤ 6)) ?_
          rintro _ H34 ⟨ht34t, rfl, ht34f, ht34b, ht34d, ht34g, ht34e⟩
          refine h_rng (fun hrg35 => ?_)
          have hf36 : fr [30, 31, 32, 33, 35, 36, 8] [1832, 1833, 1834, 1835] H H34 := fr_t hf27 ht34f (by decide) (by decide)
          have ha37 : agp H H34 := agp_tr ha28 (agp_fr ht34f (by decide) (by decide))
          replace ht34d : (H25.1 1826 35) ≠ 0 → (H34.1 1826 35) = (H25.1 1826 35) := ht34d
          replace ht34g : (H34.1 1826 35) = 0 → (H25.1 1826 35) = 0 ∧ (H25.1 1826 31) = 2 ∧ 0 ≤ ht34t ∧ ht34t < (H25.1 1826 1) := ht34g
          refine h_run 0 (pc' := 208) (l' := [(0, .inr (.inr 1826)), (1, .inl (c : Int)), (2, .inl t)]) (st' := [.inl ht34t]) rfl ?_
          refine h_run 2 (pc' := 210) (l' := [(0, .inr (.inr 1826)), (1, .inl (c : Int)), (2, .inl ht34t)]) (st' := [.inr (.inr 1826)]) rfl ?_
          have g38 : -2147483648 ≤ (H34.1 1826 35) ∧ (H34.1 1826 35) ≤ 2147483647 := hrg35.1 1826 13 35 _ .int rfl rfl
          refine h_cv (i := 293) (j := 158) (b := 1826) (M' := mt_158) (xs := []) (rest := []) rfl rfl rfl rfl rfl rfl (Nat.le_of_ble_eq_true rfl) (Nat.le_of_ble_eq_true rfl) (by omega) (m_good (by omega)) ?_
          rintro _ _ ⟨⟨rfl, b39⟩ | ⟨rfl, b39⟩, rfl⟩
          · have b39x : (H34.1 1826 35) = 0 := b39
            replace ht34g := ht34g b39x
            refine h_run 0 (pc' := 213) (l' := [(0, .inr (.inr 1826)), (1, .inl (c : Int)), (2, .inl ht34t)]) (st' := [.inl 1]) rfl ?_
            refine h_zeq (off := -71) (t := 142) rfl rfl (by decide) (fun c => absurd c (by decide)) (fun _ => ?_)
            refine h_run 1 (pc' := 217) (l' := [(0, .inr (.inr 1826)), (1, .inl (c : Int)), (2, .inl ht34t)]) (st' := [.inr (.inr 1826)]) rfl ?_
            have g40 : -2147483648 ≤ (H34.1 1826 30) ∧ (H34.1 1826 30) ≤ 2147483647 := hrg35.1 1826 13 30 _ .int rfl rfl
            have e41 : (H34.1 1826 30) = (H25.1 1826 30) := ht34f.2.2 30 (by decide)
            have g42 : -2147483648 ≤ (H34.1 1826 29) ∧ (H34.1 1826 29) ≤ 2147483647 := hrg35.1 1826 13 29 _ .int rfl rfl
            have e43 : (H34.1 1826 29) = (H25.1 1826 29) := ht34f.2.2 29 (by decide)
            have e44 : (H25.1 1826 29) = (H1.1 1826 29) := hx25f.2.2 29 (by decide)
            have g45 : -2147483648 ≤ (H34.1 1826 32) ∧ (H34.1 1826 32) ≤ 2147483647 := hrg35.1 1826 13 32 _ .int rfl rfl
            have e46 : (H34.1 1826 32) = (H25.1 1826 32) := ht34f.2.2 32 (by decide)
            refine h_cv (i := 297) (j := 165) (b := 1826) (M' := mt_165) (xs := []) (rest := []) rfl rfl rfl rfl rfl rfl (Nat.le_of_ble_eq_true rfl) (Nat.le_of_ble_eq_true rfl) (by omega) (m_next (by omega) (by omega : 0 ≤ (H34.1 1826 30) ∧ (H34.1 1826 30) ≤ (H34.1 1826 29) ∧ (H34.1 1826 29) ≤ 1000) (by omega : 0 ≤ (H34.1 1826 35) ∧ (H34.1 1826 35) ≤ 5) (by omega : 0 ≤ (H34.1 1826 32) ∧ (H34.1 1826 32) ≤ 1000)) ?_
            rintro _ H47 ⟨rfl, hx47f, hx47a, hx47b, hx47c, -, hx47e, hx47g⟩
            refine h_rng (fun hrg48 => ?_)
            have hf49 : fr [30, 31, 32, 33, 35, 36, 8] [1832, 1833, 1834, 1835] H H47 := fr_t hf36 hx47f (by decide) (by decide)
            have ha50 : agp H H47 := agp_tr ha37 (agp_fr hx47f (by decide) (by decide))
            replace hx47a : (H34.1 1826 30) ≤ (H47.1 1826 30) := hx47a
            replace hx47b : (H47.1 1826 30) ≤ (H34.1 1826 29) := hx47b
            replace hx47g : (H47.1 1826 35) = 0 → ((H47.1 1826 31) = 0 ∨ (H34.1 1826 30) < (H47.1 1826 30)) := hx47g
            refine h_run 0 (pc' := 220) (l' := [(0, .inr (.inr 1826)), (1, .inl (c : Int)), (2, .inl ht34t)]) (st' := []) rfl ?_
            refine h_run 1 (pc' := 142) (l' := [(0, .inr (.inr 1826)), (1, .inl (c : Int)), (2, .inl ht34t)]) (st' := []) rfl ?_
            have g51 : -2147483648 ≤ (H47.1 1826 30) ∧ (H47.1 1826 30) ≤ 2147483647 := hrg48.1 1826 13 30 _ .int rfl rfl
            have g52 : -2147483648 ≤ (H47.1 1826 35) ∧ (H47.1 1826 35) ≤ 2147483647 := hrg48.1 1826 13 35 _ .int rfl rfl
            have g53 : -2147483648 ≤ (H47.1 1826 32) ∧ (H47.1 1826 32) ≤ 2147483647 := hrg48.1 1826 13 32 _ .int rfl rfl
            have g54 : -2147483648 ≤ (H47.1 1826 31) ∧ (H47.1 1826 31) ≤ 2147483647 := hrg48.1 1826 13 31 _ .int rfl rfl
            have g55 : -2147483648 ≤ (H47.1 1826 3) ∧ (H47.1 1826 3) ≤ 2147483647 := hrg48.1 1826 13 3 _ .int rfl rfl
            have e56 : (H47.1 1826 3) = (H34.1 1826 3) := hx47f.2.2 3 (by decide)
            have e57 : (H34.1 1826 3) = (H25.1 1826 3) := ht34f.2.2 3 (by decide)
            have e58 : (H25.1 1826 3) = (H1.1 1826 3) := hx25f.2.2 3 (by decide)
            have e59 : (H1.1 1826 3) = (H.1 1826 3) := hf.2.2 3 (by decide)
            have g60 : -2147483648 ≤ (H47.1 1826 29) ∧ (H47.1 1826 29) ≤ 2147483647 := hrg48.1 1826 13 29 _ .int rfl rfl
            have e61 : (H47.1 1826 29) = (H34.1 1826 29) := hx47f.2.2 29 (by decide)
            have g62 : -2147483648 ≤ (H47.1 1826 1) ∧ (H47.1 1826 1) ≤ 2147483647 := hrg48.1 1826 13 1 _ .int rfl rfl
            have e63 : (H47.1 1826 1) = (H34.1 1826 1) := hx47f.2.2 1 (by decide)
            have e64 : (H34.1 1826 1) = (H25.1 1826 1) := ht34f.2.2 1 (by decide)
            have g65 : -2147483648 ≤ (H47.1 1826 8) ∧ (H47.1 1826 8) ≤ 2147483647 := hrg48.1 1826 13 8 _ .int rfl rfl
            have e66 : (H47.1 1826 8) = (H34.1 1826 8) := hx47f.2.2 8 (by decide)
            have e67 : (H34.1 1826 8) = (H25.1 1826 8) := ht34f.2.2 8 (by decide)
            have e68 : (H25.1 1826 8) = (H1.1 1826 8) := hx25f.2.2 8 (by decide)
            exact ih _ c ht34t hf49 (by omega : (H.1 1826 30) ≤ (H47.1 1826 30) ∧ (H47.1 1826 30) ≤ (H.1 1826 29)) (by omega : 0 ≤ (H47.1 1826 35) ∧ (H47.1 1826 35) ≤ 5) (by omega : 0 ≤ (H47.1 1826 32) ∧ (H47.1 1826 32) ≤ 1000) ha50 (by omega) (by omega : (c : Int) = (H.1 1826 8) ∧ (H.1 1826 8) ≤ 15) (by omega : (H47.1 1826 8) = (H.1 1826 8) + 1) (by omega : -1 ≤ ht34t ∧ ht34t ≤ 6) (by omega : (H47.1 1826 35) = 0 → 0 ≤ ht34t ∧ ht34t < (H47.1 1826 1)) (fun q => by rw [show (H47.1 1833) = up (H1.1 1833) c ((H1.1 1833) c + 1) from (((hx47f.2.1 1833 (by decide) (by decide)).trans (ht34f.2.1 1833 (by decide) (by decide))).trans (hx25f.2.1 1833 (by decide) (by decide))), show (H47.1 1834) = up (H1.1 1834) (((4 * (c : Int)) + (H1.1 1833 c))).toNat t from (((hx47f.2.1 1834 (by decide) (by decide)).trans (ht34f.2.1 1834 (by decide) (by decide))).trans (hx25f.2.1 1834 (by decide) (by decide))), show (H47.1 1826 1) = (H1.1 1826 1) from (by omega), up_eq]; exact ⟨by omega, m_garg (hfa (by omega)).2 (by omega) (by omega)⟩) (mu_lt hw (by omega) (by omega : (H47.1 1826 35) ≠ 0 ∨ ((H1.1 1826 30) ≤ (H47.1 1826 30) ∧ (H47.1 1826 30) ≤ (H.1 1826 29) ∧ (((H47.1 1826 31) = 0 ∧ (H1.1 1826 31) ≠ 0) ∨ (H1.1 1826 30) < (H47.1 1826 30)))))
          · have b39x : (H34.1 1826 35) ≠ 0 := b39
            clear ht34g
            refine h_run 0 (pc' := 213) (l' := [(0, .inr (.inr 1826)), (1, .inl (c : Int)), (2, .inl ht34t)]) (st' := [.inl 0]) rfl ?_
            refine h_zeq (off := -71) (t := 142) rfl rfl (by decide) (fun _ => ?_) (fun c => absurd c (by decide))
            have g69 : -2147483648 ≤ (H34.1 1826 30) ∧ (H34.1 1826 30) ≤ 2147483647 := hrg35.1 1826 13 30 _ .int rfl rfl
            have e70 : (H34.1 1826 30) = (H25.1 1826 30) := ht34f.2.2 30 (by decide)
            have g71 : -2147483648 ≤ (H34.1 1826 32) ∧ (H34.1 1826 32) ≤ 2147483647 := hrg35.1 1826 13 32 _ .int rfl rfl
            have e72 : (H34.1 1826 32) = (H25.1 1826 32) := ht34f.2.2 32 (by decide)
            have g73 : -2147483648 ≤ (H34.1 1826 31) ∧ (H34.1 1826 31) ≤ 2147483647 := hrg35.1 1826 13 31 _ .int rfl rfl
            have e74 : (H34.1 1826 31) = (H25.1 1826 31) := ht34f.2.2 31 (by decide)
            have g75 : -2147483648 ≤ (H34.1 1826 3) ∧ (H34.1 1826 3) ≤ 2147483647 := hrg35.1 1826 13 3 _ .int rfl rfl
            have e76 : (H34.1 1826 3) = (H25.1 1826 3) := ht34f.2.2 3 (by decide)
            have e77 : (H25.1 1826 3) = (H1.1 1826 3) := hx25f.2.2 3 (by decide)
            have e78 : (H1.1 1826 3) = (H.1 1826 3) := hf.2.2 3 (by decide)
            have g79 : -2147483648 ≤ (H34.1 1826 29) ∧ (H34.1 1826 29) ≤ 2147483647 := hrg35.1 1826 13 29 _ .int rfl rfl
            have e80 : (H34.1 1826 29) = (H25.1 1826 29) := ht34f.2.2 29 (by decide)
            have e81 : (H25.1 1826 29) = (H1.1 1826 29) := hx25f.2.2 29 (by decide)
            have g82 : -2147483648 ≤ (H34.1 1826 1) ∧ (H34.1 1826 1) ≤ 2147483647 := hrg35.1 1826 13 1 _ .int rfl rfl
            have e83 : (H34.1 1826 1) = (H25.1 1826 1) := ht34f.2.2 1 (by decide)
            have g84 : -2147483648 ≤ (H34.1 1826 8) ∧ (H34.1 1826 8) ≤ 2147483647 := hrg35.1 1826 13 8 _ .int rfl rfl
            have e85 : (H34.1 1826 8) = (H25.1 1826 8) := ht34f.2.2 8 (by decide)
            have e86 : (H25.1 1826 8) = (H1.1 1826 8) := hx25f.2.2 8 (by decide)
            exact ih _ c ht34t hf36 (by omega : (H.1 1826 30) ≤ (H34.1 1826 30) ∧ (H34.1 1826 30) ≤ (H.1 1826 29)) (by omega : 0 ≤ (H34.1 1826 35) ∧ (H34.1 1826 35) ≤ 5) (by omega : 0 ≤ (H34.1 1826 32) ∧ (H34.1 1826 32) ≤ 1000) ha37 (by omega) (by omega : (c : Int) = (H.1 1826 8) ∧ (H.1 1826 8) ≤ 15) (by omega : (H34.1 1826 8) = (H.1 1826 8) + 1) (by omega : -1 ≤ ht34t ∧ ht34t ≤ 6) (by omega : (H34.1 1826 35) = 0 → 0 ≤ ht34t ∧ ht34t < (H34.1 1826 1)) (fun q => by rw [show (H34.1 1833) = up (H1.1 1833) c ((H1.1 1833) c + 1) from ((ht34f.2.1 1833 (by decide) (by decide)).trans (hx25f.2.1 1833 (by decide) (by decide))), show (H34.1 1834) = up (H1.1 1834) (((4 * (c : Int)) + (H1.1 1833 c))).toNat t from ((ht34f.2.1 1834 (by decide) (by decide)).trans (hx25f.2.1 1834 (by decide) (by decide))), show (H34.1 1826 1) = (H1.1 1826 1) from (by omega), up_eq]; exact ⟨by omega, m_garg (hfa (by omega)).2 (by omega) (by omega)⟩) (mu_lt hw (by omega) (by omega : (H34.1 1826 35) ≠ 0 ∨ ((H1.1 1826 30) ≤ (H34.1 1826 30) ∧ (H34.1 1826 30) ≤ (H.1 1826 29) ∧ (((H34.1 1826 31) = 0 ∧ (H1.1 1826 31) ≠ 0) ∨ (H1.1 1826 30) < (H34.1 1826 30)))))
        · refine h_run 2 (pc' := 170) (l' := [(0, .inr (.inr 1826)), (1, .inl (c : Int)), (2, .inl t)]) (st' := [.inl 5, .inr (.inr 1826)]) rfl ?_
          refine h_cv (i := 278) (j := 159) (b := 1826) (M' := mt_159) (xs := [.inl 5]) (rest := []) rfl rfl rfl rfl rfl rfl (Nat.le_of_ble_eq_true rfl) (Nat.le_of_ble_eq_true rfl) (by omega) (m_bad0 (by omega) (by omega) (by omega : (H1.1 1826 35) = 0)) ?_
          rintro _ _ ⟨rfl, rfl⟩
          refine h_run 0 (pc' := 173) (l' := [(0, .inr (.inr 1826)), (1, .inl (c : Int)), (2, .inl t)]) (st' := []) rfl ?_
          refine h_ret rfl rfl ?_
          have g87 : -2147483648 ≤ (H1.1 1826 30) ∧ (H1.1 1826 30) ≤ 2147483647 := hrg1.1 1826 13 30 _ .int rfl rfl
          have g88 : -2147483648 ≤ (H1.1 1826 32) ∧ (H1.1 1826 32) ≤ 2147483647 := hrg1.1 1826 13 32 _ .int rfl rfl
          have g89 : -2147483648 ≤ (H1.1 1826 29) ∧ (H1.1 1826 29) ≤ 2147483647 := hrg1.1 1826 13 29 _ .int rfl rfl
          have e90 : (H1.1 1826 29) = (H.1 1826 29) := hf.2.2 29 (by decide)
          have g91 : -2147483648 ≤ (H1.1 1826 1) ∧ (H1.1 1826 1) ≤ 2147483647 := hrg1.1 1826 13 1 _ .int rfl rfl
          have e92 : (H1.1 1826 1) = (H.1 1826 1) := hf.2.2 1 (by decide)
          have g93 : -2147483648 ≤ (H1.1 1826 3) ∧ (H1.1 1826 3) ≤ 2147483647 := hrg1.1 1826 13 3 _ .int rfl rfl
          have e94 : (H1.1 1826 3) = (H.1 1826 3) := hf.2.2 3 (by decide)
          have g95 : -2147483648 ≤ (H1.1 1826 8) ∧ (H1.1 1826 8) ≤ 2147483647 := hrg1.1 1826 13 8 _ .int rfl rfl
          have g96 : -2147483648 ≤ (H1.1 1826 13) ∧ (H1.1 1826 13) ≤ 2147483647 := hrg1.1 1826 13 13 _ .int rfl rfl
          have e97 : (H1.1 1826 13) = (H.1 1826 13) := hf.2.2 13 (by decide)
          have g98 : -2147483648 ≤ (H1.1 1826 19) ∧ (H1.1 1826 19) ≤ 2147483647 := hrg1.1 1826 13 19 _ .int rfl rfl
          have e99 : (H1.1 1826 19) = (H.1 1826 19) := hf.2.2 19 (by decide)
          exact ⟨rfl, (fr_o (fr_o hf (by decide)) (by decide)), (by omega : (H.1 1826 30) ≤ (H1.1 1826 30) ∧ (H1.1 1826 30) ≤ (H.1 1826 29)), (by omega : 0 ≤ (5 : Int) ∧ (5 : Int) ≤ 5), (by omega : (H.1 1826 35) ≠ 0 → (5 : Int) ≠ 0), (by omega : 0 ≤ (H1.1 1826 32) ∧ (H1.1 1826 32) ≤ 1000), (agp_o (agp_o hag (by decide)) (by decide)), (fun (q : (5 : Int) = 0) => absurd q (by omega))⟩
    · have b3x : (H1.1 1826 35) ≠ 0 := b3
      refine h_run 0 (pc' := 146) (l' := [(0, .inr (.inr 1826)), (1, .inl (c : Int)), (2, .inl t)]) (st' := [.inl 0]) rfl ?_
      refine h_zeq (off := 77) (t := 223) rfl rfl (by decide) (fun _ => ?_) (fun c => absurd c (by decide))
      refine h_run 4 (pc' := 229) (l' := [(0, .inr (.inr 1826)), (1, .inl (c : Int)), (2, .inl t)]) (st' := [.inl t, .inl (c : Int), .inr (.inr 1835)]) rfl ?_
      refine h_ist (c := 1835) (j := c) (i := (c : Int)) (x := t) rfl rfl (by decide) (by decide) rfl (by omega) (by omega) ?_
      refine h_ret rfl rfl ?_
      have g100 : -2147483648 ≤ (H1.1 1826 30) ∧ (H1.1 1826 30) ≤ 2147483647 := hrg1.1 1826 13 30 _ .int rfl rfl
      have g101 : -2147483648 ≤ (H1.1 1826 32) ∧ (H1.1 1826 32) ≤ 2147483647 := hrg1.1 1826 13 32 _ .int rfl rfl
      have g102 : -2147483648 ≤ (H1.1 1826 29) ∧ (H1.1 1826 29) ≤ 2147483647 := hrg1.1 1826 13 29 _ .int rfl rfl
      have e103 : (H1.1 1826 29) = (H.1 1826 29) := hf.2.2 29 (by decide)
      have g104 : -2147483648 ≤ (H1.1 1826 1) ∧ (H1.1 1826 1) ≤ 2147483647 := hrg1.1 1826 13 1 _ .int rfl rfl
      have e105 : (H1.1 1826 1) = (H.1 1826 1) := hf.2.2 1 (by decide)
      have g106 : -2147483648 ≤ (H1.1 1826 3) ∧ (H1.1 1826 3) ≤ 2147483647 := hrg1.1 1826 13 3 _ .int rfl rfl
      have e107 : (H1.1 1826 3) = (H.1 1826 3) := hf.2.2 3 (by decide)
      have g108 : -2147483648 ≤ (H1.1 1826 8) ∧ (H1.1 1826 8) ≤ 2147483647 := hrg1.1 1826 13 8 _ .int rfl rfl
      have g109 : -2147483648 ≤ (H1.1 1826 13) ∧ (H1.1 1826 13) ≤ 2147483647 := hrg1.1 1826 13 13 _ .int rfl rfl
      have e110 : (H1.1 1826 13) = (H.1 1826 13) := hf.2.2 13 (by decide)
      have g111 : -2147483648 ≤ (H1.1 1826 19) ∧ (H1.1 1826 19) ≤ 2147483647 := hrg1.1 1826 13 19 _ .int rfl rfl
      have e112 : (H1.1 1826 19) = (H.1 1826 19) := hf.2.2 19 (by decide)
      exact ⟨rfl, (fr_a hf (by decide)), (by omega : (H.1 1826 30) ≤ (H1.1 1826 30) ∧ (H1.1 1826 30) ≤ (H.1 1826 29)), (by omega : 0 ≤ (H1.1 1826 35) ∧ (H1.1 1826 35) ≤ 5), (by omega : (H.1 1826 35) ≠ 0 → (H1.1 1826 35) ≠ 0), (by omega : 0 ≤ (H1.1 1826 32) ∧ (H1.1 1826 32) ≤ 1000), (agp_1835 hag (by omega : (H.1 1826 8) ≤ ((c : Nat) : Int))), (fun (q : (H1.1 1826 35) = 0) => PW_more hP (agp_1835 hag (by omega : (H.1 1826 8) ≤ ((c : Nat) : Int))) ⟨(by omega : (H1.1 1826 1) ≤ 6), (by omega : (H1.1 1826 3) ≤ 16), (by omega : (H1.1 1826 8) ≤ 16)⟩ (m_con_agp pw1 (agp_1835 hag (by omega : (H.1 1826 8) ≤ ((c : Nat) : Int))) (by omega : (H1.1 1826 3) = (H.1 1826 3))) (by show m_fun (H1.1 1826 1) (H1.1 1826 8) (H1.1 1833) (H1.1 1834) (up (H1.1 1835) c t); rw [show (H1.1 1826 8) = (H.1 1826 8) + 1 from hcn]; exact m_fun_fin pw2 hag.2.2.1 hag.1.1 (by omega) (hfa q).1 (hfa q).2 (htg q)) (by omega : (H1.1 1826 13) = (H.1 1826 13)) (by omega : (H1.1 1826 19) = (H.1 1826 19)))⟩
set_option maxRecDepth 100000 in
theorem m_function {zC : Nat → Option zsh} {d : Nat} (hd : 5 ≤ d) {H : hp}  (h0 : 0 ≤ (H.1 1826 30) ∧ (H.1 1826 30) ≤ (H.1 1826 29) ∧ (H.1 1826 29) ≤ 1000) (hw : 0 ≤ (H.1 1826 35) ∧ (H.1 1826 35) ≤ 5) (hst : 0 ≤ (H.1 1826 32) ∧ (H.1 1826 32) ≤ 1000) (hP : PWc H) (hw0 : (H.1 1826 35) = 0) : hG (zs zC) d mt_173 0 (zargs 0 [.inr (.inr 1826)]) [] H (fun r H2 => r = none ∧ fr [30, 31, 32, 33, 35, 36, 8] [1832, 1833, 1834, 1835] H H2 ∧ ((H.1 1826 30) ≤ (H2.1 1826 30) ∧ (H2.1 1826 30) ≤ (H.1 1826 29)) ∧ (0 ≤ (H2.1 1826 35) ∧ (H2.1 1826 35) ≤ 5) ∧ ((H.1 1826 35) ≠ 0 → (H2.1 1826 35) ≠ 0) ∧ (0 ≤ (H2.1 1826 32) ∧ (H2.1 1826 32) ≤ 1000) ∧ agp H H2 ∧ ((H2.1 1826 35) = 0 → PWc H2)) := by
  refine h_rng (fun hrg0 => ?_)
  refine h_run 0 (pc' := 0) (l' := [(0, .inr (.inr 1826))]) (st' := []) rfl ?_
  obtain ⟨⟨pb1, pb2, pb3, pb4, pb5⟩, pw1, pw2, pw3, pw4⟩ := (id hP : PW H (H.1 1826 1) (H.1 1826 3) (H.1 1826 8) (H.1 1826 13) (H.1 1826 19))
  refine h_run 1 (pc' := 1) (l' := [(0, .inr (.inr 1826))]) (st' := [.inr (.inr 1826)]) rfl ?_
  have g113 : -2147483648 ≤ (H.1 1826 30) ∧ (H.1 1826 30) ≤ 2147483647 := hrg0.1 1826 13 30 _ .int rfl rfl
  have g114 : -2147483648 ≤ (H.1 1826 29) ∧ (H.1 1826 29) ≤ 2147483647 := hrg0.1 1826 13 29 _ .int rfl rfl
  have g115 : -2147483648 ≤ (H.1 1826 35) ∧ (H.1 1826 35) ≤ 2147483647 := hrg0.1 1826 13 35 _ .int rfl rfl
  have g116 : -2147483648 ≤ (H.1 1826 32) ∧ (H.1 1826 32) ≤ 2147483647 := hrg0.1 1826 13 32 _ .int rfl rfl
  refine h_cv (i := 297) (j := 165) (b := 1826) (M' := mt_165) (xs := []) (rest := []) rfl rfl rfl rfl rfl rfl (Nat.le_of_ble_eq_true rfl) (Nat.le_of_ble_eq_true rfl) (by omega) (m_next (by omega) (by omega : 0 ≤ (H.1 1826 30) ∧ (H.1 1826 30) ≤ (H.1 1826 29) ∧ (H.1 1826 29) ≤ 1000) (by omega : 0 ≤ (H.1 1826 35) ∧ (H.1 1826 35) ≤ 5) (by omega : 0 ≤ (H.1 1826 32) ∧ (H.1 1826 32) ≤ 1000)) ?_
  rintro _ H117 ⟨rfl, hx117f, hx117a, hx117b, hx117c, -, hx117e, hx117g⟩
  refine h_rng (fun hrg118 => ?_)
  have hf119 : fr [30, 31, 32, 33, 35, 36, 8] [1832, 1833, 1834, 1835] H H117 := fr_t (fr_rf _ _ _) hx117f (by decide) (by decide)
  have ha120 : agp H H117 := agp_tr (agp_rf _) (agp_fr hx117f (by decide) (by decide))
  replace hx117a : (H.1 1826 30) ≤ (H117.1 1826 30) := hx117a
  replace hx117b : (H117.1 1826 30) ≤ (H.1 1826 29) := hx117b
  replace hx117g : (H117.1 1826 35) = 0 → ((H117.1 1826 31) = 0 ∨ (H.1 1826 30) < (H117.1 1826 30)) := hx117g
  refine h_run 0 (pc' := 4) (l' := [(0, .inr (.inr 1826))]) (st' := []) rfl ?_
  refine h_run 1 (pc' := 5) (l' := [(0, .inr (.inr 1826))]) (st' := [.inr (.inr 1826)]) rfl ?_
  have g121 : -2147483648 ≤ (H117.1 1826 35) ∧ (H117.1 1826 35) ≤ 2147483647 := hrg118.1 1826 13 35 _ .int rfl rfl
  refine h_cv (i := 293) (j := 158) (b := 1826) (M' := mt_158) (xs := []) (rest := []) rfl rfl rfl rfl rfl rfl (Nat.le_of_ble_eq_true rfl) (Nat.le_of_ble_eq_true rfl) (by omega) (m_good (by omega)) ?_
  rintro _ _ ⟨⟨rfl, b122⟩ | ⟨rfl, b122⟩, rfl⟩
  · have b122x : (H117.1 1826 35) = 0 := b122
    replace hx117g := hx117g b122x
    refine h_run 0 (pc' := 8) (l' := [(0, .inr (.inr 1826))]) (st' := [.inl 1]) rfl ?_
    refine h_zeq (off := 16) (t := 24) rfl rfl (by decide) (fun c => absurd c (by decide)) (fun _ => ?_)
    refine h_run 2 (pc' := 15) (l' := [(0, .inr (.inr 1826))]) (st' := [.inl (H117.1 1826 31)]) rfl ?_
    have g123 : -2147483648 ≤ (H117.1 1826 31) ∧ (H117.1 1826 31) ≤ 2147483647 := hrg118.1 1826 13 31 _ .int rfl rfl
    refine h_run 1 (pc' := 16) (l' := [(0, .inr (.inr 1826))]) (st' := [.inl 1, .inl (H117.1 1826 31)]) rfl ?_
    refine h_ieq (off := 8) (t := 24) rfl rfl (by omega) (by decide) (fun c124 => ?_) (fun c124 => ?_)
    · refine h_run 1 (pc' := 25) (l' := [(0, .inr (.inr 1826))]) (st' := [.inr (.inr 1826)]) rfl ?_
      refine h_cv (i := 293) (j := 158) (b := 1826) (M' := mt_158) (xs := []) (rest := []) rfl rfl rfl rfl rfl rfl (Nat.le_of_ble_eq_true rfl) (Nat.le_of_ble_eq_true rfl) (by omega) (m_good1 (by omega) (by omega : (H117.1 1826 35) = 0)) ?_
      rintro _ _ ⟨rfl, rfl⟩
      refine h_run 0 (pc' := 28) (l' := [(0, .inr (.inr 1826))]) (st' := [.inl 1]) rfl ?_
      refine h_zeq (off := 27) (t := 55) rfl rfl (by decide) (fun c => absurd c (by decide)) (fun _ => ?_)
      refine h_run 4 (pc' := 39) (l' := [(0, .inr (.inr 1826))]) (st' := [.inl (H117.1 1826 8), .inr (.inr 1832)]) rfl ?_
      have g125 : -2147483648 ≤ (H117.1 1826 8) ∧ (H117.1 1826 8) ≤ 2147483647 := hrg118.1 1826 13 8 _ .int rfl rfl
      have e126 : (H117.1 1826 8) = (H.1 1826 8) := hx117f.2.2 8 (by decide)
      refine h_run 2 (pc' := 43) (l' := [(0, .inr (.inr 1826))]) (st' := [.inr (.inl (H117.1 1826 33)), .inl (H117.1 1826 8), .inr (.inr 1832)]) rfl ?_
      have g127 : -9223372036854775808 ≤ (H117.1 1826 33) ∧ (H117.1 1826 33) ≤ 9223372036854775807 := hrg118.1 1826 13 33 _ .long rfl rfl
      refine h_cs (i := 309) (j := 167) (M' := mt_167) (xs := [.inr (.inl (H117.1 1826 33)), .inl (H117.1 1826 8), .inr (.inr 1832)]) (rest := []) rfl rfl rfl rfl rfl (Nat.le_of_ble_eq_true rfl) (Nat.le_of_ble_eq_true rfl) (by omega) (m_find (by omega) (m := 16) rfl (by omega : 0 ≤ (H117.1 1826 8) ∧ (H117.1 1826 8) ≤ ((16 : Nat) : Int) ∧ 16 ≤ 100) (by omega)) ?_
      rintro _ _ ⟨⟨k128, rfl, f129, f129x⟩ | ⟨rfl, f129⟩, rfl⟩
      · refine h_run 0 (pc' := 46) (l' := [(0, .inr (.inr 1826))]) (st' := [.inl (k128 : Int)]) rfl ?_
        refine h_run 1 (pc' := 47) (l' := [(0, .inr (.inr 1826))]) (st' := [.inl (-1), .inl (k128 : Int)]) rfl ?_
        refine h_ieq (off := 8) (t := 55) rfl rfl (by omega) (by decide) (fun c130 => ?_) (fun c130 => ?_)
        · refine h_run 1 (pc' := 56) (l' := [(0, .inr (.inr 1826))]) (st' := [.inr (.inr 1826)]) rfl ?_
          refine h_cv (i := 293) (j := 158) (b := 1826) (M' := mt_158) (xs := []) (rest := []) rfl rfl rfl rfl rfl rfl (Nat.le_of_ble_eq_true rfl) (Nat.le_of_ble_eq_true rfl) (by omega) (m_good1 (by omega) (by omega : (H117.1 1826 35) = 0)) ?_
          rintro _ _ ⟨rfl, rfl⟩
          refine h_run 0 (pc' := 59) (l' := [(0, .inr (.inr 1826))]) (st' := [.inl 1]) rfl ?_
          refine h_zeq (off := 17) (t := 76) rfl rfl (by decide) (fun c => absurd c (by decide)) (fun _ => ?_)
          refine h_run 2 (pc' := 66) (l' := [(0, .inr (.inr 1826))]) (st' := [.inl (H117.1 1826 8)]) rfl ?_
          refine h_run 1 (pc' := 68) (l' := [(0, .inr (.inr 1826))]) (st' := [.inl 16, .inl (H117.1 1826 8)]) rfl ?_
          refine h_ine (off := 8) (t := 76) rfl rfl (by omega) (by decide) (fun c131 => ?_) (fun c131 => ?_)
          · refine h_run 1 (pc' := 77) (l' := [(0, .inr (.inr 1826))]) (st' := [.inr (.inr 1826)]) rfl ?_
            refine h_cv (i := 293) (j := 158) (b := 1826) (M' := mt_158) (xs := []) (rest := []) rfl rfl rfl rfl rfl rfl (Nat.le_of_ble_eq_true rfl) (Nat.le_of_ble_eq_true rfl) (by omega) (m_good1 (by omega) (by omega : (H117.1 1826 35) = 0)) ?_
            rintro _ _ ⟨rfl, rfl⟩
            refine h_run 0 (pc' := 80) (l' := [(0, .inr (.inr 1826))]) (st' := [.inl 1]) rfl ?_
            refine h_zne (off := 4) (t := 84) rfl rfl (by decide) (fun _ => ?_) (fun c => absurd c (by decide))
            refine h_run 2 (pc' := 88) (l' := [(0, .inr (.inr 1826))]) (st' := [.inl (H117.1 1826 8)]) rfl ?_
            refine h_run 6 (pc' := 98) (l' := [(0, .inr (.inr 1826)), (1, .inl (H117.1 1826 8))]) (st' := [.inr (.inl (H117.1 1826 33)), .inl (H117.1 1826 8), .inr (.inr 1832)]) rfl ?_
            refine h_lst (c := 1832) (j := ((H117.1 1826 8)).toNat) (i := (H117.1 1826 8)) (x := (H117.1 1826 33)) rfl rfl (by decide) (by decide) (by omega) (by omega) (by first | omega | exact z_long _) ?_
            refine h_run 4 (pc' := 105) (l' := [(0, .inr (.inr 1826)), (1, .inl (H117.1 1826 8))]) (st' := [.inl 0, .inl (H117.1 1826 8), .inr (.inr 1833)]) rfl ?_
            refine h_ist (c := 1833) (j := ((H117.1 1826 8)).toNat) (i := (H117.1 1826 8)) (x := 0) rfl rfl (by decide) (by decide) (by omega) (by omega) (by decide) ?_
            refine h_run 3 (pc' := 111) (l' := [(0, .inr (.inr 1826)), (1, .inl (H117.1 1826 8))]) (st' := [.inl (H117.1 1826 8), .inr (.inr 1826)]) rfl ?_
            refine h_run 2 (pc' := 113) (l' := [(0, .inr (.inr 1826)), (1, .inl (H117.1 1826 8))]) (st' := [.inl ((H117.1 1826 8) + 1), .inr (.inr 1826)]) rfl ?_
            refine h_puti (i := 325) (ci := 13) (k := 8) (a := 1826) (x := ((H117.1 1826 8) + 1)) rfl rfl rfl rfl rfl rfl (by decide) (by omega) ?_
            refine h_run 1 (pc' := 117) (l' := [(0, .inr (.inr 1826)), (1, .inl (H117.1 1826 8))]) (st' := [.inr (.inr 1826)]) rfl ?_
            have g132 : -2147483648 ≤ (H117.1 1826 30) ∧ (H117.1 1826 30) ≤ 2147483647 := hrg118.1 1826 13 30 _ .int rfl rfl
            have g133 : -2147483648 ≤ (H117.1 1826 29) ∧ (H117.1 1826 29) ≤ 2147483647 := hrg118.1 1826 13 29 _ .int rfl rfl
            have e134 : (H117.1 1826 29) = (H.1 1826 29) := hx117f.2.2 29 (by decide)
            have g135 : -2147483648 ≤ (H117.1 1826 32) ∧ (H117.1 1826 32) ≤ 2147483647 := hrg118.1 1826 13 32 _ .int rfl rfl
            refine h_cv (i := 297) (j := 165) (b := 1826) (M' := mt_165) (xs := []) (rest := []) rfl rfl rfl rfl rfl rfl (Nat.le_of_ble_eq_true rfl) (Nat.le_of_ble_eq_true rfl) (by omega) (m_next (by omega) (by omega : 0 ≤ (H117.1 1826 30) ∧ (H117.1 1826 30) ≤ (H117.1 1826 29) ∧ (H117.1 1826 29) ≤ 1000) (by omega : 0 ≤ (H117.1 1826 35) ∧ (H117.1 1826 35) ≤ 5) (by omega : 0 ≤ (H117.1 1826 32) ∧ (H117.1 1826 32) ≤ 1000)) ?_
            rintro _ H136 ⟨rfl, hx136f, hx136a, hx136b, hx136c, -, hx136e, hx136g⟩
            refine h_rng (fun hrg137 => ?_)
            have hf138 : fr [30, 31, 32, 33, 35, 36, 8] [1832, 1833, 1834, 1835] H H136 := fr_t (fr_o (fr_a (fr_a hf119 (by decide)) (by decide)) (by decide)) hx136f (by decide) (by decide)
            have ha139 : agp H H136 := agp_tr (agp_n8 (agp_1833 (agp_a ha120 (by decide)) (by omega : (H.1 1826 8) ≤ ((((H117.1 1826 8)).toNat : Nat) : Int))) (by omega : (H.1 1826 8) ≤ ((H117.1 1826 8) + 1))) (agp_fr hx136f (by decide) (by decide))
            replace hx136a : (H117.1 1826 30) ≤ (H136.1 1826 30) := hx136a
            replace hx136b : (H136.1 1826 30) ≤ (H117.1 1826 29) := hx136b
            replace hx136g : (H136.1 1826 35) = 0 → ((H136.1 1826 31) = 0 ∨ (H117.1 1826 30) < (H136.1 1826 30)) := hx136g
            refine h_run 0 (pc' := 120) (l' := [(0, .inr (.inr 1826)), (1, .inl (H117.1 1826 8))]) (st' := []) rfl ?_
            refine h_run 2 (pc' := 123) (l' := [(0, .inr (.inr 1826)), (1, .inl (H117.1 1826 8))]) (st' := [.inl 58, .inr (.inr 1826)]) rfl ?_
            have g140 : -2147483648 ≤ (H136.1 1826 30) ∧ (H136.1 1826 30) ≤ 2147483647 := hrg137.1 1826 13 30 _ .int rfl rfl
            have g141 : -2147483648 ≤ (H136.1 1826 29) ∧ (H136.1 1826 29) ≤ 2147483647 := hrg137.1 1826 13 29 _ .int rfl rfl
            have e142 : (H136.1 1826 29) = (H117.1 1826 29) := hx136f.2.2 29 (by decide)
            have g143 : -2147483648 ≤ (H136.1 1826 35) ∧ (H136.1 1826 35) ≤ 2147483647 := hrg137.1 1826 13 35 _ .int rfl rfl
            have g144 : -2147483648 ≤ (H136.1 1826 31) ∧ (H136.1 1826 31) ≤ 2147483647 := hrg137.1 1826 13 31 _ .int rfl rfl
            have g146 : -2147483648 ≤ (H136.1 1826 32) ∧ (H136.1 1826 32) ≤ 2147483647 := hrg137.1 1826 13 32 _ .int rfl rfl
            refine h_cv (i := 313) (j := 166) (b := 1826) (M' := mt_166) (xs := [.inl 58]) (rest := []) rfl rfl rfl rfl rfl rfl (Nat.le_of_ble_eq_true rfl) (Nat.le_of_ble_eq_true rfl) (by omega) (m_want (by omega) (by omega : 0 ≤ (H136.1 1826 30) ∧ (H136.1 1826 30) ≤ (H136.1 1826 29) ∧ (H136.1 1826 29) ≤ 1000) (by omega : 0 ≤ (H136.1 1826 35) ∧ (H136.1 1826 35) ≤ 5) (by omega : 0 ≤ (H136.1 1826 32) ∧ (H136.1 1826 32) ≤ 1000) (by omega)) ?_
            rintro _ H145 ⟨rfl, hx145f, hx145a, hx145b, hx145c, hx145d, hx145e, hx145g⟩
            refine h_rng (fun hrg147 => ?_)
            have hf148 : fr [30, 31, 32, 33, 35, 36, 8] [1832, 1833, 1834, 1835] H H145 := fr_t hf138 hx145f (by decide) (by decide)
            have ha149 : agp H H145 := agp_tr ha139 (agp_fr hx145f (by decide) (by decide))
            replace hx145a : (H136.1 1826 30) ≤ (H145.1 1826 30) := hx145a
            replace hx145b : (H145.1 1826 30) ≤ (H136.1 1826 29) := hx145b
            replace hx145d : (H136.1 1826 35) ≠ 0 → (H145.1 1826 35) = (H136.1 1826 35) := hx145d
            replace hx145g : (H145.1 1826 35) = 0 → (H136.1 1826 31) = (58 : Int) ∧ ((H145.1 1826 31) = 0 ∨ (H136.1 1826 30) < (H145.1 1826 30)) := hx145g
            refine h_run 0 (pc' := 126) (l' := [(0, .inr (.inr 1826)), (1, .inl (H117.1 1826 8))]) (st' := []) rfl ?_
            refine h_run 1 (pc' := 127) (l' := [(0, .inr (.inr 1826)), (1, .inl (H117.1 1826 8))]) (st' := [.inr (.inr 1826)]) rfl ?_
            have g150 : -2147483648 ≤ (H145.1 1826 35) ∧ (H145.1 1826 35) ≤ 2147483647 := hrg147.1 1826 13 35 _ .int rfl rfl
            have g151 : -2147483648 ≤ (H145.1 1826 1) ∧ (H145.1 1826 1) ≤ 2147483647 := hrg147.1 1826 13 1 _ .int rfl rfl
            have e152 : (H145.1 1826 1) = (H136.1 1826 1) := hx145f.2.2 1 (by decide)
            have e153 : (H136.1 1826 1) = (H117.1 1826 1) := hx136f.2.2 1 (by decide)
            have e154 : (H117.1 1826 1) = (H.1 1826 1) := hx117f.2.2 1 (by decide)
            have g155 : -2147483648 ≤ (H145.1 1826 31) ∧ (H145.1 1826 31) ≤ 2147483647 := hrg147.1 1826 13 31 _ .int rfl rfl
            refine h_cv (i := 322) (j := 172) (b := 1826) (M' := mt_172) (xs := []) (rest := []) rfl rfl rfl rfl rfl rfl (Nat.le_of_ble_eq_true rfl) (Nat.le_of_ble_eq_true rfl) (by omega) (m_type (by omega) (by omega : 0 ≤ (H145.1 1826 35) ∧ (H145.1 1826 35) ≤ 5) (by omega : 0 ≤ (H145.1 1826 1) ∧ (H145.1 1826 1) ≤ 6)) ?_
            rintro _ H156 ⟨ht156t, rfl, ht156f, ht156b, ht156d, ht156g, ht156e⟩
            refine h_rng (fun hrg157 => ?_)
            have hf158 : fr [30, 31, 32, 33, 35, 36, 8] [1832, 1833, 1834, 1835] H H156 := fr_t hf148 ht156f (by decide) (by decide)
            have ha159 : agp H H156 := agp_tr ha149 (agp_fr ht156f (by decide) (by decide))
            replace ht156d : (H145.1 1826 35) ≠ 0 → (H156.1 1826 35) = (H145.1 1826 35) := ht156d
            replace ht156g : (H156.1 1826 35) = 0 → (H145.1 1826 35) = 0 ∧ (H145.1 1826 31) = 2 ∧ 0 ≤ ht156t ∧ ht156t < (H145.1 1826 1) := ht156g
            refine h_run 0 (pc' := 130) (l' := [(0, .inr (.inr 1826)), (1, .inl (H117.1 1826 8))]) (st' := [.inl ht156t]) rfl ?_
            refine h_run 2 (pc' := 132) (l' := [(0, .inr (.inr 1826)), (1, .inl (H117.1 1826 8)), (2, .inl ht156t)]) (st' := [.inr (.inr 1826)]) rfl ?_
            have g160 : -2147483648 ≤ (H156.1 1826 35) ∧ (H156.1 1826 35) ≤ 2147483647 := hrg157.1 1826 13 35 _ .int rfl rfl
            refine h_cv (i := 293) (j := 158) (b := 1826) (M' := mt_158) (xs := []) (rest := []) rfl rfl rfl rfl rfl rfl (Nat.le_of_ble_eq_true rfl) (Nat.le_of_ble_eq_true rfl) (by omega) (m_good (by omega)) ?_
            rintro _ _ ⟨⟨rfl, b161⟩ | ⟨rfl, b161⟩, rfl⟩
            · have b161x : (H156.1 1826 35) = 0 := b161
              replace ht156g := ht156g b161x
              refine h_run 0 (pc' := 135) (l' := [(0, .inr (.inr 1826)), (1, .inl (H117.1 1826 8)), (2, .inl ht156t)]) (st' := [.inl 1]) rfl ?_
              refine h_zeq (off := 7) (t := 142) rfl rfl (by decide) (fun c => absurd c (by decide)) (fun _ => ?_)
              refine h_run 1 (pc' := 139) (l' := [(0, .inr (.inr 1826)), (1, .inl (H117.1 1826 8)), (2, .inl ht156t)]) (st' := [.inr (.inr 1826)]) rfl ?_
              have g162 : -2147483648 ≤ (H156.1 1826 30) ∧ (H156.1 1826 30) ≤ 2147483647 := hrg157.1 1826 13 30 _ .int rfl rfl
              have e163 : (H156.1 1826 30) = (H145.1 1826 30) := ht156f.2.2 30 (by decide)
              have g164 : -2147483648 ≤ (H156.1 1826 29) ∧ (H156.1 1826 29) ≤ 2147483647 := hrg157.1 1826 13 29 _ .int rfl rfl
              have e165 : (H156.1 1826 29) = (H145.1 1826 29) := ht156f.2.2 29 (by decide)
              have e166 : (H145.1 1826 29) = (H136.1 1826 29) := hx145f.2.2 29 (by decide)
              have g167 : -2147483648 ≤ (H156.1 1826 32) ∧ (H156.1 1826 32) ≤ 2147483647 := hrg157.1 1826 13 32 _ .int rfl rfl
              have e168 : (H156.1 1826 32) = (H145.1 1826 32) := ht156f.2.2 32 (by decide)
              refine h_cv (i := 297) (j := 165) (b := 1826) (M' := mt_165) (xs := []) (rest := []) rfl rfl rfl rfl rfl rfl (Nat.le_of_ble_eq_true rfl) (Nat.le_of_ble_eq_true rfl) (by omega) (m_next (by omega) (by omega : 0 ≤ (H156.1 1826 30) ∧ (H156.1 1826 30) ≤ (H156.1 1826 29) ∧ (H156.1 1826 29) ≤ 1000) (by omega : 0 ≤ (H156.1 1826 35) ∧ (H156.1 1826 35) ≤ 5) (by omega : 0 ≤ (H156.1 1826 32) ∧ (H156.1 1826 32) ≤ 1000)) ?_
              rintro _ H169 ⟨rfl, hx169f, hx169a, hx169b, hx169c, -, hx169e, hx169g⟩
              refine h_rng (fun hrg170 => ?_)
              have hf171 : fr [30, 31, 32, 33, 35, 36, 8] [1832, 1833, 1834, 1835] H H169 := fr_t hf158 hx169f (by decide) (by decide)
              have ha172 : agp H H169 := agp_tr ha159 (agp_fr hx169f (by decide) (by decide))
              replace hx169a : (H156.1 1826 30) ≤ (H169.1 1826 30) := hx169a
              replace hx169b : (H169.1 1826 30) ≤ (H156.1 1826 29) := hx169b
              replace hx169g : (H169.1 1826 35) = 0 → ((H169.1 1826 31) = 0 ∨ (H156.1 1826 30) < (H169.1 1826 30)) := hx169g
              refine h_run 0 (pc' := 142) (l' := [(0, .inr (.inr 1826)), (1, .inl (H117.1 1826 8)), (2, .inl ht156t)]) (st' := []) rfl ?_
              have g173 : -2147483648 ≤ (H169.1 1826 30) ∧ (H169.1 1826 30) ≤ 2147483647 := hrg170.1 1826 13 30 _ .int rfl rfl
              have g174 : -2147483648 ≤ (H169.1 1826 35) ∧ (H169.1 1826 35) ≤ 2147483647 := hrg170.1 1826 13 35 _ .int rfl rfl
              have g175 : -2147483648 ≤ (H169.1 1826 32) ∧ (H169.1 1826 32) ≤ 2147483647 := hrg170.1 1826 13 32 _ .int rfl rfl
              have g176 : -2147483648 ≤ (H169.1 1826 31) ∧ (H169.1 1826 31) ≤ 2147483647 := hrg170.1 1826 13 31 _ .int rfl rfl
              have g177 : -2147483648 ≤ (H169.1 1826 3) ∧ (H169.1 1826 3) ≤ 2147483647 := hrg170.1 1826 13 3 _ .int rfl rfl
              have e178 : (H169.1 1826 3) = (H156.1 1826 3) := hx169f.2.2 3 (by decide)
              have e179 : (H156.1 1826 3) = (H145.1 1826 3) := ht156f.2.2 3 (by decide)
              have e180 : (H145.1 1826 3) = (H136.1 1826 3) := hx145f.2.2 3 (by decide)
              have e181 : (H136.1 1826 3) = (H117.1 1826 3) := hx136f.2.2 3 (by decide)
              have e182 : (H117.1 1826 3) = (H.1 1826 3) := hx117f.2.2 3 (by decide)
              have g183 : -2147483648 ≤ (H169.1 1826 29) ∧ (H169.1 1826 29) ≤ 2147483647 := hrg170.1 1826 13 29 _ .int rfl rfl
              have e184 : (H169.1 1826 29) = (H156.1 1826 29) := hx169f.2.2 29 (by decide)
              have g185 : -2147483648 ≤ (H169.1 1826 1) ∧ (H169.1 1826 1) ≤ 2147483647 := hrg170.1 1826 13 1 _ .int rfl rfl
              have e186 : (H169.1 1826 1) = (H156.1 1826 1) := hx169f.2.2 1 (by decide)
              have e187 : (H156.1 1826 1) = (H145.1 1826 1) := ht156f.2.2 1 (by decide)
              have g188 : -2147483648 ≤ (H169.1 1826 8) ∧ (H169.1 1826 8) ≤ 2147483647 := hrg170.1 1826 13 8 _ .int rfl rfl
              have e189 : (H169.1 1826 8) = (H156.1 1826 8) := hx169f.2.2 8 (by decide)
              have e190 : (H156.1 1826 8) = (H145.1 1826 8) := ht156f.2.2 8 (by decide)
              have e191 : (H145.1 1826 8) = (H136.1 1826 8) := hx145f.2.2 8 (by decide)
              have e192 : (H136.1 1826 8) = ((H117.1 1826 8) + 1) := hx136f.2.2 8 (by decide)
              rw [show (H117.1 1826 8) = ((((H117.1 1826 8)).toNat : Nat) : Int) by omega]
              exact (m_function_cut hd h0 hw hst hP hw0 _) _ ((H117.1 1826 8)).toNat ht156t hf171 (by omega : (H.1 1826 30) ≤ (H169.1 1826 30) ∧ (H169.1 1826 30) ≤ (H.1 1826 29)) (by omega : 0 ≤ (H169.1 1826 35) ∧ (H169.1 1826 35) ≤ 5) (by omega : 0 ≤ (H169.1 1826 32) ∧ (H169.1 1826 32) ≤ 1000) ha172 (by omega) (by omega : (((H117.1 1826 8)).toNat : Int) = (H.1 1826 8) ∧ (H.1 1826 8) ≤ 15) (by omega : (H169.1 1826 8) = (H.1 1826 8) + 1) (by omega : -1 ≤ ht156t ∧ ht156t ≤ 6) (by omega : (H169.1 1826 35) = 0 → 0 ≤ ht156t ∧ ht156t < (H169.1 1826 1)) (fun _ => by rw [show (H169.1 1833) = up (H117.1 1833) ((H117.1 1826 8)).toNat 0 from ((((hx169f.2.1 1833 (by decide) (by decide)).trans (ht156f.2.1 1833 (by decide) (by decide))).trans (hx145f.2.1 1833 (by decide) (by decide))).trans (hx136f.2.1 1833 (by decide) (by decide))), up_eq]; exact ⟨by omega, fun i hi => absurd hi (by omega)⟩) (Nat.lt_succ_self _)
            · have b161x : (H156.1 1826 35) ≠ 0 := b161
              clear ht156g
              refine h_run 0 (pc' := 135) (l' := [(0, .inr (.inr 1826)), (1, .inl (H117.1 1826 8)), (2, .inl ht156t)]) (st' := [.inl 0]) rfl ?_
              refine h_zeq (off := 7) (t := 142) rfl rfl (by decide) (fun _ => ?_) (fun c => absurd c (by decide))
              have g193 : -2147483648 ≤ (H156.1 1826 30) ∧ (H156.1 1826 30) ≤ 2147483647 := hrg157.1 1826 13 30 _ .int rfl rfl
              have e194 : (H156.1 1826 30) = (H145.1 1826 30) := ht156f.2.2 30 (by decide)
              have g195 : -2147483648 ≤ (H156.1 1826 32) ∧ (H156.1 1826 32) ≤ 2147483647 := hrg157.1 1826 13 32 _ .int rfl rfl
              have e196 : (H156.1 1826 32) = (H145.1 1826 32) := ht156f.2.2 32 (by decide)
              have g197 : -2147483648 ≤ (H156.1 1826 31) ∧ (H156.1 1826 31) ≤ 2147483647 := hrg157.1 1826 13 31 _ .int rfl rfl
              have e198 : (H156.1 1826 31) = (H145.1 1826 31) := ht156f.2.2 31 (by decide)
              have g199 : -2147483648 ≤ (H156.1 1826 3) ∧ (H156.1 1826 3) ≤ 2147483647 := hrg157.1 1826 13 3 _ .int rfl rfl
              have e200 : (H156.1 1826 3) = (H145.1 1826 3) := ht156f.2.2 3 (by decide)
              have e201 : (H145.1 1826 3) = (H136.1 1826 3) := hx145f.2.2 3 (by decide)
              have e202 : (H136.1 1826 3) = (H117.1 1826 3) := hx136f.2.2 3 (by decide)
              have e203 : (H117.1 1826 3) = (H.1 1826 3) := hx117f.2.2 3 (by decide)
              have g204 : -2147483648 ≤ (H156.1 1826 29) ∧ (H156.1 1826 29) ≤ 2147483647 := hrg157.1 1826 13 29 _ .int rfl rfl
              have e205 : (H156.1 1826 29) = (H145.1 1826 29) := ht156f.2.2 29 (by decide)
              have e206 : (H145.1 1826 29) = (H136.1 1826 29) := hx145f.2.2 29 (by decide)
              have g207 : -2147483648 ≤ (H156.1 1826 1) ∧ (H156.1 1826 1) ≤ 2147483647 := hrg157.1 1826 13 1 _ .int rfl rfl
              have e208 : (H156.1 1826 1) = (H145.1 1826 1) := ht156f.2.2 1 (by decide)
              have g209 : -2147483648 ≤ (H156.1 1826 8) ∧ (H156.1 1826 8) ≤ 2147483647 := hrg157.1 1826 13 8 _ .int rfl rfl
              have e210 : (H156.1 1826 8) = (H145.1 1826 8) := ht156f.2.2 8 (by decide)
              have e211 : (H145.1 1826 8) = (H136.1 1826 8) := hx145f.2.2 8 (by decide)
              have e212 : (H136.1 1826 8) = ((H117.1 1826 8) + 1) := hx136f.2.2 8 (by decide)
              rw [show (H117.1 1826 8) = ((((H117.1 1826 8)).toNat : Nat) : Int) by omega]
              exact (m_function_cut hd h0 hw hst hP hw0 _) _ ((H117.1 1826 8)).toNat ht156t hf158 (by omega : (H.1 1826 30) ≤ (H156.1 1826 30) ∧ (H156.1 1826 30) ≤ (H.1 1826 29)) (by omega : 0 ≤ (H156.1 1826 35) ∧ (H156.1 1826 35) ≤ 5) (by omega : 0 ≤ (H156.1 1826 32) ∧ (H156.1 1826 32) ≤ 1000) ha159 (by omega) (by omega : (((H117.1 1826 8)).toNat : Int) = (H.1 1826 8) ∧ (H.1 1826 8) ≤ 15) (by omega : (H156.1 1826 8) = (H.1 1826 8) + 1) (by omega : -1 ≤ ht156t ∧ ht156t ≤ 6) (by omega : (H156.1 1826 35) = 0 → 0 ≤ ht156t ∧ ht156t < (H156.1 1826 1)) (fun _ => by rw [show (H156.1 1833) = up (H117.1 1833) ((H117.1 1826 8)).toNat 0 from (((ht156f.2.1 1833 (by decide) (by decide)).trans (hx145f.2.1 1833 (by decide) (by decide))).trans (hx136f.2.1 1833 (by decide) (by decide))), up_eq]; exact ⟨by omega, fun i hi => absurd hi (by omega)⟩) (Nat.lt_succ_self _)
          · refine h_run 2 (pc' := 73) (l' := [(0, .inr (.inr 1826))]) (st' := [.inl 5, .inr (.inr 1826)]) rfl ?_
            refine h_cv (i := 278) (j := 159) (b := 1826) (M' := mt_159) (xs := [.inl 5]) (rest := []) rfl rfl rfl rfl rfl rfl (Nat.le_of_ble_eq_true rfl) (Nat.le_of_ble_eq_true rfl) (by omega) (m_bad0 (by omega) (by omega) (by omega : (H117.1 1826 35) = 0)) ?_
            rintro _ _ ⟨rfl, rfl⟩
            refine h_run 0 (pc' := 76) (l' := [(0, .inr (.inr 1826))]) (st' := []) rfl ?_
            refine h_run 1 (pc' := 77) (l' := [(0, .inr (.inr 1826))]) (st' := [.inr (.inr 1826)]) rfl ?_
            refine h_cv (i := 293) (j := 158) (b := 1826) (M' := mt_158) (xs := []) (rest := []) rfl rfl rfl rfl rfl rfl (Nat.le_of_ble_eq_true rfl) (Nat.le_of_ble_eq_true rfl) (by omega) (m_good0 (by omega) (by omega : (5 : Int) ≠ 0)) ?_
            rintro _ _ ⟨rfl, rfl⟩
            refine h_run 0 (pc' := 80) (l' := [(0, .inr (.inr 1826))]) (st' := [.inl 0]) rfl ?_
            refine h_zne (off := 4) (t := 84) rfl rfl (by decide) (fun c => absurd c (by decide)) (fun _ => ?_)
            refine h_ret rfl rfl ?_
            have g213 : -2147483648 ≤ (H117.1 1826 30) ∧ (H117.1 1826 30) ≤ 2147483647 := hrg118.1 1826 13 30 _ .int rfl rfl
            have g214 : -2147483648 ≤ (H117.1 1826 32) ∧ (H117.1 1826 32) ≤ 2147483647 := hrg118.1 1826 13 32 _ .int rfl rfl
            have g215 : -2147483648 ≤ (H117.1 1826 29) ∧ (H117.1 1826 29) ≤ 2147483647 := hrg118.1 1826 13 29 _ .int rfl rfl
            have e216 : (H117.1 1826 29) = (H.1 1826 29) := hx117f.2.2 29 (by decide)
            have g217 : -2147483648 ≤ (H117.1 1826 1) ∧ (H117.1 1826 1) ≤ 2147483647 := hrg118.1 1826 13 1 _ .int rfl rfl
            have e218 : (H117.1 1826 1) = (H.1 1826 1) := hx117f.2.2 1 (by decide)
            have g219 : -2147483648 ≤ (H117.1 1826 3) ∧ (H117.1 1826 3) ≤ 2147483647 := hrg118.1 1826 13 3 _ .int rfl rfl
            have e220 : (H117.1 1826 3) = (H.1 1826 3) := hx117f.2.2 3 (by decide)
            have g221 : -2147483648 ≤ (H117.1 1826 13) ∧ (H117.1 1826 13) ≤ 2147483647 := hrg118.1 1826 13 13 _ .int rfl rfl
            have e222 : (H117.1 1826 13) = (H.1 1826 13) := hx117f.2.2 13 (by decide)
            have g223 : -2147483648 ≤ (H117.1 1826 19) ∧ (H117.1 1826 19) ≤ 2147483647 := hrg118.1 1826 13 19 _ .int rfl rfl
            have e224 : (H117.1 1826 19) = (H.1 1826 19) := hx117f.2.2 19 (by decide)
            exact ⟨rfl, (fr_o (fr_o hf119 (by decide)) (by decide)), (by omega : (H.1 1826 30) ≤ (H117.1 1826 30) ∧ (H117.1 1826 30) ≤ (H.1 1826 29)), (by omega : 0 ≤ (5 : Int) ∧ (5 : Int) ≤ 5), (by omega : (H.1 1826 35) ≠ 0 → (5 : Int) ≠ 0), (by omega : 0 ≤ (H117.1 1826 32) ∧ (H117.1 1826 32) ≤ 1000), (agp_o (agp_o ha120 (by decide)) (by decide)), (fun (q : (5 : Int) = 0) => absurd q (by omega))⟩
        · refine h_run 2 (pc' := 52) (l' := [(0, .inr (.inr 1826))]) (st' := [.inl 3, .inr (.inr 1826)]) rfl ?_
          refine h_cv (i := 278) (j := 159) (b := 1826) (M' := mt_159) (xs := [.inl 3]) (rest := []) rfl rfl rfl rfl rfl rfl (Nat.le_of_ble_eq_true rfl) (Nat.le_of_ble_eq_true rfl) (by omega) (m_bad0 (by omega) (by omega) (by omega : (H117.1 1826 35) = 0)) ?_
          rintro _ _ ⟨rfl, rfl⟩
          refine h_run 0 (pc' := 55) (l' := [(0, .inr (.inr 1826))]) (st' := []) rfl ?_
          refine h_run 1 (pc' := 56) (l' := [(0, .inr (.inr 1826))]) (st' := [.inr (.inr 1826)]) rfl ?_
          refine h_cv (i := 293) (j := 158) (b := 1826) (M' := mt_158) (xs := []) (rest := []) rfl rfl rfl rfl rfl rfl (Nat.le_of_ble_eq_true rfl) (Nat.le_of_ble_eq_true rfl) (by omega) (m_good0 (by omega) (by omega : (3 : Int) ≠ 0)) ?_
          rintro _ _ ⟨rfl, rfl⟩
          refine h_run 0 (pc' := 59) (l' := [(0, .inr (.inr 1826))]) (st' := [.inl 0]) rfl ?_
          refine h_zeq (off := 17) (t := 76) rfl rfl (by decide) (fun _ => ?_) (fun c => absurd c (by decide))
          refine h_run 1 (pc' := 77) (l' := [(0, .inr (.inr 1826))]) (st' := [.inr (.inr 1826)]) rfl ?_
          refine h_cv (i := 293) (j := 158) (b := 1826) (M' := mt_158) (xs := []) (rest := []) rfl rfl rfl rfl rfl rfl (Nat.le_of_ble_eq_true rfl) (Nat.le_of_ble_eq_true rfl) (by omega) (m_good0 (by omega) (by omega : (3 : Int) ≠ 0)) ?_
          rintro _ _ ⟨rfl, rfl⟩
          refine h_run 0 (pc' := 80) (l' := [(0, .inr (.inr 1826))]) (st' := [.inl 0]) rfl ?_
          refine h_zne (off := 4) (t := 84) rfl rfl (by decide) (fun c => absurd c (by decide)) (fun _ => ?_)
          refine h_ret rfl rfl ?_
          have g225 : -2147483648 ≤ (H117.1 1826 30) ∧ (H117.1 1826 30) ≤ 2147483647 := hrg118.1 1826 13 30 _ .int rfl rfl
          have g226 : -2147483648 ≤ (H117.1 1826 32) ∧ (H117.1 1826 32) ≤ 2147483647 := hrg118.1 1826 13 32 _ .int rfl rfl
          have g227 : -2147483648 ≤ (H117.1 1826 29) ∧ (H117.1 1826 29) ≤ 2147483647 := hrg118.1 1826 13 29 _ .int rfl rfl
          have e228 : (H117.1 1826 29) = (H.1 1826 29) := hx117f.2.2 29 (by decide)
          have g229 : -2147483648 ≤ (H117.1 1826 1) ∧ (H117.1 1826 1) ≤ 2147483647 := hrg118.1 1826 13 1 _ .int rfl rfl
          have e230 : (H117.1 1826 1) = (H.1 1826 1) := hx117f.2.2 1 (by decide)
          have g231 : -2147483648 ≤ (H117.1 1826 3) ∧ (H117.1 1826 3) ≤ 2147483647 := hrg118.1 1826 13 3 _ .int rfl rfl
          have e232 : (H117.1 1826 3) = (H.1 1826 3) := hx117f.2.2 3 (by decide)
          have g233 : -2147483648 ≤ (H117.1 1826 13) ∧ (H117.1 1826 13) ≤ 2147483647 := hrg118.1 1826 13 13 _ .int rfl rfl
          have e234 : (H117.1 1826 13) = (H.1 1826 13) := hx117f.2.2 13 (by decide)
          have g235 : -2147483648 ≤ (H117.1 1826 19) ∧ (H117.1 1826 19) ≤ 2147483647 := hrg118.1 1826 13 19 _ .int rfl rfl
          have e236 : (H117.1 1826 19) = (H.1 1826 19) := hx117f.2.2 19 (by decide)
          exact ⟨rfl, (fr_o (fr_o hf119 (by decide)) (by decide)), (by omega : (H.1 1826 30) ≤ (H117.1 1826 30) ∧ (H117.1 1826 30) ≤ (H.1 1826 29)), (by omega : 0 ≤ (3 : Int) ∧ (3 : Int) ≤ 5), (by omega : (H.1 1826 35) ≠ 0 → (3 : Int) ≠ 0), (by omega : 0 ≤ (H117.1 1826 32) ∧ (H117.1 1826 32) ≤ 1000), (agp_o (agp_o ha120 (by decide)) (by decide)), (fun (q : (3 : Int) = 0) => absurd q (by omega))⟩
      · refine h_run 0 (pc' := 46) (l' := [(0, .inr (.inr 1826))]) (st' := [.inl (-1)]) rfl ?_
        refine h_run 1 (pc' := 47) (l' := [(0, .inr (.inr 1826))]) (st' := [.inl (-1), .inl (-1)]) rfl ?_
        refine h_ieq (off := 8) (t := 55) rfl rfl (by decide) (by decide) (fun _ => ?_) (fun c => absurd c (by decide))
        refine h_run 1 (pc' := 56) (l' := [(0, .inr (.inr 1826))]) (st' := [.inr (.inr 1826)]) rfl ?_
        refine h_cv (i := 293) (j := 158) (b := 1826) (M' := mt_158) (xs := []) (rest := []) rfl rfl rfl rfl rfl rfl (Nat.le_of_ble_eq_true rfl) (Nat.le_of_ble_eq_true rfl) (by omega) (m_good1 (by omega) (by omega : (H117.1 1826 35) = 0)) ?_
        rintro _ _ ⟨rfl, rfl⟩
        refine h_run 0 (pc' := 59) (l' := [(0, .inr (.inr 1826))]) (st' := [.inl 1]) rfl ?_
        refine h_zeq (off := 17) (t := 76) rfl rfl (by decide) (fun c => absurd c (by decide)) (fun _ => ?_)
        refine h_run 2 (pc' := 66) (l' := [(0, .inr (.inr 1826))]) (st' := [.inl (H117.1 1826 8)]) rfl ?_
        refine h_run 1 (pc' := 68) (l' := [(0, .inr (.inr 1826))]) (st' := [.inl 16, .inl (H117.1 1826 8)]) rfl ?_
        refine h_ine (off := 8) (t := 76) rfl rfl (by omega) (by decide) (fun c237 => ?_) (fun c237 => ?_)
        · refine h_run 1 (pc' := 77) (l' := [(0, .inr (.inr 1826))]) (st' := [.inr (.inr 1826)]) rfl ?_
          refine h_cv (i := 293) (j := 158) (b := 1826) (M' := mt_158) (xs := []) (rest := []) rfl rfl rfl rfl rfl rfl (Nat.le_of_ble_eq_true rfl) (Nat.le_of_ble_eq_true rfl) (by omega) (m_good1 (by omega) (by omega : (H117.1 1826 35) = 0)) ?_
          rintro _ _ ⟨rfl, rfl⟩
          refine h_run 0 (pc' := 80) (l' := [(0, .inr (.inr 1826))]) (st' := [.inl 1]) rfl ?_
          refine h_zne (off := 4) (t := 84) rfl rfl (by decide) (fun _ => ?_) (fun c => absurd c (by decide))
          refine h_run 2 (pc' := 88) (l' := [(0, .inr (.inr 1826))]) (st' := [.inl (H117.1 1826 8)]) rfl ?_
          refine h_run 6 (pc' := 98) (l' := [(0, .inr (.inr 1826)), (1, .inl (H117.1 1826 8))]) (st' := [.inr (.inl (H117.1 1826 33)), .inl (H117.1 1826 8), .inr (.inr 1832)]) rfl ?_
          refine h_lst (c := 1832) (j := ((H117.1 1826 8)).toNat) (i := (H117.1 1826 8)) (x := (H117.1 1826 33)) rfl rfl (by decide) (by decide) (by omega) (by omega) (by first | omega | exact z_long _) ?_
          refine h_run 4 (pc' := 105) (l' := [(0, .inr (.inr 1826)), (1, .inl (H117.1 1826 8))]) (st' := [.inl 0, .inl (H117.1 1826 8), .inr (.inr 1833)]) rfl ?_
          refine h_ist (c := 1833) (j := ((H117.1 1826 8)).toNat) (i := (H117.1 1826 8)) (x := 0) rfl rfl (by decide) (by decide) (by omega) (by omega) (by decide) ?_
          refine h_run 3 (pc' := 111) (l' := [(0, .inr (.inr 1826)), (1, .inl (H117.1 1826 8))]) (st' := [.inl (H117.1 1826 8), .inr (.inr 1826)]) rfl ?_
          refine h_run 2 (pc' := 113) (l' := [(0, .inr (.inr 1826)), (1, .inl (H117.1 1826 8))]) (st' := [.inl ((H117.1 1826 8) + 1), .inr (.inr 1826)]) rfl ?_
          refine h_puti (i := 325) (ci := 13) (k := 8) (a := 1826) (x := ((H117.1 1826 8) + 1)) rfl rfl rfl rfl rfl rfl (by decide) (by omega) ?_
          refine h_run 1 (pc' := 117) (l' := [(0, .inr (.inr 1826)), (1, .inl (H117.1 1826 8))]) (st' := [.inr (.inr 1826)]) rfl ?_
          have g238 : -2147483648 ≤ (H117.1 1826 30) ∧ (H117.1 1826 30) ≤ 2147483647 := hrg118.1 1826 13 30 _ .int rfl rfl
          have g239 : -2147483648 ≤ (H117.1 1826 29) ∧ (H117.1 1826 29) ≤ 2147483647 := hrg118.1 1826 13 29 _ .int rfl rfl
          have e240 : (H117.1 1826 29) = (H.1 1826 29) := hx117f.2.2 29 (by decide)
          have g241 : -2147483648 ≤ (H117.1 1826 32) ∧ (H117.1 1826 32) ≤ 2147483647 := hrg118.1 1826 13 32 _ .int rfl rfl
          refine h_cv (i := 297) (j := 165) (b := 1826) (M' := mt_165) (xs := []) (rest := []) rfl rfl rfl rfl rfl rfl (Nat.le_of_ble_eq_true rfl) (Nat.le_of_ble_eq_true rfl) (by omega) (m_next (by omega) (by omega : 0 ≤ (H117.1 1826 30) ∧ (H117.1 1826 30) ≤ (H117.1 1826 29) ∧ (H117.1 1826 29) ≤ 1000) (by omega : 0 ≤ (H117.1 1826 35) ∧ (H117.1 1826 35) ≤ 5) (by omega : 0 ≤ (H117.1 1826 32) ∧ (H117.1 1826 32) ≤ 1000)) ?_
          rintro _ H242 ⟨rfl, hx242f, hx242a, hx242b, hx242c, -, hx242e, hx242g⟩
          refine h_rng (fun hrg243 => ?_)
          have hf244 : fr [30, 31, 32, 33, 35, 36, 8] [1832, 1833, 1834, 1835] H H242 := fr_t (fr_o (fr_a (fr_a hf119 (by decide)) (by decide)) (by decide)) hx242f (by decide) (by decide)
          have ha245 : agp H H242 := agp_tr (agp_n8 (agp_1833 (agp_a ha120 (by decide)) (by omega : (H.1 1826 8) ≤ ((((H117.1 1826 8)).toNat : Nat) : Int))) (by omega : (H.1 1826 8) ≤ ((H117.1 1826 8) + 1))) (agp_fr hx242f (by decide) (by decide))
          replace hx242a : (H117.1 1826 30) ≤ (H242.1 1826 30) := hx242a
          replace hx242b : (H242.1 1826 30) ≤ (H117.1 1826 29) := hx242b
          replace hx242g : (H242.1 1826 35) = 0 → ((H242.1 1826 31) = 0 ∨ (H117.1 1826 30) < (H242.1 1826 30)) := hx242g
          refine h_run 0 (pc' := 120) (l' := [(0, .inr (.inr 1826)), (1, .inl (H117.1 1826 8))]) (st' := []) rfl ?_
          refine h_run 2 (pc' := 123) (l' := [(0, .inr (.inr 1826)), (1, .inl (H117.1 1826 8))]) (st' := [.inl 58, .inr (.inr 1826)]) rfl ?_
          have g246 : -2147483648 ≤ (H242.1 1826 30) ∧ (H242.1 1826 30) ≤ 2147483647 := hrg243.1 1826 13 30 _ .int rfl rfl
          have g247 : -2147483648 ≤ (H242.1 1826 29) ∧ (H242.1 1826 29) ≤ 2147483647 := hrg243.1 1826 13 29 _ .int rfl rfl
          have e248 : (H242.1 1826 29) = (H117.1 1826 29) := hx242f.2.2 29 (by decide)
          have g249 : -2147483648 ≤ (H242.1 1826 35) ∧ (H242.1 1826 35) ≤ 2147483647 := hrg243.1 1826 13 35 _ .int rfl rfl
          have g250 : -2147483648 ≤ (H242.1 1826 31) ∧ (H242.1 1826 31) ≤ 2147483647 := hrg243.1 1826 13 31 _ .int rfl rfl
          have g252 : -2147483648 ≤ (H242.1 1826 32) ∧ (H242.1 1826 32) ≤ 2147483647 := hrg243.1 1826 13 32 _ .int rfl rfl
          refine h_cv (i := 313) (j := 166) (b := 1826) (M' := mt_166) (xs := [.inl 58]) (rest := []) rfl rfl rfl rfl rfl rfl (Nat.le_of_ble_eq_true rfl) (Nat.le_of_ble_eq_true rfl) (by omega) (m_want (by omega) (by omega : 0 ≤ (H242.1 1826 30) ∧ (H242.1 1826 30) ≤ (H242.1 1826 29) ∧ (H242.1 1826 29) ≤ 1000) (by omega : 0 ≤ (H242.1 1826 35) ∧ (H242.1 1826 35) ≤ 5) (by omega : 0 ≤ (H242.1 1826 32) ∧ (H242.1 1826 32) ≤ 1000) (by omega)) ?_
          rintro _ H251 ⟨rfl, hx251f, hx251a, hx251b, hx251c, hx251d, hx251e, hx251g⟩
          refine h_rng (fun hrg253 => ?_)
          have hf254 : fr [30, 31, 32, 33, 35, 36, 8] [1832, 1833, 1834, 1835] H H251 := fr_t hf244 hx251f (by decide) (by decide)
          have ha255 : agp H H251 := agp_tr ha245 (agp_fr hx251f (by decide) (by decide))
          replace hx251a : (H242.1 1826 30) ≤ (H251.1 1826 30) := hx251a
          replace hx251b : (H251.1 1826 30) ≤ (H242.1 1826 29) := hx251b
          replace hx251d : (H242.1 1826 35) ≠ 0 → (H251.1 1826 35) = (H242.1 1826 35) := hx251d
          replace hx251g : (H251.1 1826 35) = 0 → (H242.1 1826 31) = (58 : Int) ∧ ((H251.1 1826 31) = 0 ∨ (H242.1 1826 30) < (H251.1 1826 30)) := hx251g
          refine h_run 0 (pc' := 126) (l' := [(0, .inr (.inr 1826)), (1, .inl (H117.1 1826 8))]) (st' := []) rfl ?_
          refine h_run 1 (pc' := 127) (l' := [(0, .inr (.inr 1826)), (1, .inl (H117.1 1826 8))]) (st' := [.inr (.inr 1826)]) rfl ?_
          have g256 : -2147483648 ≤ (H251.1 1826 35) ∧ (H251.1 1826 35) ≤ 2147483647 := hrg253.1 1826 13 35 _ .int rfl rfl
          have g257 : -2147483648 ≤ (H251.1 1826 1) ∧ (H251.1 1826 1) ≤ 2147483647 := hrg253.1 1826 13 1 _ .int rfl rfl
          have e258 : (H251.1 1826 1) = (H242.1 1826 1) := hx251f.2.2 1 (by decide)
          have e259 : (H242.1 1826 1) = (H117.1 1826 1) := hx242f.2.2 1 (by decide)
          have e260 : (H117.1 1826 1) = (H.1 1826 1) := hx117f.2.2 1 (by decide)
          have g261 : -2147483648 ≤ (H251.1 1826 31) ∧ (H251.1 1826 31) ≤ 2147483647 := hrg253.1 1826 13 31 _ .int rfl rfl
          refine h_cv (i := 322) (j := 172) (b := 1826) (M' := mt_172) (xs := []) (rest := []) rfl rfl rfl rfl rfl rfl (Nat.le_of_ble_eq_true rfl) (Nat.le_of_ble_eq_true rfl) (by omega) (m_type (by omega) (by omega : 0 ≤ (H251.1 1826 35) ∧ (H251.1 1826 35) ≤ 5) (by omega : 0 ≤ (H251.1 1826 1) ∧ (H251.1 1826 1) ≤ 6)) ?_
          rintro _ H262 ⟨ht262t, rfl, ht262f, ht262b, ht262d, ht262g, ht262e⟩
          refine h_rng (fun hrg263 => ?_)
          have hf264 : fr [30, 31, 32, 33, 35, 36, 8] [1832, 1833, 1834, 1835] H H262 := fr_t hf254 ht262f (by decide) (by decide)
          have ha265 : agp H H262 := agp_tr ha255 (agp_fr ht262f (by decide) (by decide))
          replace ht262d : (H251.1 1826 35) ≠ 0 → (H262.1 1826 35) = (H251.1 1826 35) := ht262d
          replace ht262g : (H262.1 1826 35) = 0 → (H251.1 1826 35) = 0 ∧ (H251.1 1826 31) = 2 ∧ 0 ≤ ht262t ∧ ht262t < (H251.1 1826 1) := ht262g
          refine h_run 0 (pc' := 130) (l' := [(0, .inr (.inr 1826)), (1, .inl (H117.1 1826 8))]) (st' := [.inl ht262t]) rfl ?_
          refine h_run 2 (pc' := 132) (l' := [(0, .inr (.inr 1826)), (1, .inl (H117.1 1826 8)), (2, .inl ht262t)]) (st' := [.inr (.inr 1826)]) rfl ?_
          have g266 : -2147483648 ≤ (H262.1 1826 35) ∧ (H262.1 1826 35) ≤ 2147483647 := hrg263.1 1826 13 35 _ .int rfl rfl
          refine h_cv (i := 293) (j := 158) (b := 1826) (M' := mt_158) (xs := []) (rest := []) rfl rfl rfl rfl rfl rfl (Nat.le_of_ble_eq_true rfl) (Nat.le_of_ble_eq_true rfl) (by omega) (m_good (by omega)) ?_
          rintro _ _ ⟨⟨rfl, b267⟩ | ⟨rfl, b267⟩, rfl⟩
          · have b267x : (H262.1 1826 35) = 0 := b267
            replace ht262g := ht262g b267x
            refine h_run 0 (pc' := 135) (l' := [(0, .inr (.inr 1826)), (1, .inl (H117.1 1826 8)), (2, .inl ht262t)]) (st' := [.inl 1]) rfl ?_
            refine h_zeq (off := 7) (t := 142) rfl rfl (by decide) (fun c => absurd c (by decide)) (fun _ => ?_)
            refine h_run 1 (pc' := 139) (l' := [(0, .inr (.inr 1826)), (1, .inl (H117.1 1826 8)), (2, .inl ht262t)]) (st' := [.inr (.inr 1826)]) rfl ?_
            have g268 : -2147483648 ≤ (H262.1 1826 30) ∧ (H262.1 1826 30) ≤ 2147483647 := hrg263.1 1826 13 30 _ .int rfl rfl
            have e269 : (H262.1 1826 30) = (H251.1 1826 30) := ht262f.2.2 30 (by decide)
            have g270 : -2147483648 ≤ (H262.1 1826 29) ∧ (H262.1 1826 29) ≤ 2147483647 := hrg263.1 1826 13 29 _ .int rfl rfl
            have e271 : (H262.1 1826 29) = (H251.1 1826 29) := ht262f.2.2 29 (by decide)
            have e272 : (H251.1 1826 29) = (H242.1 1826 29) := hx251f.2.2 29 (by decide)
            have g273 : -2147483648 ≤ (H262.1 1826 32) ∧ (H262.1 1826 32) ≤ 2147483647 := hrg263.1 1826 13 32 _ .int rfl rfl
            have e274 : (H262.1 1826 32) = (H251.1 1826 32) := ht262f.2.2 32 (by decide)
            refine h_cv (i := 297) (j := 165) (b := 1826) (M' := mt_165) (xs := []) (rest := []) rfl rfl rfl rfl rfl rfl (Nat.le_of_ble_eq_true rfl) (Nat.le_of_ble_eq_true rfl) (by omega) (m_next (by omega) (by omega : 0 ≤ (H262.1 1826 30) ∧ (H262.1 1826 30) ≤ (H262.1 1826 29) ∧ (H262.1 1826 29) ≤ 1000) (by omega : 0 ≤ (H262.1 1826 35) ∧ (H262.1 1826 35) ≤ 5) (by omega : 0 ≤ (H262.1 1826 32) ∧ (H262.1 1826 32) ≤ 1000)) ?_
            rintro _ H275 ⟨rfl, hx275f, hx275a, hx275b, hx275c, -, hx275e, hx275g⟩
            refine h_rng (fun hrg276 => ?_)
            have hf277 : fr [30, 31, 32, 33, 35, 36, 8] [1832, 1833, 1834, 1835] H H275 := fr_t hf264 hx275f (by decide) (by decide)
            have ha278 : agp H H275 := agp_tr ha265 (agp_fr hx275f (by decide) (by decide))
            replace hx275a : (H262.1 1826 30) ≤ (H275.1 1826 30) := hx275a
            replace hx275b : (H275.1 1826 30) ≤ (H262.1 1826 29) := hx275b
            replace hx275g : (H275.1 1826 35) = 0 → ((H275.1 1826 31) = 0 ∨ (H262.1 1826 30) < (H275.1 1826 30)) := hx275g
            refine h_run 0 (pc' := 142) (l' := [(0, .inr (.inr 1826)), (1, .inl (H117.1 1826 8)), (2, .inl ht262t)]) (st' := []) rfl ?_
            have g279 : -2147483648 ≤ (H275.1 1826 30) ∧ (H275.1 1826 30) ≤ 2147483647 := hrg276.1 1826 13 30 _ .int rfl rfl
            have g280 : -2147483648 ≤ (H275.1 1826 35) ∧ (H275.1 1826 35) ≤ 2147483647 := hrg276.1 1826 13 35 _ .int rfl rfl
            have g281 : -2147483648 ≤ (H275.1 1826 32) ∧ (H275.1 1826 32) ≤ 2147483647 := hrg276.1 1826 13 32 _ .int rfl rfl
            have g282 : -2147483648 ≤ (H275.1 1826 31) ∧ (H275.1 1826 31) ≤ 2147483647 := hrg276.1 1826 13 31 _ .int rfl rfl
            have g283 : -2147483648 ≤ (H275.1 1826 3) ∧ (H275.1 1826 3) ≤ 2147483647 := hrg276.1 1826 13 3 _ .int rfl rfl
            have e284 : (H275.1 1826 3) = (H262.1 1826 3) := hx275f.2.2 3 (by decide)
            have e285 : (H262.1 1826 3) = (H251.1 1826 3) := ht262f.2.2 3 (by decide)
            have e286 : (H251.1 1826 3) = (H242.1 1826 3) := hx251f.2.2 3 (by decide)
            have e287 : (H242.1 1826 3) = (H117.1 1826 3) := hx242f.2.2 3 (by decide)
            have e288 : (H117.1 1826 3) = (H.1 1826 3) := hx117f.2.2 3 (by decide)
            have g289 : -2147483648 ≤ (H275.1 1826 29) ∧ (H275.1 1826 29) ≤ 2147483647 := hrg276.1 1826 13 29 _ .int rfl rfl
            have e290 : (H275.1 1826 29) = (H262.1 1826 29) := hx275f.2.2 29 (by decide)
            have g291 : -2147483648 ≤ (H275.1 1826 1) ∧ (H275.1 1826 1) ≤ 2147483647 := hrg276.1 1826 13 1 _ .int rfl rfl
            have e292 : (H275.1 1826 1) = (H262.1 1826 1) := hx275f.2.2 1 (by decide)
            have e293 : (H262.1 1826 1) = (H251.1 1826 1) := ht262f.2.2 1 (by decide)
            have g294 : -2147483648 ≤ (H275.1 1826 8) ∧ (H275.1 1826 8) ≤ 2147483647 := hrg276.1 1826 13 8 _ .int rfl rfl
            have e295 : (H275.1 1826 8) = (H262.1 1826 8) := hx275f.2.2 8 (by decide)
            have e296 : (H262.1 1826 8) = (H251.1 1826 8) := ht262f.2.2 8 (by decide)
            have e297 : (H251.1 1826 8) = (H242.1 1826 8) := hx251f.2.2 8 (by decide)
            have e298 : (H242.1 1826 8) = ((H117.1 1826 8) + 1) := hx242f.2.2 8 (by decide)
            rw [show (H117.1 1826 8) = ((((H117.1 1826 8)).toNat : Nat) : Int) by omega]
            exact (m_function_cut hd h0 hw hst hP hw0 _) _ ((H117.1 1826 8)).toNat ht262t hf277 (by omega : (H.1 1826 30) ≤ (H275.1 1826 30) ∧ (H275.1 1826 30) ≤ (H.1 1826 29)) (by omega : 0 ≤ (H275.1 1826 35) ∧ (H275.1 1826 35) ≤ 5) (by omega : 0 ≤ (H275.1 1826 32) ∧ (H275.1 1826 32) ≤ 1000) ha278 (by omega) (by omega : (((H117.1 1826 8)).toNat : Int) = (H.1 1826 8) ∧ (H.1 1826 8) ≤ 15) (by omega : (H275.1 1826 8) = (H.1 1826 8) + 1) (by omega : -1 ≤ ht262t ∧ ht262t ≤ 6) (by omega : (H275.1 1826 35) = 0 → 0 ≤ ht262t ∧ ht262t < (H275.1 1826 1)) (fun _ => by rw [show (H275.1 1833) = up (H117.1 1833) ((H117.1 1826 8)).toNat 0 from ((((hx275f.2.1 1833 (by decide) (by decide)).trans (ht262f.2.1 1833 (by decide) (by decide))).trans (hx251f.2.1 1833 (by decide) (by decide))).trans (hx242f.2.1 1833 (by decide) (by decide))), up_eq]; exact ⟨by omega, fun i hi => absurd hi (by omega)⟩) (Nat.lt_succ_self _)
          · have b267x : (H262.1 1826 35) ≠ 0 := b267
            clear ht262g
            refine h_run 0 (pc' := 135) (l' := [(0, .inr (.inr 1826)), (1, .inl (H117.1 1826 8)), (2, .inl ht262t)]) (st' := [.inl 0]) rfl ?_
            refine h_zeq (off := 7) (t := 142) rfl rfl (by decide) (fun _ => ?_) (fun c => absurd c (by decide))
            have g299 : -2147483648 ≤ (H262.1 1826 30) ∧ (H262.1 1826 30) ≤ 2147483647 := hrg263.1 1826 13 30 _ .int rfl rfl
            have e300 : (H262.1 1826 30) = (H251.1 1826 30) := ht262f.2.2 30 (by decide)
            have g301 : -2147483648 ≤ (H262.1 1826 32) ∧ (H262.1 1826 32) ≤ 2147483647 := hrg263.1 1826 13 32 _ .int rfl rfl
            have e302 : (H262.1 1826 32) = (H251.1 1826 32) := ht262f.2.2 32 (by decide)
            have g303 : -2147483648 ≤ (H262.1 1826 31) ∧ (H262.1 1826 31) ≤ 2147483647 := hrg263.1 1826 13 31 _ .int rfl rfl
            have e304 : (H262.1 1826 31) = (H251.1 1826 31) := ht262f.2.2 31 (by decide)
            have g305 : -2147483648 ≤ (H262.1 1826 3) ∧ (H262.1 1826 3) ≤ 2147483647 := hrg263.1 1826 13 3 _ .int rfl rfl
            have e306 : (H262.1 1826 3) = (H251.1 1826 3) := ht262f.2.2 3 (by decide)
            have e307 : (H251.1 1826 3) = (H242.1 1826 3) := hx251f.2.2 3 (by decide)
            have e308 : (H242.1 1826 3) = (H117.1 1826 3) := hx242f.2.2 3 (by decide)
            have e309 : (H117.1 1826 3) = (H.1 1826 3) := hx117f.2.2 3 (by decide)
            have g310 : -2147483648 ≤ (H262.1 1826 29) ∧ (H262.1 1826 29) ≤ 2147483647 := hrg263.1 1826 13 29 _ .int rfl rfl
            have e311 : (H262.1 1826 29) = (H251.1 1826 29) := ht262f.2.2 29 (by decide)
            have e312 : (H251.1 1826 29) = (H242.1 1826 29) := hx251f.2.2 29 (by decide)
            have g313 : -2147483648 ≤ (H262.1 1826 1) ∧ (H262.1 1826 1) ≤ 2147483647 := hrg263.1 1826 13 1 _ .int rfl rfl
            have e314 : (H262.1 1826 1) = (H251.1 1826 1) := ht262f.2.2 1 (by decide)
            have g315 : -2147483648 ≤ (H262.1 1826 8) ∧ (H262.1 1826 8) ≤ 2147483647 := hrg263.1 1826 13 8 _ .int rfl rfl
            have e316 : (H262.1 1826 8) = (H251.1 1826 8) := ht262f.2.2 8 (by decide)
            have e317 : (H251.1 1826 8) = (H242.1 1826 8) := hx251f.2.2 8 (by decide)
            have e318 : (H242.1 1826 8) = ((H117.1 1826 8) + 1) := hx242f.2.2 8 (by decide)
            rw [show (H117.1 1826 8) = ((((H117.1 1826 8)).toNat : Nat) : Int) by omega]
            exact (m_function_cut hd h0 hw hst hP hw0 _) _ ((H117.1 1826 8)).toNat ht262t hf264 (by omega : (H.1 1826 30) ≤ (H262.1 1826 30) ∧ (H262.1 1826 30) ≤ (H.1 1826 29)) (by omega : 0 ≤ (H262.1 1826 35) ∧ (H262.1 1826 35) ≤ 5) (by omega : 0 ≤ (H262.1 1826 32) ∧ (H262.1 1826 32) ≤ 1000) ha265 (by omega) (by omega : (((H117.1 1826 8)).toNat : Int) = (H.1 1826 8) ∧ (H.1 1826 8) ≤ 15) (by omega : (H262.1 1826 8) = (H.1 1826 8) + 1) (by omega : -1 ≤ ht262t ∧ ht262t ≤ 6) (by omega : (H262.1 1826 35) = 0 → 0 ≤ ht262t ∧ ht262t < (H262.1 1826 1)) (fun _ => by rw [show (H262.1 1833) = up (H117.1 1833) ((H117.1 1826 8)).toNat 0 from (((ht262f.2.1 1833 (by decide) (by decide)).trans (hx251f.2.1 1833 (by decide) (by decide))).trans (hx242f.2.1 1833 (by decide) (by decide))), up_eq]; exact ⟨by omega, fun i hi => absurd hi (by omega)⟩) (Nat.lt_succ_self _)
        · refine h_run 2 (pc' := 73) (l' := [(0, .inr (.inr 1826))]) (st' := [.inl 5, .inr (.inr 1826)]) rfl ?_
          refine h_cv (i := 278) (j := 159) (b := 1826) (M' := mt_159) (xs := [.inl 5]) (rest := []) rfl rfl rfl rfl rfl rfl (Nat.le_of_ble_eq_true rfl) (Nat.le_of_ble_eq_true rfl) (by omega) (m_bad0 (by omega) (by omega) (by omega : (H117.1 1826 35) = 0)) ?_
          rintro _ _ ⟨rfl, rfl⟩
          refine h_run 0 (pc' := 76) (l' := [(0, .inr (.inr 1826))]) (st' := []) rfl ?_
          refine h_run 1 (pc' := 77) (l' := [(0, .inr (.inr 1826))]) (st' := [.inr (.inr 1826)]) rfl ?_
          refine h_cv (i := 293) (j := 158) (b := 1826) (M' := mt_158) (xs := []) (rest := []) rfl rfl rfl rfl rfl rfl (Nat.le_of_ble_eq_true rfl) (Nat.le_of_ble_eq_true rfl) (by omega) (m_good0 (by omega) (by omega : (5 : Int) ≠ 0)) ?_
          rintro _ _ ⟨rfl, rfl⟩
          refine h_run 0 (pc' := 80) (l' := [(0, .inr (.inr 1826))]) (st' := [.inl 0]) rfl ?_
          refine h_zne (off := 4) (t := 84) rfl rfl (by decide) (fun c => absurd c (by decide)) (fun _ => ?_)
          refine h_ret rfl rfl ?_
          have g319 : -2147483648 ≤ (H117.1 1826 30) ∧ (H117.1 1826 30) ≤ 2147483647 := hrg118.1 1826 13 30 _ .int rfl rfl
          have g320 : -2147483648 ≤ (H117.1 1826 32) ∧ (H117.1 1826 32) ≤ 2147483647 := hrg118.1 1826 13 32 _ .int rfl rfl
          have g321 : -2147483648 ≤ (H117.1 1826 29) ∧ (H117.1 1826 29) ≤ 2147483647 := hrg118.1 1826 13 29 _ .int rfl rfl
          have e322 : (H117.1 1826 29) = (H.1 1826 29) := hx117f.2.2 29 (by decide)
          have g323 : -2147483648 ≤ (H117.1 1826 1) ∧ (H117.1 1826 1) ≤ 2147483647 := hrg118.1 1826 13 1 _ .int rfl rfl
          have e324 : (H117.1 1826 1) = (H.1 1826 1) := hx117f.2.2 1 (by decide)
          have g325 : -2147483648 ≤ (H117.1 1826 3) ∧ (H117.1 1826 3) ≤ 2147483647 := hrg118.1 1826 13 3 _ .int rfl rfl
          have e326 : (H117.1 1826 3) = (H.1 1826 3) := hx117f.2.2 3 (by decide)
          have g327 : -2147483648 ≤ (H117.1 1826 13) ∧ (H117.1 1826 13) ≤ 2147483647 := hrg118.1 1826 13 13 _ .int rfl rfl
          have e328 : (H117.1 1826 13) = (H.1 1826 13) := hx117f.2.2 13 (by decide)
          have g329 : -2147483648 ≤ (H117.1 1826 19) ∧ (H117.1 1826 19) ≤ 2147483647 := hrg118.1 1826 13 19 _ .int rfl rfl
          have e330 : (H117.1 1826 19) = (H.1 1826 19) := hx117f.2.2 19 (by decide)
          exact ⟨rfl, (fr_o (fr_o hf119 (by decide)) (by decide)), (by omega : (H.1 1826 30) ≤ (H117.1 1826 30) ∧ (H117.1 1826 30) ≤ (H.1 1826 29)), (by omega : 0 ≤ (5 : Int) ∧ (5 : Int) ≤ 5), (by omega : (H.1 1826 35) ≠ 0 → (5 : Int) ≠ 0), (by omega : 0 ≤ (H117.1 1826 32) ∧ (H117.1 1826 32) ≤ 1000), (agp_o (agp_o ha120 (by decide)) (by decide)), (fun (q : (5 : Int) = 0) => absurd q (by omega))⟩
    · refine h_run 2 (pc' := 21) (l' := [(0, .inr (.inr 1826))]) (st' := [.inl 2, .inr (.inr 1826)]) rfl ?_
      refine h_cv (i := 278) (j := 159) (b := 1826) (M' := mt_159) (xs := [.inl 2]) (rest := []) rfl rfl rfl rfl rfl rfl (Nat.le_of_ble_eq_true rfl) (Nat.le_of_ble_eq_true rfl) (by omega) (m_bad0 (by omega) (by omega) (by omega : (H117.1 1826 35) = 0)) ?_
      rintro _ _ ⟨rfl, rfl⟩
      refine h_run 0 (pc' := 24) (l' := [(0, .inr (.inr 1826))]) (st' := []) rfl ?_
      refine h_run 1 (pc' := 25) (l' := [(0, .inr (.inr 1826))]) (st' := [.inr (.inr 1826)]) rfl ?_
      refine h_cv (i := 293) (j := 158) (b := 1826) (M' := mt_158) (xs := []) (rest := []) rfl rfl rfl rfl rfl rfl (Nat.le_of_ble_eq_true rfl) (Nat.le_of_ble_eq_true rfl) (by omega) (m_good0 (by omega) (by omega : (2 : Int) ≠ 0)) ?_
      rintro _ _ ⟨rfl, rfl⟩
      refine h_run 0 (pc' := 28) (l' := [(0, .inr (.inr 1826))]) (st' := [.inl 0]) rfl ?_
      refine h_zeq (off := 27) (t := 55) rfl rfl (by decide) (fun _ => ?_) (fun c => absurd c (by decide))
      refine h_run 1 (pc' := 56) (l' := [(0, .inr (.inr 1826))]) (st' := [.inr (.inr 1826)]) rfl ?_
      refine h_cv (i := 293) (j := 158) (b := 1826) (M' := mt_158) (xs := []) (rest := []) rfl rfl rfl rfl rfl rfl (Nat.le_of_ble_eq_true rfl) (Nat.le_of_ble_eq_true rfl) (by omega) (m_good0 (by omega) (by omega : (2 : Int) ≠ 0)) ?_
      rintro _ _ ⟨rfl, rfl⟩
      refine h_run 0 (pc' := 59) (l' := [(0, .inr (.inr 1826))]) (st' := [.inl 0]) rfl ?_
      refine h_zeq (off := 17) (t := 76) rfl rfl (by decide) (fun _ => ?_) (fun c => absurd c (by decide))
      refine h_run 1 (pc' := 77) (l' := [(0, .inr (.inr 1826))]) (st' := [.inr (.inr 1826)]) rfl ?_
      refine h_cv (i := 293) (j := 158) (b := 1826) (M' := mt_158) (xs := []) (rest := []) rfl rfl rfl rfl rfl rfl (Nat.le_of_ble_eq_true rfl) (Nat.le_of_ble_eq_true rfl) (by omega) (m_good0 (by omega) (by omega : (2 : Int) ≠ 0)) ?_
      rintro _ _ ⟨rfl, rfl⟩
      refine h_run 0 (pc' := 80) (l' := [(0, .inr (.inr 1826))]) (st' := [.inl 0]) rfl ?_
      refine h_zne (off := 4) (t := 84) rfl rfl (by decide) (fun c => absurd c (by decide)) (fun _ => ?_)
      refine h_ret rfl rfl ?_
      have g331 : -2147483648 ≤ (H117.1 1826 30) ∧ (H117.1 1826 30) ≤ 2147483647 := hrg118.1 1826 13 30 _ .int rfl rfl
      have g332 : -2147483648 ≤ (H117.1 1826 32) ∧ (H117.1 1826 32) ≤ 2147483647 := hrg118.1 1826 13 32 _ .int rfl rfl
      have g333 : -2147483648 ≤ (H117.1 1826 29) ∧ (H117.1 1826 29) ≤ 2147483647 := hrg118.1 1826 13 29 _ .int rfl rfl
      have e334 : (H117.1 1826 29) = (H.1 1826 29) := hx117f.2.2 29 (by decide)
      have g335 : -2147483648 ≤ (H117.1 1826 1) ∧ (H117.1 1826 1) ≤ 2147483647 := hrg118.1 1826 13 1 _ .int rfl rfl
      have e336 : (H117.1 1826 1) = (H.1 1826 1) := hx117f.2.2 1 (by decide)
      have g337 : -2147483648 ≤ (H117.1 1826 3) ∧ (H117.1 1826 3) ≤ 2147483647 := hrg118.1 1826 13 3 _ .int rfl rfl
      have e338 : (H117.1 1826 3) = (H.1 1826 3) := hx117f.2.2 3 (by decide)
      have g339 : -2147483648 ≤ (H117.1 1826 8) ∧ (H117.1 1826 8) ≤ 2147483647 := hrg118.1 1826 13 8 _ .int rfl rfl
      have e340 : (H117.1 1826 8) = (H.1 1826 8) := hx117f.2.2 8 (by decide)
      have g341 : -2147483648 ≤ (H117.1 1826 13) ∧ (H117.1 1826 13) ≤ 2147483647 := hrg118.1 1826 13 13 _ .int rfl rfl
      have e342 : (H117.1 1826 13) = (H.1 1826 13) := hx117f.2.2 13 (by decide)
      have g343 : -2147483648 ≤ (H117.1 1826 19) ∧ (H117.1 1826 19) ≤ 2147483647 := hrg118.1 1826 13 19 _ .int rfl rfl
      have e344 : (H117.1 1826 19) = (H.1 1826 19) := hx117f.2.2 19 (by decide)
      exact ⟨rfl, (fr_o (fr_o hf119 (by decide)) (by decide)), (by omega : (H.1 1826 30) ≤ (H117.1 1826 30) ∧ (H117.1 1826 30) ≤ (H.1 1826 29)), (by omega : 0 ≤ (2 : Int) ∧ (2 : Int) ≤ 5), (by omega : (H.1 1826 35) ≠ 0 → (2 : Int) ≠ 0), (by omega : 0 ≤ (H117.1 1826 32) ∧ (H117.1 1826 32) ≤ 1000), (agp_o (agp_o ha120 (by decide)) (by decide)), (fun (q : (2 : Int) = 0) => absurd q (by omega))⟩
  · have b122x : (H117.1 1826 35) ≠ 0 := b122
    clear hx117g
    refine h_run 0 (pc' := 8) (l' := [(0, .inr (.inr 1826))]) (st' := [.inl 0]) rfl ?_
    refine h_zeq (off := 16) (t := 24) rfl rfl (by decide) (fun _ => ?_) (fun c => absurd c (by decide))
    refine h_run 1 (pc' := 25) (l' := [(0, .inr (.inr 1826))]) (st' := [.inr (.inr 1826)]) rfl ?_
    refine h_cv (i := 293) (j := 158) (b := 1826) (M' := mt_158) (xs := []) (rest := []) rfl rfl rfl rfl rfl rfl (Nat.le_of_ble_eq_true rfl) (Nat.le_of_ble_eq_true rfl) (by omega) (m_good0 (by omega) (by omega : (H117.1 1826 35) ≠ 0)) ?_
    rintro _ _ ⟨rfl, rfl⟩
    refine h_run 0 (pc' := 28) (l' := [(0, .inr (.inr 1826))]) (st' := [.inl 0]) rfl ?_
    refine h_zeq (off := 27) (t := 55) rfl rfl (by decide) (fun _ => ?_) (fun c => absurd c (by decide))
    refine h_run 1 (pc' := 56) (l' := [(0, .inr (.inr 1826))]) (st' := [.inr (.inr 1826)]) rfl ?_
    refine h_cv (i := 293) (j := 158) (b := 1826) (M' := mt_158) (xs := []) (rest := []) rfl rfl rfl rfl rfl rfl (Nat.le_of_ble_eq_true rfl) (Nat.le_of_ble_eq_true rfl) (by omega) (m_good0 (by omega) (by omega : (H117.1 1826 35) ≠ 0)) ?_
    rintro _ _ ⟨rfl, rfl⟩
    refine h_run 0 (pc' := 59) (l' := [(0, .inr (.inr 1826))]) (st' := [.inl 0]) rfl ?_
    refine h_zeq (off := 17) (t := 76) rfl rfl (by decide) (fun _ => ?_) (fun c => absurd c (by decide))
    refine h_run 1 (pc' := 77) (l' := [(0, .inr (.inr 1826))]) (st' := [.inr (.inr 1826)]) rfl ?_
    refine h_cv (i := 293) (j := 158) (b := 1826) (M' := mt_158) (xs := []) (rest := []) rfl rfl rfl rfl rfl rfl (Nat.le_of_ble_eq_true rfl) (Nat.le_of_ble_eq_true rfl) (by omega) (m_good0 (by omega) (by omega : (H117.1 1826 35) ≠ 0)) ?_
    rintro _ _ ⟨rfl, rfl⟩
    refine h_run 0 (pc' := 80) (l' := [(0, .inr (.inr 1826))]) (st' := [.inl 0]) rfl ?_
    refine h_zne (off := 4) (t := 84) rfl rfl (by decide) (fun c => absurd c (by decide)) (fun _ => ?_)
    refine h_ret rfl rfl ?_
    have g345 : -2147483648 ≤ (H117.1 1826 30) ∧ (H117.1 1826 30) ≤ 2147483647 := hrg118.1 1826 13 30 _ .int rfl rfl
    have g346 : -2147483648 ≤ (H117.1 1826 32) ∧ (H117.1 1826 32) ≤ 2147483647 := hrg118.1 1826 13 32 _ .int rfl rfl
    have g347 : -2147483648 ≤ (H117.1 1826 29) ∧ (H117.1 1826 29) ≤ 2147483647 := hrg118.1 1826 13 29 _ .int rfl rfl
    have e348 : (H117.1 1826 29) = (H.1 1826 29) := hx117f.2.2 29 (by decide)
    have g349 : -2147483648 ≤ (H117.1 1826 1) ∧ (H117.1 1826 1) ≤ 2147483647 := hrg118.1 1826 13 1 _ .int rfl rfl
    have e350 : (H117.1 1826 1) = (H.1 1826 1) := hx117f.2.2 1 (by decide)
    have g351 : -2147483648 ≤ (H117.1 1826 3) ∧ (H117.1 1826 3) ≤ 2147483647 := hrg118.1 1826 13 3 _ .int rfl rfl
    have e352 : (H117.1 1826 3) = (H.1 1826 3) := hx117f.2.2 3 (by decide)
    have g353 : -2147483648 ≤ (H117.1 1826 8) ∧ (H117.1 1826 8) ≤ 2147483647 := hrg118.1 1826 13 8 _ .int rfl rfl
    have e354 : (H117.1 1826 8) = (H.1 1826 8) := hx117f.2.2 8 (by decide)
    have g355 : -2147483648 ≤ (H117.1 1826 13) ∧ (H117.1 1826 13) ≤ 2147483647 := hrg118.1 1826 13 13 _ .int rfl rfl
    have e356 : (H117.1 1826 13) = (H.1 1826 13) := hx117f.2.2 13 (by decide)
    have g357 : -2147483648 ≤ (H117.1 1826 19) ∧ (H117.1 1826 19) ≤ 2147483647 := hrg118.1 1826 13 19 _ .int rfl rfl
    have e358 : (H117.1 1826 19) = (H.1 1826 19) := hx117f.2.2 19 (by decide)
    exact ⟨rfl, hf119, (by omega : (H.1 1826 30) ≤ (H117.1 1826 30) ∧ (H117.1 1826 30) ≤ (H.1 1826 29)), (by omega : 0 ≤ (H117.1 1826 35) ∧ (H117.1 1826 35) ≤ 5), (by omega : (H.1 1826 35) ≠ 0 → (H117.1 1826 35) ≠ 0), (by omega : 0 ≤ (H117.1 1826 32) ∧ (H117.1 1826 32) ≤ 1000), ha120, (fun (q : (H117.1 1826 35) = 0) => absurd q (by omega))⟩
