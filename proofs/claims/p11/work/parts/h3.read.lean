/-! the reference's reading against the machine: data, functions -/
def DL (Y : yx) (m : Int) (c0 : cf) (K : List tq) (t : Int) (H : hp) : Prop := GB Y m c0 H (∃ X : rx, rch Y c0 ((9, t, 0, 0) :: K, X) ∧ RK Y m H X)
def FL (Y : yx) (m : Int) (c0 : cf) (K : List tq) (c : Nat) (t : Int) (H : hp) : Prop := GB Y m c0 H (∃ X : rx, rch Y c0 ((11, (c : Int), X 8 c, 0) :: K, X) ∧ RK Y m H X ∧ X 7 c = t)
theorem adv_ne {X : rx} {c : Nat} (h : c ≠ 0) : adv X c = X c := xu_ne _ _ _ h
theorem fl_q {Y : yx} {c0 : cf} {K : List tq} {X : rx} {t b : Int} {c : Nat} (h : rch Y c0 ((11, (c : Int), b, 0) :: K, adv (xu X 7 c t))) (hb : X 8 c = b) : rch Y c0 ((11, (c : Int), adv (xu X 7 c t) 8 c, 0) :: K, adv (xu X 7 c t)) ∧ adv (xu X 7 c t) 7 c = t := by
  constructor
  · rw [adv_ne (by decide), xu_ne _ _ _ (by decide), hb]
    exact h
  · rw [adv_ne (by decide), xu_eq, up_eq]
theorem adv7_0 {X : rx} {c : Nat} {t : Int} : adv (xu X 7 c t) 0 0 = X 0 0 + 1 := by
  rw [adv_00, xu_ne _ _ _ (by decide)]
theorem xfar_8 {X : rx} {c : Nat} : xfar X c 8 c = X 8 c + 1 := by
  rw [(xfar_s X c).2.2, Int.toNat_natCast, up_eq]

/-! data -/
set_option maxRecDepth 100000 in
theorem n_data_cut {zC : Nat → Option zsh} {d : Nat} (hd : 6 ≤ d) {H : hp}  {Y : yx} {m : Int} {c0 : cf} {K : List tq} {X : rx} {nn : Int} (h0 : 0 ≤ (H.1 1826 30) ∧ (H.1 1826 30) ≤ (H.1 1826 29) ∧ (H.1 1826 29) ≤ 1000) (hw : 0 ≤ (H.1 1826 35) ∧ (H.1 1826 35) ≤ 5) (hst : 0 ≤ (H.1 1826 32) ∧ (H.1 1826 32) ≤ 1000) (hP : PWc H) (hw0 : (H.1 1826 35) = 0) (hR : RK Y m H X) (hq : rch Y c0 ((6, nn, 0, 0) :: K, X)) (htk : tk Y (xi X) = 4) : ∀ w : Nat, (∀ (H1 : hp), (fr [30, 31, 32, 33, 35, 36, 3, 1] [1828, 1829, 1830, 1831, 1827] H H1) → ((H.1 1826 30) ≤ (H1.1 1826 30) ∧ (H1.1 1826 30) ≤ (H.1 1826 29)) → (0 ≤ (H1.1 1826 35) ∧ (H1.1 1826 35) ≤ 5) → (0 ≤ (H1.1 1826 32) ∧ (H1.1 1826 32) ≤ 1000) → (agp H H1) → ((H1.1 1826 35) = 0 → PWc H1) → ((H1.1 1826 1) = X 0 3 + 1) → (0 ≤ X 0 3 ∧ X 0 3 ≤ 5) → (DL Y m c0 ((1, 59, 0, 0) :: (6, nn + 1, 0, 0) :: K) (X 0 3) H1) → mu (H1.1 1826 35) (H1.1 1826 31) (H1.1 1826 30) (H.1 1826 29) < w → hG (zs zC) d mt_170 121 [(0, .inr (.inr 1826))] [] H1 (fun r H2 => r = none ∧ GB Y m c0 H2 (∃ X2 : rx, rch Y c0 (((1, 59, 0, 0) :: (6, nn + 1, 0, 0) :: K), X2) ∧ RK Y m H2 X2) ∧ fr [30, 31, 32, 33, 35, 36, 3, 1] [1828, 1829, 1830, 1831, 1827] H H2 ∧ ((H.1 1826 30) ≤ (H2.1 1826 30) ∧ (H2.1 1826 30) ≤ (H.1 1826 29)) ∧ (0 ≤ (H2.1 1826 35) ∧ (H2.1 1826 35) ≤ 5) ∧ ((H.1 1826 35) ≠ 0 → (H2.1 1826 35) ≠ 0) ∧ (0 ≤ (H2.1 1826 32) ∧ (H2.1 1826 32) ≤ 1000) ∧ agp H H2 ∧ ((H2.1 1826 35) = 0 → PWc H2))) := by
  intro w
  induction w with
  | zero => exact fun _ _ _ _ _ _ _ _ _ _ h => absurd h (Nat.not_lt_zero _)
  | succ w ih =>
    intro H1 hf ha hk hst1 hag hP1 ht1 hx3 hDL hw
    refine h_rng (fun hrg1 => ?_)
    obtain ⟨⟨pb1, pb2, pb3, pb4, pb5⟩, pw1, pw2, pw3, pw4⟩ := (id hP : PW H (H.1 1826 1) (H.1 1826 3) (H.1 1826 8) (H.1 1826 13) (H.1 1826 19))
    refine h_run 1 (pc' := 122) (l' := [(0, .inr (.inr 1826))]) (st' := [.inr (.inr 1826)]) rfl ?_
    have g2 : -2147483648 ≤ (H1.1 1826 35) ∧ (H1.1 1826 35) ≤ 2147483647 := hrg1.1 1826 13 35 _ .int rfl rfl
    refine h_cv (i := 293) (j := 158) (b := 1826) (M' := mt_158) (xs := []) (rest := []) rfl rfl rfl rfl rfl rfl (Nat.le_of_ble_eq_true rfl) (Nat.le_of_ble_eq_true rfl) (by omega) (m_good (by omega)) ?_
    rintro _ _ ⟨⟨rfl, b3⟩ | ⟨rfl, b3⟩, rfl⟩
    · have b3x : (H1.1 1826 35) = 0 := b3
      refine h_run 0 (pc' := 125) (l' := [(0, .inr (.inr 1826))]) (st' := [.inl 1]) rfl ?_
      refine h_zeq (off := 23) (t := 148) rfl rfl (by decide) (fun c => absurd c (by decide)) (fun _ => ?_)
      refine h_run 2 (pc' := 132) (l' := [(0, .inr (.inr 1826))]) (st' := [.inl (H1.1 1826 31)]) rfl ?_
      have g4 : -2147483648 ≤ (H1.1 1826 31) ∧ (H1.1 1826 31) ≤ 2147483647 := hrg1.1 1826 13 31 _ .int rfl rfl
      refine h_run 1 (pc' := 134) (l' := [(0, .inr (.inr 1826))]) (st' := [.inl 124, .inl (H1.1 1826 31)]) rfl ?_
      refine h_ine (off := 14) (t := 148) rfl rfl (by omega) (by decide) (fun c5 => ?_) (fun c5 => ?_)
      · refine h_ret rfl rfl ?_
        have g6 : -2147483648 ≤ (H1.1 1826 30) ∧ (H1.1 1826 30) ≤ 2147483647 := hrg1.1 1826 13 30 _ .int rfl rfl
        have g7 : -2147483648 ≤ (H1.1 1826 32) ∧ (H1.1 1826 32) ≤ 2147483647 := hrg1.1 1826 13 32 _ .int rfl rfl
        have g8 : -2147483648 ≤ (H1.1 1826 29) ∧ (H1.1 1826 29) ≤ 2147483647 := hrg1.1 1826 13 29 _ .int rfl rfl
        have e9 : (H1.1 1826 29) = (H.1 1826 29) := hf.2.2 29 (by decide)
        have g10 : -2147483648 ≤ (H1.1 1826 1) ∧ (H1.1 1826 1) ≤ 2147483647 := hrg1.1 1826 13 1 _ .int rfl rfl
        have g11 : -2147483648 ≤ (H1.1 1826 3) ∧ (H1.1 1826 3) ≤ 2147483647 := hrg1.1 1826 13 3 _ .int rfl rfl
        have g12 : -2147483648 ≤ (H1.1 1826 8) ∧ (H1.1 1826 8) ≤ 2147483647 := hrg1.1 1826 13 8 _ .int rfl rfl
        have e13 : (H1.1 1826 8) = (H.1 1826 8) := hf.2.2 8 (by decide)
        have g14 : -2147483648 ≤ (H1.1 1826 13) ∧ (H1.1 1826 13) ≤ 2147483647 := hrg1.1 1826 13 13 _ .int rfl rfl
        have e15 : (H1.1 1826 13) = (H.1 1826 13) := hf.2.2 13 (by decide)
        have g16 : -2147483648 ≤ (H1.1 1826 19) ∧ (H1.1 1826 19) ≤ 2147483647 := hrg1.1 1826 13 19 _ .int rfl rfl
        have e17 : (H1.1 1826 19) = (H.1 1826 19) := hf.2.2 19 (by decide)
        exact ⟨rfl, (GB_i hDL (fun q => q.elim (fun X1 g => ⟨X1, rch_st g.1 (by have htk1 := RK_t g.2; show (if tk Y (xi X1) = 124 then _ else (((1, 59, 0, 0) :: (6, nn + 1, 0, 0) :: K), X1)) = _; (repeat (first | rw [if_pos (by omega)] | rw [if_neg (by omega)])); try (first | rfl | (exfalso; omega))), g.2⟩))), hf, (by omega : (H.1 1826 30) ≤ (H1.1 1826 30) ∧ (H1.1 1826 30) ≤ (H.1 1826 29)), (by omega : 0 ≤ (H1.1 1826 35) ∧ (H1.1 1826 35) ≤ 5), (by omega : (H.1 1826 35) ≠ 0 → (H1.1 1826 35) ≠ 0), (by omega : 0 ≤ (H1.1 1826 32) ∧ (H1.1 1826 32) ≤ 1000), hag, hP1⟩
      · obtain ⟨X1, hq1, hR1⟩ := GB_g hDL (by omega)
        have htk1 := RK_t hR1
        have hq5 : rch Y c0 ((7, X 0 3, 0, 0) :: (9, X 0 3, 0, 0) :: ((1, 59, 0, 0) :: (6, nn + 1, 0, 0) :: K), adv X1) := rch_st hq1 (by show (if tk Y (xi X1) = 124 then _ else _) = _; (repeat (first | rw [if_pos (by omega)] | rw [if_neg (by omega)])); try (first | rfl | (exfalso; omega)))
        refine h_run 1 (pc' := 138) (l' := [(0, .inr (.inr 1826))]) (st' := [.inr (.inr 1826)]) rfl ?_
        have g18 : -2147483648 ≤ (H1.1 1826 30) ∧ (H1.1 1826 30) ≤ 2147483647 := hrg1.1 1826 13 30 _ .int rfl rfl
        have g19 : -2147483648 ≤ (H1.1 1826 29) ∧ (H1.1 1826 29) ≤ 2147483647 := hrg1.1 1826 13 29 _ .int rfl rfl
        have e20 : (H1.1 1826 29) = (H.1 1826 29) := hf.2.2 29 (by decide)
        have g21 : -2147483648 ≤ (H1.1 1826 32) ∧ (H1.1 1826 32) ≤ 2147483647 := hrg1.1 1826 13 32 _ .int rfl rfl
        refine h_cv (i := 297) (j := 165) (b := 1826) (M' := mt_165) (xs := []) (rest := []) rfl rfl rfl rfl rfl rfl (Nat.le_of_ble_eq_true rfl) (Nat.le_of_ble_eq_true rfl) (by omega) (n_nx (by omega) (by omega : 0 ≤ (H1.1 1826 30) ∧ (H1.1 1826 30) ≤ (H1.1 1826 29) ∧ (H1.1 1826 29) ≤ 1000) (by omega : 0 ≤ (H1.1 1826 35) ∧ (H1.1 1826 35) ≤ 5) (by omega : 0 ≤ (H1.1 1826 32) ∧ (H1.1 1826 32) ≤ 1000) (by omega : (H1.1 1826 35) = 0) (X := (adv X1)) (RN_adv hR1 (fr_rf [] [] _) (by decide) (by decide)) hq5 (lk_n (by decide))) ?_
        rintro _ H22 ⟨rfl, hx22n, hx22f, hx22a, hx22b, hx22c, -, hx22e, hx22g⟩
        refine h_rng (fun hrg23 => ?_)
        have hf24 : fr [30, 31, 32, 33, 35, 36, 3, 1] [1828, 1829, 1830, 1831, 1827] H H22 := fr_t hf hx22f (by decide) (by decide)
        have ha25 : agp H H22 := agp_tr hag (agp_fr hx22f (by decide) (by decide))
        replace hx22a : (H1.1 1826 30) ≤ (H22.1 1826 30) := hx22a
        replace hx22b : (H22.1 1826 30) ≤ (H1.1 1826 29) := hx22b
        replace hx22g : (H22.1 1826 35) = 0 → ((H22.1 1826 31) = 0 ∨ (H1.1 1826 30) < (H22.1 1826 30)) := hx22g
        refine h_run 0 (pc' := 141) (l' := [(0, .inr (.inr 1826))]) (st' := []) rfl ?_
        refine h_run 1 (pc' := 142) (l' := [(0, .inr (.inr 1826))]) (st' := [.inr (.inr 1826)]) rfl ?_
        have g26 : -2147483648 ≤ (H22.1 1826 35) ∧ (H22.1 1826 35) ≤ 2147483647 := hrg23.1 1826 13 35 _ .int rfl rfl
        by_cases b27 : (H22.1 1826 35) = 0
        · have g28 : -2147483648 ≤ (H22.1 1826 30) ∧ (H22.1 1826 30) ≤ 2147483647 := hrg23.1 1826 13 30 _ .int rfl rfl
          have g29 : -2147483648 ≤ (H22.1 1826 29) ∧ (H22.1 1826 29) ≤ 2147483647 := hrg23.1 1826 13 29 _ .int rfl rfl
          have e30 : (H22.1 1826 29) = (H1.1 1826 29) := hx22f.2.2 29 (by decide)
          have g31 : -2147483648 ≤ (H22.1 1826 31) ∧ (H22.1 1826 31) ≤ 2147483647 := hrg23.1 1826 13 31 _ .int rfl rfl
          have g32 : -2147483648 ≤ (H22.1 1826 1) ∧ (H22.1 1826 1) ≤ 2147483647 := hrg23.1 1826 13 1 _ .int rfl rfl
          have e33 : (H22.1 1826 1) = (H1.1 1826 1) := hx22f.2.2 1 (by decide)
          have g35 : -2147483648 ≤ (H22.1 1826 32) ∧ (H22.1 1826 32) ≤ 2147483647 := hrg23.1 1826 13 32 _ .int rfl rfl
          refine h_cv (i := 316) (j := 171) (b := 1826) (M' := mt_171) (xs := []) (rest := []) rfl rfl rfl rfl rfl rfl (Nat.le_of_ble_eq_true rfl) (Nat.le_of_ble_eq_true rfl) (by omega) (n_constructor (by omega) (by omega : 0 ≤ (H22.1 1826 30) ∧ (H22.1 1826 30) ≤ (H22.1 1826 29) ∧ (H22.1 1826 29) ≤ 1000) (by omega : 0 ≤ (H22.1 1826 35) ∧ (H22.1 1826 35) ≤ 5) (by omega : 0 ≤ (H22.1 1826 32) ∧ (H22.1 1826 32) ≤ 1000) (PWc_fr (hP1 (by omega)) hx22f (by decide) (by decide)) (by omega : 1 ≤ (H22.1 1826 1)) (by omega : (H22.1 1826 35) = 0) (GB_g hx22n (by omega)) (by rw [show (H22.1 1826 1) - 1 = X 0 3 by omega]; exact hq5) (lk_c (lk_1 (by decide)) (by decide : (9 : Nat) ≠ 0) (fun q => absurd q (by decide : (9 : Nat) ≠ 1)))) ?_
          rintro _ H34 ⟨rfl, hx34n, hx34f, hx34a, hx34c, -, hx34e, hx34g, hx34p⟩
          refine h_rng (fun hrg36 => ?_)
          have hf37 : fr [30, 31, 32, 33, 35, 36, 3, 1] [1828, 1829, 1830, 1831, 1827] H H34 := fr_t hf24 hx34f (by decide) (by decide)
          have ha38 : agp H H34 := agp_tr ha25 hx34g
          replace hx34a : (H22.1 1826 30) ≤ (H34.1 1826 30) ∧ (H34.1 1826 30) ≤ (H22.1 1826 29) := hx34a
          have hx34t : (H34.1 1826 35) = 0 → (H22.1 1826 31) = 2 := fun q => (hx34p q).1
          replace hx34p : (H34.1 1826 35) = 0 → PWc H34 := fun q => (hx34p q).2
          refine h_run 0 (pc' := 145) (l' := [(0, .inr (.inr 1826))]) (st' := []) rfl ?_
          refine h_run 1 (pc' := 121) (l' := [(0, .inr (.inr 1826))]) (st' := []) rfl ?_
          have g39 : -2147483648 ≤ (H34.1 1826 30) ∧ (H34.1 1826 30) ≤ 2147483647 := hrg36.1 1826 13 30 _ .int rfl rfl
          have g40 : -2147483648 ≤ (H34.1 1826 35) ∧ (H34.1 1826 35) ≤ 2147483647 := hrg36.1 1826 13 35 _ .int rfl rfl
          have g41 : -2147483648 ≤ (H34.1 1826 32) ∧ (H34.1 1826 32) ≤ 2147483647 := hrg36.1 1826 13 32 _ .int rfl rfl
          have g42 : -2147483648 ≤ (H34.1 1826 31) ∧ (H34.1 1826 31) ≤ 2147483647 := hrg36.1 1826 13 31 _ .int rfl rfl
          have g43 : -2147483648 ≤ (H34.1 1826 3) ∧ (H34.1 1826 3) ≤ 2147483647 := hrg36.1 1826 13 3 _ .int rfl rfl
          have g44 : -2147483648 ≤ (H34.1 1826 29) ∧ (H34.1 1826 29) ≤ 2147483647 := hrg36.1 1826 13 29 _ .int rfl rfl
          have e45 : (H34.1 1826 29) = (H22.1 1826 29) := hx34f.2.2 29 (by decide)
          have g46 : -2147483648 ≤ (H34.1 1826 1) ∧ (H34.1 1826 1) ≤ 2147483647 := hrg36.1 1826 13 1 _ .int rfl rfl
          have e47 : (H34.1 1826 1) = (H22.1 1826 1) := hx34f.2.2 1 (by decide)
          exact ih _ hf37 (by omega : (H.1 1826 30) ≤ (H34.1 1826 30) ∧ (H34.1 1826 30) ≤ (H.1 1826 29)) (by omega : 0 ≤ (H34.1 1826 35) ∧ (H34.1 1826 35) ≤ 5) (by omega : 0 ≤ (H34.1 1826 32) ∧ (H34.1 1826 32) ≤ 1000) ha38 hx34p (by omega : (H34.1 1826 1) = X 0 3 + 1) hx3 hx34n (mu_lt hw (by omega) (by omega : (H34.1 1826 35) ≠ 0 ∨ ((H1.1 1826 30) ≤ (H34.1 1826 30) ∧ (H34.1 1826 30) ≤ (H.1 1826 29) ∧ (((H34.1 1826 31) = 0 ∧ (H1.1 1826 31) ≠ 0) ∨ (H1.1 1826 30) < (H34.1 1826 30)))))
        · refine h_cv (i := 316) (j := 171) (b := 1826) (M' := mt_171) (xs := []) (rest := []) rfl rfl rfl rfl rfl rfl (Nat.le_of_ble_eq_true rfl) (Nat.le_of_ble_eq_true rfl) (by omega) (n_constructor0 (by omega) (by omega : (H22.1 1826 35) ≠ 0)) ?_
          rintro _ _ ⟨rfl, rfl⟩
          refine h_run 0 (pc' := 145) (l' := [(0, .inr (.inr 1826))]) (st' := []) rfl ?_
          refine h_run 1 (pc' := 121) (l' := [(0, .inr (.inr 1826))]) (st' := []) rfl ?_
          have g48 : -2147483648 ≤ (H22.1 1826 30) ∧ (H22.1 1826 30) ≤ 2147483647 := hrg23.1 1826 13 30 _ .int rfl rfl
          have g49 : -2147483648 ≤ (H22.1 1826 32) ∧ (H22.1 1826 32) ≤ 2147483647 := hrg23.1 1826 13 32 _ .int rfl rfl
          have g50 : -2147483648 ≤ (H22.1 1826 31) ∧ (H22.1 1826 31) ≤ 2147483647 := hrg23.1 1826 13 31 _ .int rfl rfl
          have g51 : -2147483648 ≤ (H22.1 1826 3) ∧ (H22.1 1826 3) ≤ 2147483647 := hrg23.1 1826 13 3 _ .int rfl rfl
          have e52 : (H22.1 1826 3) = (H1.1 1826 3) := hx22f.2.2 3 (by decide)
          have g53 : -2147483648 ≤ (H22.1 1826 29) ∧ (H22.1 1826 29) ≤ 2147483647 := hrg23.1 1826 13 29 _ .int rfl rfl
          have e54 : (H22.1 1826 29) = (H1.1 1826 29) := hx22f.2.2 29 (by decide)
          have g55 : -2147483648 ≤ (H22.1 1826 1) ∧ (H22.1 1826 1) ≤ 2147483647 := hrg23.1 1826 13 1 _ .int rfl rfl
          have e56 : (H22.1 1826 1) = (H1.1 1826 1) := hx22f.2.2 1 (by decide)
          exact ih _ hf24 (by omega : (H.1 1826 30) ≤ (H22.1 1826 30) ∧ (H22.1 1826 30) ≤ (H.1 1826 29)) (by omega : 0 ≤ (H22.1 1826 35) ∧ (H22.1 1826 35) ≤ 5) (by omega : 0 ≤ (H22.1 1826 32) ∧ (H22.1 1826 32) ≤ 1000) ha25 (fun (q : (H22.1 1826 35) = 0) => absurd q (by omega)) (by omega : (H22.1 1826 1) = X 0 3 + 1) hx3 (Or.inr ⟨(by omega : (H22.1 1826 35) ≠ 0), GB_b hx22n (by omega)⟩) (mu_lt hw (by omega) (by omega : (H22.1 1826 35) ≠ 0 ∨ ((H1.1 1826 30) ≤ (H22.1 1826 30) ∧ (H22.1 1826 30) ≤ (H.1 1826 29) ∧ (((H22.1 1826 31) = 0 ∧ (H1.1 1826 31) ≠ 0) ∨ (H1.1 1826 30) < (H22.1 1826 30)))))
    · have b3x : (H1.1 1826 35) ≠ 0 := b3
      refine h_run 0 (pc' := 125) (l' := [(0, .inr (.inr 1826))]) (st' := [.inl 0]) rfl ?_
      refine h_zeq (off := 23) (t := 148) rfl rfl (by decide) (fun _ => ?_) (fun c => absurd c (by decide))
      refine h_ret rfl rfl ?_
      have g57 : -2147483648 ≤ (H1.1 1826 30) ∧ (H1.1 1826 30) ≤ 2147483647 := hrg1.1 1826 13 30 _ .int rfl rfl
      have g58 : -2147483648 ≤ (H1.1 1826 32) ∧ (H1.1 1826 32) ≤ 2147483647 := hrg1.1 1826 13 32 _ .int rfl rfl
      have g59 : -2147483648 ≤ (H1.1 1826 29) ∧ (H1.1 1826 29) ≤ 2147483647 := hrg1.1 1826 13 29 _ .int rfl rfl
      have e60 : (H1.1 1826 29) = (H.1 1826 29) := hf.2.2 29 (by decide)
      have g61 : -2147483648 ≤ (H1.1 1826 1) ∧ (H1.1 1826 1) ≤ 2147483647 := hrg1.1 1826 13 1 _ .int rfl rfl
      have g62 : -2147483648 ≤ (H1.1 1826 3) ∧ (H1.1 1826 3) ≤ 2147483647 := hrg1.1 1826 13 3 _ .int rfl rfl
      have g63 : -2147483648 ≤ (H1.1 1826 8) ∧ (H1.1 1826 8) ≤ 2147483647 := hrg1.1 1826 13 8 _ .int rfl rfl
      have e64 : (H1.1 1826 8) = (H.1 1826 8) := hf.2.2 8 (by decide)
      have g65 : -2147483648 ≤ (H1.1 1826 13) ∧ (H1.1 1826 13) ≤ 2147483647 := hrg1.1 1826 13 13 _ .int rfl rfl
      have e66 : (H1.1 1826 13) = (H.1 1826 13) := hf.2.2 13 (by decide)
      have g67 : -2147483648 ≤ (H1.1 1826 19) ∧ (H1.1 1826 19) ≤ 2147483647 := hrg1.1 1826 13 19 _ .int rfl rfl
      have e68 : (H1.1 1826 19) = (H.1 1826 19) := hf.2.2 19 (by decide)
      exact ⟨rfl, (Or.inr ⟨(by omega : (H1.1 1826 35) ≠ 0), GB_b hDL (by omega)⟩), hf, (by omega : (H.1 1826 30) ≤ (H1.1 1826 30) ∧ (H1.1 1826 30) ≤ (H.1 1826 29)), (by omega : 0 ≤ (H1.1 1826 35) ∧ (H1.1 1826 35) ≤ 5), (by omega : (H.1 1826 35) ≠ 0 → (H1.1 1826 35) ≠ 0), (by omega : 0 ≤ (H1.1 1826 32) ∧ (H1.1 1826 32) ≤ 1000), hag, hP1⟩
set_option maxRecDepth 100000 in
theorem n_data {zC : Nat → Option zsh} {d : Nat} (hd : 6 ≤ d) {H : hp}  {Y : yx} {m : Int} {c0 : cf} {K : List tq} {X : rx} {nn : Int} (h0 : 0 ≤ (H.1 1826 30) ∧ (H.1 1826 30) ≤ (H.1 1826 29) ∧ (H.1 1826 29) ≤ 1000) (hw : 0 ≤ (H.1 1826 35) ∧ (H.1 1826 35) ≤ 5) (hst : 0 ≤ (H.1 1826 32) ∧ (H.1 1826 32) ≤ 1000) (hP : PWc H) (hw0 : (H.1 1826 35) = 0) (hR : RK Y m H X) (hq : rch Y c0 ((6, nn, 0, 0) :: K, X)) (htk : tk Y (xi X) = 4) : hG (zs zC) d mt_170 0 (zargs 0 [.inr (.inr 1826)]) [] H (fun r H2 => r = none ∧ GB Y m c0 H2 (∃ X2 : rx, rch Y c0 (((1, 59, 0, 0) :: (6, nn + 1, 0, 0) :: K), X2) ∧ RK Y m H2 X2) ∧ fr [30, 31, 32, 33, 35, 36, 3, 1] [1828, 1829, 1830, 1831, 1827] H H2 ∧ ((H.1 1826 30) ≤ (H2.1 1826 30) ∧ (H2.1 1826 30) ≤ (H.1 1826 29)) ∧ (0 ≤ (H2.1 1826 35) ∧ (H2.1 1826 35) ≤ 5) ∧ ((H.1 1826 35) ≠ 0 → (H2.1 1826 35) ≠ 0) ∧ (0 ≤ (H2.1 1826 32) ∧ (H2.1 1826 32) ≤ 1000) ∧ agp H H2 ∧ ((H2.1 1826 35) = 0 → PWc H2)) := by
  refine h_rng (fun hrg0 => ?_)
  refine h_run 0 (pc' := 0) (l' := [(0, .inr (.inr 1826))]) (st' := []) rfl ?_
  obtain ⟨⟨pb1, pb2, pb3, pb4, pb5⟩, pw1, pw2, pw3, pw4⟩ := (id hP : PW H (H.1 1826 1) (H.1 1826 3) (H.1 1826 8) (H.1 1826 13) (H.1 1826 19))
  have hx3 := hR.2.2.2.2.1.1
  have ha3 : adv X 0 3 = X 0 3 := (sT_adv X).2.2 3 (by decide) (by decide)
  refine h_run 1 (pc' := 1) (l' := [(0, .inr (.inr 1826))]) (st' := [.inr (.inr 1826)]) rfl ?_
  have g69 : -2147483648 ≤ (H.1 1826 30) ∧ (H.1 1826 30) ≤ 2147483647 := hrg0.1 1826 13 30 _ .int rfl rfl
  have g70 : -2147483648 ≤ (H.1 1826 29) ∧ (H.1 1826 29) ≤ 2147483647 := hrg0.1 1826 13 29 _ .int rfl rfl
  have g71 : -2147483648 ≤ (H.1 1826 35) ∧ (H.1 1826 35) ≤ 2147483647 := hrg0.1 1826 13 35 _ .int rfl rfl
  have g72 : -2147483648 ≤ (H.1 1826 32) ∧ (H.1 1826 32) ≤ 2147483647 := hrg0.1 1826 13 32 _ .int rfl rfl
  refine h_cv (i := 297) (j := 165) (b := 1826) (M' := mt_165) (xs := []) (rest := []) rfl rfl rfl rfl rfl rfl (Nat.le_of_ble_eq_true rfl) (Nat.le_of_ble_eq_true rfl) (by omega) (n_nx2 (by omega) (by omega : 0 ≤ (H.1 1826 30) ∧ (H.1 1826 30) ≤ (H.1 1826 29) ∧ (H.1 1826 29) ≤ 1000) (by omega : 0 ≤ (H.1 1826 35) ∧ (H.1 1826 35) ≤ 5) (by omega : 0 ≤ (H.1 1826 32) ∧ (H.1 1826 32) ≤ 1000) (by omega : (H.1 1826 35) = 0) (X := (adv X)) (RN_adv hR (fr_rf [] [] _) (by decide) (by decide)) (fun q9 => (rch_st hq (by show stDec Y nn K X = _; unfold stDec miss; (repeat (first | rw [if_pos (by omega)] | rw [if_neg (by omega)])); try (first | rfl | (exfalso; omega)))))) ?_
  rintro _ H73 ⟨rfl, hx73n, hx73f, hx73a, hx73b, hx73c, -, hx73e, hx73g⟩
  refine h_rng (fun hrg74 => ?_)
  have hf75 : fr [30, 31, 32, 33, 35, 36, 3, 1] [1828, 1829, 1830, 1831, 1827] H H73 := fr_t (fr_rf _ _ _) hx73f (by decide) (by decide)
  have ha76 : agp H H73 := agp_tr (agp_rf _) (agp_fr hx73f (by decide) (by decide))
  replace hx73a : (H.1 1826 30) ≤ (H73.1 1826 30) := hx73a
  replace hx73b : (H73.1 1826 30) ≤ (H.1 1826 29) := hx73b
  replace hx73g : (H73.1 1826 35) = 0 → ((H73.1 1826 31) = 0 ∨ (H.1 1826 30) < (H73.1 1826 30)) := hx73g
  refine h_run 0 (pc' := 4) (l' := [(0, .inr (.inr 1826))]) (st' := []) rfl ?_
  refine h_run 1 (pc' := 5) (l' := [(0, .inr (.inr 1826))]) (st' := [.inr (.inr 1826)]) rfl ?_
  have g77 : -2147483648 ≤ (H73.1 1826 35) ∧ (H73.1 1826 35) ≤ 2147483647 := hrg74.1 1826 13 35 _ .int rfl rfl
  refine h_cv (i := 293) (j := 158) (b := 1826) (M' := mt_158) (xs := []) (rest := []) rfl rfl rfl rfl rfl rfl (Nat.le_of_ble_eq_true rfl) (Nat.le_of_ble_eq_true rfl) (by omega) (m_good (by omega)) ?_
  rintro _ _ ⟨⟨rfl, b78⟩ | ⟨rfl, b78⟩, rfl⟩
  · have b78x : (H73.1 1826 35) = 0 := b78
    replace hx73g := hx73g b78x
    refine h_run 0 (pc' := 8) (l' := [(0, .inr (.inr 1826))]) (st' := [.inl 1]) rfl ?_
    refine h_zeq (off := 16) (t := 24) rfl rfl (by decide) (fun c => absurd c (by decide)) (fun _ => ?_)
    have hR1 := GB_g hx73n (by omega)
    have htk1 := RK_t hR1
    have hy3 := hR1.2.2.2.2.1.1
    refine h_run 2 (pc' := 15) (l' := [(0, .inr (.inr 1826))]) (st' := [.inl (H73.1 1826 31)]) rfl ?_
    have g79 : -2147483648 ≤ (H73.1 1826 31) ∧ (H73.1 1826 31) ≤ 2147483647 := hrg74.1 1826 13 31 _ .int rfl rfl
    refine h_run 1 (pc' := 16) (l' := [(0, .inr (.inr 1826))]) (st' := [.inl 2, .inl (H73.1 1826 31)]) rfl ?_
    refine h_ieq (off := 8) (t := 24) rfl rfl (by omega) (by decide) (fun c80 => ?_) (fun c80 => ?_)
    · refine h_run 1 (pc' := 25) (l' := [(0, .inr (.inr 1826))]) (st' := [.inr (.inr 1826)]) rfl ?_
      refine h_cv (i := 293) (j := 158) (b := 1826) (M' := mt_158) (xs := []) (rest := []) rfl rfl rfl rfl rfl rfl (Nat.le_of_ble_eq_true rfl) (Nat.le_of_ble_eq_true rfl) (by omega) (m_good1 (by omega) (by omega : (H73.1 1826 35) = 0)) ?_
      rintro _ _ ⟨rfl, rfl⟩
      refine h_run 0 (pc' := 28) (l' := [(0, .inr (.inr 1826))]) (st' := [.inl 1]) rfl ?_
      refine h_zeq (off := 27) (t := 55) rfl rfl (by decide) (fun c => absurd c (by decide)) (fun _ => ?_)
      refine h_run 4 (pc' := 39) (l' := [(0, .inr (.inr 1826))]) (st' := [.inl (H73.1 1826 1), .inr (.inr 1827)]) rfl ?_
      have g81 : -2147483648 ≤ (H73.1 1826 1) ∧ (H73.1 1826 1) ≤ 2147483647 := hrg74.1 1826 13 1 _ .int rfl rfl
      have e82 : (H73.1 1826 1) = (H.1 1826 1) := hx73f.2.2 1 (by decide)
      refine h_run 2 (pc' := 43) (l' := [(0, .inr (.inr 1826))]) (st' := [.inr (.inl (H73.1 1826 33)), .inl (H73.1 1826 1), .inr (.inr 1827)]) rfl ?_
      have g83 : -9223372036854775808 ≤ (H73.1 1826 33) ∧ (H73.1 1826 33) ≤ 9223372036854775807 := hrg74.1 1826 13 33 _ .long rfl rfl
      refine h_cs (i := 309) (j := 167) (M' := mt_167) (xs := [.inr (.inl (H73.1 1826 33)), .inl (H73.1 1826 1), .inr (.inr 1827)]) (rest := []) rfl rfl rfl rfl rfl (Nat.le_of_ble_eq_true rfl) (Nat.le_of_ble_eq_true rfl) (by omega) (n_find (by omega) (m := 6) (z := tfd Y (adv X)) rfl (by omega : 0 ≤ (H73.1 1826 1) ∧ (H73.1 1826 1) ≤ ((6 : Nat) : Int) ∧ 6 ≤ 100) (by omega) (RK_tf hR1 (Or.inr (by omega)))) ?_
      rintro _ _ ⟨⟨k84, rfl, f85, f85x⟩ | ⟨rfl, f85⟩, rfl⟩
      · refine h_run 0 (pc' := 46) (l' := [(0, .inr (.inr 1826))]) (st' := [.inl (k84 : Int)]) rfl ?_
        refine h_run 1 (pc' := 47) (l' := [(0, .inr (.inr 1826))]) (st' := [.inl (-1), .inl (k84 : Int)]) rfl ?_
        refine h_ieq (off := 8) (t := 55) rfl rfl (by omega) (by decide) (fun c86 => ?_) (fun c86 => ?_)
        · exfalso
          omega
        · refine h_run 2 (pc' := 52) (l' := [(0, .inr (.inr 1826))]) (st' := [.inl 3, .inr (.inr 1826)]) rfl ?_
          refine h_cv (i := 278) (j := 159) (b := 1826) (M' := mt_159) (xs := [.inl 3]) (rest := []) rfl rfl rfl rfl rfl rfl (Nat.le_of_ble_eq_true rfl) (Nat.le_of_ble_eq_true rfl) (by omega) (m_bad0 (by omega) (by omega) (by omega : (H73.1 1826 35) = 0)) ?_
          rintro _ _ ⟨rfl, rfl⟩
          refine h_run 0 (pc' := 55) (l' := [(0, .inr (.inr 1826))]) (st' := []) rfl ?_
          refine h_run 1 (pc' := 56) (l' := [(0, .inr (.inr 1826))]) (st' := [.inr (.inr 1826)]) rfl ?_
          refine h_cv (i := 293) (j := 158) (b := 1826) (M' := mt_158) (xs := []) (rest := []) rfl rfl rfl rfl rfl rfl (Nat.le_of_ble_eq_true rfl) (Nat.le_of_ble_eq_true rfl) (by omega) (m_good0 (by omega) (by omega : (3 : Int) ≠ 0)) ?_
          rintro _ _ ⟨rfl, rfl⟩
          refine h_run 0 (pc' := 59) (l' := [(0, .inr (.inr 1826))]) (st' := [.inl 0]) rfl ?_
          refine h_zeq (off := 17) (t := 76) rfl rfl (by decide) (fun _ => ?_) (fun c => absurd c (by decide))
          refine h_run 1 (pc' := 77) (l' := [(0, .inr (.inr 1826))]) (st' := [.inr (.inr 1826)]) rfl ?_
          refine h_cv (i := 293) (j := 158) (b := 1826) (M' := mt_158) (xs := []) (rest := []) rfl rfl rfl rfl rfl rfl (Nat.le_of_ble_eq_true rfl) (Nat.le_of_ble_eq_true rfl) (by omega) (m_good0 (by omega) (by omega : (3 : Int) ≠ 0)) ?_
          rintro _ _ ⟨rfl, rfl⟩
          refine h_run 0 (pc' := 80) (l' := [(0, .inr (.inr 1826))]) (st' := [.inl 0]) rfl ?_
          refine h_zne (off := 4) (t := 84) rfl rfl (by decide) (fun c => absurd c (by decide)) (fun _ => ?_)
          refine h_ret rfl rfl ?_
          have g87 : -2147483648 ≤ (H73.1 1826 30) ∧ (H73.1 1826 30) ≤ 2147483647 := hrg74.1 1826 13 30 _ .int rfl rfl
          have g88 : -2147483648 ≤ (H73.1 1826 32) ∧ (H73.1 1826 32) ≤ 2147483647 := hrg74.1 1826 13 32 _ .int rfl rfl
          have g89 : -2147483648 ≤ (H73.1 1826 29) ∧ (H73.1 1826 29) ≤ 2147483647 := hrg74.1 1826 13 29 _ .int rfl rfl
          have e90 : (H73.1 1826 29) = (H.1 1826 29) := hx73f.2.2 29 (by decide)
          have g91 : -2147483648 ≤ (H73.1 1826 3) ∧ (H73.1 1826 3) ≤ 2147483647 := hrg74.1 1826 13 3 _ .int rfl rfl
          have e92 : (H73.1 1826 3) = (H.1 1826 3) := hx73f.2.2 3 (by decide)
          have g93 : -2147483648 ≤ (H73.1 1826 8) ∧ (H73.1 1826 8) ≤ 2147483647 := hrg74.1 1826 13 8 _ .int rfl rfl
          have e94 : (H73.1 1826 8) = (H.1 1826 8) := hx73f.2.2 8 (by decide)
          have g95 : -2147483648 ≤ (H73.1 1826 13) ∧ (H73.1 1826 13) ≤ 2147483647 := hrg74.1 1826 13 13 _ .int rfl rfl
          have e96 : (H73.1 1826 13) = (H.1 1826 13) := hx73f.2.2 13 (by decide)
          have g97 : -2147483648 ≤ (H73.1 1826 19) ∧ (H73.1 1826 19) ≤ 2147483647 := hrg74.1 1826 13 19 _ .int rfl rfl
          have e98 : (H73.1 1826 19) = (H.1 1826 19) := hx73f.2.2 19 (by decide)
          exact ⟨rfl, (Or.inr ⟨(by omega : (3 : Int) ≠ 0), (BD_mk hR1 (fr_o (fr_o (fr_rf [35, 36] [] H73) (by decide)) (by decide)) (by decide) (by decide) (by decide : (3 : Int) ≠ 0) rfl rfl (rch_st hq (by show stDec Y nn K X = _; unfold stDec miss; (repeat (first | rw [if_pos (by omega)] | rw [if_neg (by omega)])); try (first | rfl | (exfalso; omega)))))⟩), (fr_o (fr_o hf75 (by decide)) (by decide)), (by omega : (H.1 1826 30) ≤ (H73.1 1826 30) ∧ (H73.1 1826 30) ≤ (H.1 1826 29)), (by omega : 0 ≤ (3 : Int) ∧ (3 : Int) ≤ 5), (by omega : (H.1 1826 35) ≠ 0 → (3 : Int) ≠ 0), (by omega : 0 ≤ (H73.1 1826 32) ∧ (H73.1 1826 32) ≤ 1000), (agp_o (agp_o ha76 (by decide)) (by decide)), (fun (q : (3 : Int) = 0) => absurd q (by omega))⟩
      · refine h_run 0 (pc' := 46) (l' := [(0, .inr (.inr 1826))]) (st' := [.inl (-1)]) rfl ?_
        refine h_run 1 (pc' := 47) (l' := [(0, .inr (.inr 1826))]) (st' := [.inl (-1), .inl (-1)]) rfl ?_
        refine h_ieq (off := 8) (t := 55) rfl rfl (by decide) (by decide) (fun _ => ?_) (fun c => absurd c (by decide))
        refine h_run 1 (pc' := 56) (l' := [(0, .inr (.inr 1826))]) (st' := [.inr (.inr 1826)]) rfl ?_
        refine h_cv (i := 293) (j := 158) (b := 1826) (M' := mt_158) (xs := []) (rest := []) rfl rfl rfl rfl rfl rfl (Nat.le_of_ble_eq_true rfl) (Nat.le_of_ble_eq_true rfl) (by omega) (m_good1 (by omega) (by omega : (H73.1 1826 35) = 0)) ?_
        rintro _ _ ⟨rfl, rfl⟩
        refine h_run 0 (pc' := 59) (l' := [(0, .inr (.inr 1826))]) (st' := [.inl 1]) rfl ?_
        refine h_zeq (off := 17) (t := 76) rfl rfl (by decide) (fun c => absurd c (by decide)) (fun _ => ?_)
        refine h_run 2 (pc' := 66) (l' := [(0, .inr (.inr 1826))]) (st' := [.inl (H73.1 1826 1)]) rfl ?_
        refine h_run 1 (pc' := 68) (l' := [(0, .inr (.inr 1826))]) (st' := [.inl 6, .inl (H73.1 1826 1)]) rfl ?_
        refine h_ine (off := 8) (t := 76) rfl rfl (by omega) (by decide) (fun c99 => ?_) (fun c99 => ?_)
        · refine h_run 1 (pc' := 77) (l' := [(0, .inr (.inr 1826))]) (st' := [.inr (.inr 1826)]) rfl ?_
          refine h_cv (i := 293) (j := 158) (b := 1826) (M' := mt_158) (xs := []) (rest := []) rfl rfl rfl rfl rfl rfl (Nat.le_of_ble_eq_true rfl) (Nat.le_of_ble_eq_true rfl) (by omega) (m_good1 (by omega) (by omega : (H73.1 1826 35) = 0)) ?_
          rintro _ _ ⟨rfl, rfl⟩
          refine h_run 0 (pc' := 80) (l' := [(0, .inr (.inr 1826))]) (st' := [.inl 1]) rfl ?_
          refine h_zne (off := 4) (t := 84) rfl rfl (by decide) (fun _ => ?_) (fun c => absurd c (by decide))
          refine h_run 4 (pc' := 92) (l' := [(0, .inr (.inr 1826))]) (st' := [.inl (H73.1 1826 1), .inr (.inr 1827)]) rfl ?_
          refine h_run 2 (pc' := 96) (l' := [(0, .inr (.inr 1826))]) (st' := [.inr (.inl (H73.1 1826 33)), .inl (H73.1 1826 1), .inr (.inr 1827)]) rfl ?_
          refine h_lst (c := 1827) (j := ((H73.1 1826 1)).toNat) (i := (H73.1 1826 1)) (x := (H73.1 1826 33)) rfl rfl (by decide) (by decide) (by omega) (by omega) (by first | omega | exact z_long _) ?_
          refine h_run 3 (pc' := 102) (l' := [(0, .inr (.inr 1826))]) (st' := [.inl (H73.1 1826 1), .inr (.inr 1826)]) rfl ?_
          refine h_run 2 (pc' := 104) (l' := [(0, .inr (.inr 1826))]) (st' := [.inl ((H73.1 1826 1) + 1), .inr (.inr 1826)]) rfl ?_
          refine h_puti (i := 306) (ci := 13) (k := 1) (a := 1826) (x := ((H73.1 1826 1) + 1)) rfl rfl rfl rfl rfl rfl (by decide) (by omega) ?_
          have hq3 : rch Y c0 ((1, 61, 0, 0) :: (7, X 0 3, 0, 0) :: (9, X 0 3, 0, 0) :: ((1, 59, 0, 0) :: (6, nn + 1, 0, 0) :: K), (xtyp (adv X) (tn Y (xi (adv X))))) := (rch_st hq (by show stDec Y nn K X = _; unfold stDec miss; (repeat (first | rw [if_pos (by omega)] | rw [if_neg (by omega)])); try (first | rfl | (exfalso; omega))))
          refine h_run 1 (pc' := 108) (l' := [(0, .inr (.inr 1826))]) (st' := [.inr (.inr 1826)]) rfl ?_
          have g100 : -2147483648 ≤ (H73.1 1826 30) ∧ (H73.1 1826 30) ≤ 2147483647 := hrg74.1 1826 13 30 _ .int rfl rfl
          have g101 : -2147483648 ≤ (H73.1 1826 29) ∧ (H73.1 1826 29) ≤ 2147483647 := hrg74.1 1826 13 29 _ .int rfl rfl
          have e102 : (H73.1 1826 29) = (H.1 1826 29) := hx73f.2.2 29 (by decide)
          have g103 : -2147483648 ≤ (H73.1 1826 32) ∧ (H73.1 1826 32) ≤ 2147483647 := hrg74.1 1826 13 32 _ .int rfl rfl
          refine h_cv (i := 297) (j := 165) (b := 1826) (M' := mt_165) (xs := []) (rest := []) rfl rfl rfl rfl rfl rfl (Nat.le_of_ble_eq_true rfl) (Nat.le_of_ble_eq_true rfl) (by omega) (n_nx (by omega) (by omega : 0 ≤ (H73.1 1826 30) ∧ (H73.1 1826 30) ≤ (H73.1 1826 29) ∧ (H73.1 1826 29) ≤ 1000) (by omega : 0 ≤ (H73.1 1826 35) ∧ (H73.1 1826 35) ≤ 5) (by omega : 0 ≤ (H73.1 1826 32) ∧ (H73.1 1826 32) ≤ 1000) (by omega : (H73.1 1826 35) = 0) (X := (xtyp (adv X) (tn Y (xi (adv X))))) (RN_mk hR1 (fr_o (fr_a (fr_rf [1] [1827] H73) (by decide)) (by decide)) (by decide) (by decide) (xtyp_s _ _).1 (TA_typ hR1.2.2.2.2 (fr_o (fr_a (fr_rf [1] [1827] H73) (by decide)) (by decide)) (by decide) (by decide) (by omega) (by rw [← RK_n hR1 (Or.inr (by omega))]; rfl) rfl)) hq3 (lk_1 (by decide))) ?_
          rintro _ H104 ⟨rfl, hx104n, hx104f, hx104a, hx104b, hx104c, -, hx104e, hx104g⟩
          refine h_rng (fun hrg105 => ?_)
          have hf106 : fr [30, 31, 32, 33, 35, 36, 3, 1] [1828, 1829, 1830, 1831, 1827] H H104 := fr_t (fr_o (fr_a hf75 (by decide)) (by decide)) hx104f (by decide) (by decide)
          have ha107 : agp H H104 := agp_tr (agp_n1 (agp_a ha76 (by decide)) (by omega : (H.1 1826 1) ≤ ((H73.1 1826 1) + 1))) (agp_fr hx104f (by decide) (by decide))
          replace hx104a : (H73.1 1826 30) ≤ (H104.1 1826 30) := hx104a
          replace hx104b : (H104.1 1826 30) ≤ (H73.1 1826 29) := hx104b
          replace hx104g : (H104.1 1826 35) = 0 → ((H104.1 1826 31) = 0 ∨ (H73.1 1826 30) < (H104.1 1826 30)) := hx104g
          refine h_run 0 (pc' := 111) (l' := [(0, .inr (.inr 1826))]) (st' := []) rfl ?_
          refine h_run 2 (pc' := 114) (l' := [(0, .inr (.inr 1826))]) (st' := [.inl 61, .inr (.inr 1826)]) rfl ?_
          have g108 : -2147483648 ≤ (H104.1 1826 35) ∧ (H104.1 1826 35) ≤ 2147483647 := hrg105.1 1826 13 35 _ .int rfl rfl
          by_cases b109 : (H104.1 1826 35) = 0
          · have g110 : -2147483648 ≤ (H104.1 1826 30) ∧ (H104.1 1826 30) ≤ 2147483647 := hrg105.1 1826 13 30 _ .int rfl rfl
            have g111 : -2147483648 ≤ (H104.1 1826 29) ∧ (H104.1 1826 29) ≤ 2147483647 := hrg105.1 1826 13 29 _ .int rfl rfl
            have e112 : (H104.1 1826 29) = (H73.1 1826 29) := hx104f.2.2 29 (by decide)
            have g113 : -2147483648 ≤ (H104.1 1826 31) ∧ (H104.1 1826 31) ≤ 2147483647 := hrg105.1 1826 13 31 _ .int rfl rfl
            have g115 : -2147483648 ≤ (H104.1 1826 32) ∧ (H104.1 1826 32) ≤ 2147483647 := hrg105.1 1826 13 32 _ .int rfl rfl
            refine h_cv (i := 313) (j := 166) (b := 1826) (M' := mt_166) (xs := [.inl 61]) (rest := []) rfl rfl rfl rfl rfl rfl (Nat.le_of_ble_eq_true rfl) (Nat.le_of_ble_eq_true rfl) (by omega) (n_want (by omega) (by omega : 0 ≤ (H104.1 1826 30) ∧ (H104.1 1826 30) ≤ (H104.1 1826 29) ∧ (H104.1 1826 29) ≤ 1000) (by omega : 0 ≤ (H104.1 1826 35) ∧ (H104.1 1826 35) ≤ 5) (by omega : 0 ≤ (H104.1 1826 32) ∧ (H104.1 1826 32) ≤ 1000) (by omega) (by omega : (H104.1 1826 35) = 0) (GB_g hx104n (by omega)) hq3 (lk_n (by decide))) ?_
            rintro _ H114 ⟨rfl, hx114n, hx114f, hx114a, hx114b, hx114c, -, hx114e, hx114g⟩
            refine h_rng (fun hrg116 => ?_)
            have hf117 : fr [30, 31, 32, 33, 35, 36, 3, 1] [1828, 1829, 1830, 1831, 1827] H H114 := fr_t hf106 hx114f (by decide) (by decide)
            have ha118 : agp H H114 := agp_tr ha107 (agp_fr hx114f (by decide) (by decide))
            replace hx114a : (H104.1 1826 30) ≤ (H114.1 1826 30) := hx114a
            replace hx114b : (H114.1 1826 30) ≤ (H104.1 1826 29) := hx114b
            replace hx114g : (H114.1 1826 35) = 0 → (H104.1 1826 31) = (61 : Int) ∧ ((H114.1 1826 31) = 0 ∨ (H104.1 1826 30) < (H114.1 1826 30)) := hx114g
            refine h_run 0 (pc' := 117) (l' := [(0, .inr (.inr 1826))]) (st' := []) rfl ?_
            refine h_run 1 (pc' := 118) (l' := [(0, .inr (.inr 1826))]) (st' := [.inr (.inr 1826)]) rfl ?_
            have g119 : -2147483648 ≤ (H114.1 1826 35) ∧ (H114.1 1826 35) ≤ 2147483647 := hrg116.1 1826 13 35 _ .int rfl rfl
            by_cases b120 : (H114.1 1826 35) = 0
            · have g121 : -2147483648 ≤ (H114.1 1826 30) ∧ (H114.1 1826 30) ≤ 2147483647 := hrg116.1 1826 13 30 _ .int rfl rfl
              have g122 : -2147483648 ≤ (H114.1 1826 29) ∧ (H114.1 1826 29) ≤ 2147483647 := hrg116.1 1826 13 29 _ .int rfl rfl
              have e123 : (H114.1 1826 29) = (H104.1 1826 29) := hx114f.2.2 29 (by decide)
              have g124 : -2147483648 ≤ (H114.1 1826 31) ∧ (H114.1 1826 31) ≤ 2147483647 := hrg116.1 1826 13 31 _ .int rfl rfl
              have g125 : -2147483648 ≤ (H114.1 1826 1) ∧ (H114.1 1826 1) ≤ 2147483647 := hrg116.1 1826 13 1 _ .int rfl rfl
              have e126 : (H114.1 1826 1) = (H104.1 1826 1) := hx114f.2.2 1 (by decide)
              have e127 : (H104.1 1826 1) = ((H73.1 1826 1) + 1) := hx104f.2.2 1 (by decide)
              have g129 : -2147483648 ≤ (H114.1 1826 3) ∧ (H114.1 1826 3) ≤ 2147483647 := hrg116.1 1826 13 3 _ .int rfl rfl
              have e130 : (H114.1 1826 3) = (H104.1 1826 3) := hx114f.2.2 3 (by decide)
              have e131 : (H104.1 1826 3) = (H73.1 1826 3) := hx104f.2.2 3 (by decide)
              have e132 : (H73.1 1826 3) = (H.1 1826 3) := hx73f.2.2 3 (by decide)
              have g133 : -2147483648 ≤ (H114.1 1826 8) ∧ (H114.1 1826 8) ≤ 2147483647 := hrg116.1 1826 13 8 _ .int rfl rfl
              have e134 : (H114.1 1826 8) = (H104.1 1826 8) := hx114f.2.2 8 (by decide)
              have e135 : (H104.1 1826 8) = (H73.1 1826 8) := hx104f.2.2 8 (by decide)
              have e136 : (H73.1 1826 8) = (H.1 1826 8) := hx73f.2.2 8 (by decide)
              have g137 : -2147483648 ≤ (H114.1 1826 13) ∧ (H114.1 1826 13) ≤ 2147483647 := hrg116.1 1826 13 13 _ .int rfl rfl
              have e138 : (H114.1 1826 13) = (H104.1 1826 13) := hx114f.2.2 13 (by decide)
              have e139 : (H104.1 1826 13) = (H73.1 1826 13) := hx104f.2.2 13 (by decide)
              have e140 : (H73.1 1826 13) = (H.1 1826 13) := hx73f.2.2 13 (by decide)
              have g141 : -2147483648 ≤ (H114.1 1826 19) ∧ (H114.1 1826 19) ≤ 2147483647 := hrg116.1 1826 13 19 _ .int rfl rfl
              have e142 : (H114.1 1826 19) = (H104.1 1826 19) := hx114f.2.2 19 (by decide)
              have e143 : (H104.1 1826 19) = (H73.1 1826 19) := hx104f.2.2 19 (by decide)
              have e144 : (H73.1 1826 19) = (H.1 1826 19) := hx73f.2.2 19 (by decide)
              have g145 : -2147483648 ≤ (H114.1 1826 32) ∧ (H114.1 1826 32) ≤ 2147483647 := hrg116.1 1826 13 32 _ .int rfl rfl
              obtain ⟨X4, hq4, hR4, -⟩ := GB_g hx114n (by omega)
              refine h_cv (i := 316) (j := 171) (b := 1826) (M' := mt_171) (xs := []) (rest := []) rfl rfl rfl rfl rfl rfl (Nat.le_of_ble_eq_true rfl) (Nat.le_of_ble_eq_true rfl) (by omega) (n_constructor (by omega) (by omega : 0 ≤ (H114.1 1826 30) ∧ (H114.1 1826 30) ≤ (H114.1 1826 29) ∧ (H114.1 1826 29) ≤ 1000) (by omega : 0 ≤ (H114.1 1826 35) ∧ (H114.1 1826 35) ≤ 5) (by omega : 0 ≤ (H114.1 1826 32) ∧ (H114.1 1826 32) ≤ 1000) (PW_more hP ha118 ⟨(by omega : (H114.1 1826 1) ≤ 6), (by omega : (H114.1 1826 3) ≤ 16), (by omega : (H114.1 1826 8) ≤ 16)⟩ (m_con_agp pw1 ha118 (by omega : (H114.1 1826 3) = (H.1 1826 3))) (m_fun_agp pw2 ha118 (by omega : (H114.1 1826 8) = (H.1 1826 8))) (by omega : (H114.1 1826 13) = (H.1 1826 13)) (by omega : (H114.1 1826 19) = (H.1 1826 19))) (by omega : 1 ≤ (H114.1 1826 1)) (by omega : (H114.1 1826 35) = 0) hR4 (by rw [show (H114.1 1826 1) - 1 = X 0 3 by omega]; exact hq4) (lk_c (lk_1 (by decide)) (by decide : (9 : Nat) ≠ 0) (fun q => absurd q (by decide : (9 : Nat) ≠ 1)))) ?_
              rintro _ H128 ⟨rfl, hx128n, hx128f, hx128a, hx128c, -, hx128e, hx128g, hx128p⟩
              refine h_rng (fun hrg146 => ?_)
              have hf147 : fr [30, 31, 32, 33, 35, 36, 3, 1] [1828, 1829, 1830, 1831, 1827] H H128 := fr_t hf117 hx128f (by decide) (by decide)
              have ha148 : agp H H128 := agp_tr ha118 hx128g
              replace hx128a : (H114.1 1826 30) ≤ (H128.1 1826 30) ∧ (H128.1 1826 30) ≤ (H114.1 1826 29) := hx128a
              have hx128t : (H128.1 1826 35) = 0 → (H114.1 1826 31) = 2 := fun q => (hx128p q).1
              replace hx128p : (H128.1 1826 35) = 0 → PWc H128 := fun q => (hx128p q).2
              refine h_run 0 (pc' := 121) (l' := [(0, .inr (.inr 1826))]) (st' := []) rfl ?_
              have g149 : -2147483648 ≤ (H128.1 1826 30) ∧ (H128.1 1826 30) ≤ 2147483647 := hrg146.1 1826 13 30 _ .int rfl rfl
              have g150 : -2147483648 ≤ (H128.1 1826 35) ∧ (H128.1 1826 35) ≤ 2147483647 := hrg146.1 1826 13 35 _ .int rfl rfl
              have g151 : -2147483648 ≤ (H128.1 1826 32) ∧ (H128.1 1826 32) ≤ 2147483647 := hrg146.1 1826 13 32 _ .int rfl rfl
              have g152 : -2147483648 ≤ (H128.1 1826 31) ∧ (H128.1 1826 31) ≤ 2147483647 := hrg146.1 1826 13 31 _ .int rfl rfl
              have g153 : -2147483648 ≤ (H128.1 1826 3) ∧ (H128.1 1826 3) ≤ 2147483647 := hrg146.1 1826 13 3 _ .int rfl rfl
              have g154 : -2147483648 ≤ (H128.1 1826 29) ∧ (H128.1 1826 29) ≤ 2147483647 := hrg146.1 1826 13 29 _ .int rfl rfl
              have e155 : (H128.1 1826 29) = (H114.1 1826 29) := hx128f.2.2 29 (by decide)
              have g156 : -2147483648 ≤ (H128.1 1826 1) ∧ (H128.1 1826 1) ≤ 2147483647 := hrg146.1 1826 13 1 _ .int rfl rfl
              have e157 : (H128.1 1826 1) = (H114.1 1826 1) := hx128f.2.2 1 (by decide)
              exact (n_data_cut hd h0 hw hst hP hw0 hR hq htk _) _ hf147 (by omega : (H.1 1826 30) ≤ (H128.1 1826 30) ∧ (H128.1 1826 30) ≤ (H.1 1826 29)) (by omega : 0 ≤ (H128.1 1826 35) ∧ (H128.1 1826 35) ≤ 5) (by omega : 0 ≤ (H128.1 1826 32) ∧ (H128.1 1826 32) ≤ 1000) ha148 hx128p (by omega : (H128.1 1826 1) = X 0 3 + 1) (by omega) hx128n (Nat.lt_succ_self _)
            · refine h_cv (i := 316) (j := 171) (b := 1826) (M' := mt_171) (xs := []) (rest := []) rfl rfl rfl rfl rfl rfl (Nat.le_of_ble_eq_true rfl) (Nat.le_of_ble_eq_true rfl) (by omega) (n_constructor0 (by omega) (by omega : (H114.1 1826 35) ≠ 0)) ?_
              rintro _ _ ⟨rfl, rfl⟩
              refine h_run 0 (pc' := 121) (l' := [(0, .inr (.inr 1826))]) (st' := []) rfl ?_
              have g158 : -2147483648 ≤ (H114.1 1826 30) ∧ (H114.1 1826 30) ≤ 2147483647 := hrg116.1 1826 13 30 _ .int rfl rfl
              have g159 : -2147483648 ≤ (H114.1 1826 32) ∧ (H114.1 1826 32) ≤ 2147483647 := hrg116.1 1826 13 32 _ .int rfl rfl
              have g160 : -2147483648 ≤ (H114.1 1826 31) ∧ (H114.1 1826 31) ≤ 2147483647 := hrg116.1 1826 13 31 _ .int rfl rfl
              have g161 : -2147483648 ≤ (H114.1 1826 3) ∧ (H114.1 1826 3) ≤ 2147483647 := hrg116.1 1826 13 3 _ .int rfl rfl
              have e162 : (H114.1 1826 3) = (H104.1 1826 3) := hx114f.2.2 3 (by decide)
              have e163 : (H104.1 1826 3) = (H73.1 1826 3) := hx104f.2.2 3 (by decide)
              have e164 : (H73.1 1826 3) = (H.1 1826 3) := hx73f.2.2 3 (by decide)
              have g165 : -2147483648 ≤ (H114.1 1826 29) ∧ (H114.1 1826 29) ≤ 2147483647 := hrg116.1 1826 13 29 _ .int rfl rfl
              have e166 : (H114.1 1826 29) = (H104.1 1826 29) := hx114f.2.2 29 (by decide)
              have g167 : -2147483648 ≤ (H114.1 1826 1) ∧ (H114.1 1826 1) ≤ 2147483647 := hrg116.1 1826 13 1 _ .int rfl rfl
              have e168 : (H114.1 1826 1) = (H104.1 1826 1) := hx114f.2.2 1 (by decide)
              have e169 : (H104.1 1826 1) = ((H73.1 1826 1) + 1) := hx104f.2.2 1 (by decide)
              exact (n_data_cut hd h0 hw hst hP hw0 hR hq htk _) _ hf117 (by omega : (H.1 1826 30) ≤ (H114.1 1826 30) ∧ (H114.1 1826 30) ≤ (H.1 1826 29)) (by omega : 0 ≤ (H114.1 1826 35) ∧ (H114.1 1826 35) ≤ 5) (by omega : 0 ≤ (H114.1 1826 32) ∧ (H114.1 1826 32) ≤ 1000) ha118 (fun (q : (H114.1 1826 35) = 0) => absurd q (by omega)) (by omega : (H114.1 1826 1) = X 0 3 + 1) (by omega) (Or.inr ⟨(by omega : (H114.1 1826 35) ≠ 0), GB_b hx114n (by omega)⟩) (Nat.lt_succ_self _)
          · refine h_cv (i := 313) (j := 166) (b := 1826) (M' := mt_166) (xs := [.inl 61]) (rest := []) rfl rfl rfl rfl rfl rfl (Nat.le_of_ble_eq_true rfl) (Nat.le_of_ble_eq_true rfl) (by omega) (n_want0 (by omega) (by omega : (H104.1 1826 35) ≠ 0)) ?_
            rintro _ _ ⟨rfl, rfl⟩
            refine h_run 0 (pc' := 117) (l' := [(0, .inr (.inr 1826))]) (st' := []) rfl ?_
            refine h_run 1 (pc' := 118) (l' := [(0, .inr (.inr 1826))]) (st' := [.inr (.inr 1826)]) rfl ?_
            refine h_cv (i := 316) (j := 171) (b := 1826) (M' := mt_171) (xs := []) (rest := []) rfl rfl rfl rfl rfl rfl (Nat.le_of_ble_eq_true rfl) (Nat.le_of_ble_eq_true rfl) (by omega) (n_constructor0 (by omega) (by omega : (H104.1 1826 35) ≠ 0)) ?_
            rintro _ _ ⟨rfl, rfl⟩
            refine h_run 0 (pc' := 121) (l' := [(0, .inr (.inr 1826))]) (st' := []) rfl ?_
            have g170 : -2147483648 ≤ (H104.1 1826 30) ∧ (H104.1 1826 30) ≤ 2147483647 := hrg105.1 1826 13 30 _ .int rfl rfl
            have g171 : -2147483648 ≤ (H104.1 1826 32) ∧ (H104.1 1826 32) ≤ 2147483647 := hrg105.1 1826 13 32 _ .int rfl rfl
            have g172 : -2147483648 ≤ (H104.1 1826 31) ∧ (H104.1 1826 31) ≤ 2147483647 := hrg105.1 1826 13 31 _ .int rfl rfl
            have g173 : -2147483648 ≤ (H104.1 1826 3) ∧ (H104.1 1826 3) ≤ 2147483647 := hrg105.1 1826 13 3 _ .int rfl rfl
            have e174 : (H104.1 1826 3) = (H73.1 1826 3) := hx104f.2.2 3 (by decide)
            have e175 : (H73.1 1826 3) = (H.1 1826 3) := hx73f.2.2 3 (by decide)
            have g176 : -2147483648 ≤ (H104.1 1826 29) ∧ (H104.1 1826 29) ≤ 2147483647 := hrg105.1 1826 13 29 _ .int rfl rfl
            have e177 : (H104.1 1826 29) = (H73.1 1826 29) := hx104f.2.2 29 (by decide)
            have g178 : -2147483648 ≤ (H104.1 1826 1) ∧ (H104.1 1826 1) ≤ 2147483647 := hrg105.1 1826 13 1 _ .int rfl rfl
            have e179 : (H104.1 1826 1) = ((H73.1 1826 1) + 1) := hx104f.2.2 1 (by decide)
            exact (n_data_cut hd h0 hw hst hP hw0 hR hq htk _) _ hf106 (by omega : (H.1 1826 30) ≤ (H104.1 1826 30) ∧ (H104.1 1826 30) ≤ (H.1 1826 29)) (by omega : 0 ≤ (H104.1 1826 35) ∧ (H104.1 1826 35) ≤ 5) (by omega : 0 ≤ (H104.1 1826 32) ∧ (H104.1 1826 32) ≤ 1000) ha107 (fun (q : (H104.1 1826 35) = 0) => absurd q (by omega)) (by omega : (H104.1 1826 1) = X 0 3 + 1) (by omega) (Or.inr ⟨(by omega : (H104.1 1826 35) ≠ 0), GB_b hx104n (by omega)⟩) (Nat.lt_succ_self _)
        · refine h_run 2 (pc' := 73) (l' := [(0, .inr (.inr 1826))]) (st' := [.inl 5, .inr (.inr 1826)]) rfl ?_
          refine h_cv (i := 278) (j := 159) (b := 1826) (M' := mt_159) (xs := [.inl 5]) (rest := []) rfl rfl rfl rfl rfl rfl (Nat.le_of_ble_eq_true rfl) (Nat.le_of_ble_eq_true rfl) (by omega) (m_bad0 (by omega) (by omega) (by omega : (H73.1 1826 35) = 0)) ?_
          rintro _ _ ⟨rfl, rfl⟩
          refine h_run 0 (pc' := 76) (l' := [(0, .inr (.inr 1826))]) (st' := []) rfl ?_
          refine h_run 1 (pc' := 77) (l' := [(0, .inr (.inr 1826))]) (st' := [.inr (.inr 1826)]) rfl ?_
          refine h_cv (i := 293) (j := 158) (b := 1826) (M' := mt_158) (xs := []) (rest := []) rfl rfl rfl rfl rfl rfl (Nat.le_of_ble_eq_true rfl) (Nat.le_of_ble_eq_true rfl) (by omega) (m_good0 (by omega) (by omega : (5 : Int) ≠ 0)) ?_
          rintro _ _ ⟨rfl, rfl⟩
          refine h_run 0 (pc' := 80) (l' := [(0, .inr (.inr 1826))]) (st' := [.inl 0]) rfl ?_
          refine h_zne (off := 4) (t := 84) rfl rfl (by decide) (fun c => absurd c (by decide)) (fun _ => ?_)
          refine h_ret rfl rfl ?_
          have g180 : -2147483648 ≤ (H73.1 1826 30) ∧ (H73.1 1826 30) ≤ 2147483647 := hrg74.1 1826 13 30 _ .int rfl rfl
          have g181 : -2147483648 ≤ (H73.1 1826 32) ∧ (H73.1 1826 32) ≤ 2147483647 := hrg74.1 1826 13 32 _ .int rfl rfl
          have g182 : -2147483648 ≤ (H73.1 1826 29) ∧ (H73.1 1826 29) ≤ 2147483647 := hrg74.1 1826 13 29 _ .int rfl rfl
          have e183 : (H73.1 1826 29) = (H.1 1826 29) := hx73f.2.2 29 (by decide)
          have g184 : -2147483648 ≤ (H73.1 1826 3) ∧ (H73.1 1826 3) ≤ 2147483647 := hrg74.1 1826 13 3 _ .int rfl rfl
          have e185 : (H73.1 1826 3) = (H.1 1826 3) := hx73f.2.2 3 (by decide)
          have g186 : -2147483648 ≤ (H73.1 1826 8) ∧ (H73.1 1826 8) ≤ 2147483647 := hrg74.1 1826 13 8 _ .int rfl rfl
          have e187 : (H73.1 1826 8) = (H.1 1826 8) := hx73f.2.2 8 (by decide)
          have g188 : -2147483648 ≤ (H73.1 1826 13) ∧ (H73.1 1826 13) ≤ 2147483647 := hrg74.1 1826 13 13 _ .int rfl rfl
          have e189 : (H73.1 1826 13) = (H.1 1826 13) := hx73f.2.2 13 (by decide)
          have g190 : -2147483648 ≤ (H73.1 1826 19) ∧ (H73.1 1826 19) ≤ 2147483647 := hrg74.1 1826 13 19 _ .int rfl rfl
          have e191 : (H73.1 1826 19) = (H.1 1826 19) := hx73f.2.2 19 (by decide)
          exact ⟨rfl, (Or.inr ⟨(by omega : (5 : Int) ≠ 0), (BD_mk hR1 (fr_o (fr_o (fr_rf [35, 36] [] H73) (by decide)) (by decide)) (by decide) (by decide) (by decide : (5 : Int) ≠ 0) rfl rfl (rch_st hq (by show stDec Y nn K X = _; unfold stDec miss; (repeat (first | rw [if_pos (by omega)] | rw [if_neg (by omega)])); try (first | rfl | (exfalso; omega)))))⟩), (fr_o (fr_o hf75 (by decide)) (by decide)), (by omega : (H.1 1826 30) ≤ (H73.1 1826 30) ∧ (H73.1 1826 30) ≤ (H.1 1826 29)), (by omega : 0 ≤ (5 : Int) ∧ (5 : Int) ≤ 5), (by omega : (H.1 1826 35) ≠ 0 → (5 : Int) ≠ 0), (by omega : 0 ≤ (H73.1 1826 32) ∧ (H73.1 1826 32) ≤ 1000), (agp_o (agp_o ha76 (by decide)) (by decide)), (fun (q : (5 : Int) = 0) => absurd q (by omega))⟩
    · refine h_run 2 (pc' := 21) (l' := [(0, .inr (.inr 1826))]) (st' := [.inl 2, .inr (.inr 1826)]) rfl ?_
      refine h_cv (i := 278) (j := 159) (b := 1826) (M' := mt_159) (xs := [.inl 2]) (rest := []) rfl rfl rfl rfl rfl rfl (Nat.le_of_ble_eq_true rfl) (Nat.le_of_ble_eq_true rfl) (by omega) (m_bad0 (by omega) (by omega) (by omega : (H73.1 1826 35) = 0)) ?_
      rintro _ _ ⟨rfl, rfl⟩
      refine h_run 0 (pc' := 24) (l' := [(0, .inr (.inr 1826))]) (st' := []) rfl ?_
      refine h_run 1 (pc' := 25) (l' := [(0, .inr (.inr 1826))]) (st' := [.inr (.inr 1826)]) rfl ?_
      refine h_cv (i := 293) (j := 158) (b := 1826) (M' := mt_158) (xs := []) (rest := []) rfl rfl rfl rfl rfl rfl (Nat.le_of_ble_eq_true rfl) (Nat.le_of_ble_eq_true rfl) (by omega) (m_good0 (by omega) (by omega : (2 : Int) ≠ 0)) ?_
      rintro _ _ ⟨rfl, rfl⟩
      refine h_run 0 (pc' := 28) (l' := [(0, .inr (.inr 1826))]) (st' := [.inl 0]) rfl ?_
      refine h_zeq (off := 27) (t := 55) rfl rfl (by decide) (fun _ => ?_) (fun c => absurd c (by decide))
      refine h_run 1 (pc' := 56) (l' := [(0, .inr (.inr 1826))]) (st' := [.inr (.inr 1826)]) rfl ?_
      refine h_cv (i := 293) (j := 158) (b := 1826) (M' := mt_158) (xs := []) (rest := []) rfl rfl rfl rfl rfl rfl (Nat.le_of_ble_eq_true rfl) (Nat.le_of_ble_eq_true rfl) (by omega) (m_good0 (by omega) (by omega : (2 : Int) ≠ 0)) ?_
      rintro _ _ ⟨rfl, rfl⟩
      refine h_run 0 (pc' := 59) (l' := [(0, .inr (.inr 1826))]) (st' := [.inl 0]) rfl ?_
      refine h_zeq (off := 17) (t := 76) rfl rfl (by decide) (fun _ => ?_) (fun c => absurd c (by decide))
      refine h_run 1 (pc' := 77) (l' := [(0, .inr (.inr 1826))]) (st' := [.inr (.inr 1826)]) rfl ?_
      refine h_cv (i := 293) (j := 158) (b := 1826) (M' := mt_158) (xs := []) (rest := []) rfl rfl rfl rfl rfl rfl (Nat.le_of_ble_eq_true rfl) (Nat.le_of_ble_eq_true rfl) (by omega) (m_good0 (by omega) (by omega : (2 : Int) ≠ 0)) ?_
      rintro _ _ ⟨rfl, rfl⟩
      refine h_run 0 (pc' := 80) (l' := [(0, .inr (.inr 1826))]) (st' := [.inl 0]) rfl ?_
      refine h_zne (off := 4) (t := 84) rfl rfl (by decide) (fun c => absurd c (by decide)) (fun _ => ?_)
      refine h_ret rfl rfl ?_
      have g192 : -2147483648 ≤ (H73.1 1826 30) ∧ (H73.1 1826 30) ≤ 2147483647 := hrg74.1 1826 13 30 _ .int rfl rfl
      have g193 : -2147483648 ≤ (H73.1 1826 32) ∧ (H73.1 1826 32) ≤ 2147483647 := hrg74.1 1826 13 32 _ .int rfl rfl
      have g194 : -2147483648 ≤ (H73.1 1826 29) ∧ (H73.1 1826 29) ≤ 2147483647 := hrg74.1 1826 13 29 _ .int rfl rfl
      have e195 : (H73.1 1826 29) = (H.1 1826 29) := hx73f.2.2 29 (by decide)
      have g196 : -2147483648 ≤ (H73.1 1826 1) ∧ (H73.1 1826 1) ≤ 2147483647 := hrg74.1 1826 13 1 _ .int rfl rfl
      have e197 : (H73.1 1826 1) = (H.1 1826 1) := hx73f.2.2 1 (by decide)
      have g198 : -2147483648 ≤ (H73.1 1826 3) ∧ (H73.1 1826 3) ≤ 2147483647 := hrg74.1 1826 13 3 _ .int rfl rfl
      have e199 : (H73.1 1826 3) = (H.1 1826 3) := hx73f.2.2 3 (by decide)
      have g200 : -2147483648 ≤ (H73.1 1826 8) ∧ (H73.1 1826 8) ≤ 2147483647 := hrg74.1 1826 13 8 _ .int rfl rfl
      have e201 : (H73.1 1826 8) = (H.1 1826 8) := hx73f.2.2 8 (by decide)
      have g202 : -2147483648 ≤ (H73.1 1826 13) ∧ (H73.1 1826 13) ≤ 2147483647 := hrg74.1 1826 13 13 _ .int rfl rfl
      have e203 : (H73.1 1826 13) = (H.1 1826 13) := hx73f.2.2 13 (by decide)
      have g204 : -2147483648 ≤ (H73.1 1826 19) ∧ (H73.1 1826 19) ≤ 2147483647 := hrg74.1 1826 13 19 _ .int rfl rfl
      have e205 : (H73.1 1826 19) = (H.1 1826 19) := hx73f.2.2 19 (by decide)
      exact ⟨rfl, (Or.inr ⟨(by omega : (2 : Int) ≠ 0), (BD_mk hR1 (fr_o (fr_o (fr_rf [35, 36] [] H73) (by decide)) (by decide)) (by decide) (by decide) (by decide : (2 : Int) ≠ 0) rfl rfl (rch_st hq (by show stDec Y nn K X = _; unfold stDec miss; (repeat (first | rw [if_pos (by omega)] | rw [if_neg (by omega)])); try (first | rfl | (exfalso; omega)))))⟩), (fr_o (fr_o hf75 (by decide)) (by decide)), (by omega : (H.1 1826 30) ≤ (H73.1 1826 30) ∧ (H73.1 1826 30) ≤ (H.1 1826 29)), (by omega : 0 ≤ (2 : Int) ∧ (2 : Int) ≤ 5), (by omega : (H.1 1826 35) ≠ 0 → (2 : Int) ≠ 0), (by omega : 0 ≤ (H73.1 1826 32) ∧ (H73.1 1826 32) ≤ 1000), (agp_o (agp_o ha76 (by decide)) (by decide)), (fun (q : (2 : Int) = 0) => absurd q (by omega))⟩
  · have b78x : (H73.1 1826 35) ≠ 0 := b78
    clear hx73g
    refine h_run 0 (pc' := 8) (l' := [(0, .inr (.inr 1826))]) (st' := [.inl 0]) rfl ?_
    refine h_zeq (off := 16) (t := 24) rfl rfl (by decide) (fun _ => ?_) (fun c => absurd c (by decide))
    refine h_run 1 (pc' := 25) (l' := [(0, .inr (.inr 1826))]) (st' := [.inr (.inr 1826)]) rfl ?_
    refine h_cv (i := 293) (j := 158) (b := 1826) (M' := mt_158) (xs := []) (rest := []) rfl rfl rfl rfl rfl rfl (Nat.le_of_ble_eq_true rfl) (Nat.le_of_ble_eq_true rfl) (by omega) (m_good0 (by omega) (by omega : (H73.1 1826 35) ≠ 0)) ?_
    rintro _ _ ⟨rfl, rfl⟩
    refine h_run 0 (pc' := 28) (l' := [(0, .inr (.inr 1826))]) (st' := [.inl 0]) rfl ?_
    refine h_zeq (off := 27) (t := 55) rfl rfl (by decide) (fun _ => ?_) (fun c => absurd c (by decide))
    refine h_run 1 (pc' := 56) (l' := [(0, .inr (.inr 1826))]) (st' := [.inr (.inr 1826)]) rfl ?_
    refine h_cv (i := 293) (j := 158) (b := 1826) (M' := mt_158) (xs := []) (rest := []) rfl rfl rfl rfl rfl rfl (Nat.le_of_ble_eq_true rfl) (Nat.le_of_ble_eq_true rfl) (by omega) (m_good0 (by omega) (by omega : (H73.1 1826 35) ≠ 0)) ?_
    rintro _ _ ⟨rfl, rfl⟩
    refine h_run 0 (pc' := 59) (l' := [(0, .inr (.inr 1826))]) (st' := [.inl 0]) rfl ?_
    refine h_zeq (off := 17) (t := 76) rfl rfl (by decide) (fun _ => ?_) (fun c => absurd c (by decide))
    refine h_run 1 (pc' := 77) (l' := [(0, .inr (.inr 1826))]) (st' := [.inr (.inr 1826)]) rfl ?_
    refine h_cv (i := 293) (j := 158) (b := 1826) (M' := mt_158) (xs := []) (rest := []) rfl rfl rfl rfl rfl rfl (Nat.le_of_ble_eq_true rfl) (Nat.le_of_ble_eq_true rfl) (by omega) (m_good0 (by omega) (by omega : (H73.1 1826 35) ≠ 0)) ?_
    rintro _ _ ⟨rfl, rfl⟩
    refine h_run 0 (pc' := 80) (l' := [(0, .inr (.inr 1826))]) (st' := [.inl 0]) rfl ?_
    refine h_zne (off := 4) (t := 84) rfl rfl (by decide) (fun c => absurd c (by decide)) (fun _ => ?_)
    refine h_ret rfl rfl ?_
    have g206 : -2147483648 ≤ (H73.1 1826 30) ∧ (H73.1 1826 30) ≤ 2147483647 := hrg74.1 1826 13 30 _ .int rfl rfl
    have g207 : -2147483648 ≤ (H73.1 1826 32) ∧ (H73.1 1826 32) ≤ 2147483647 := hrg74.1 1826 13 32 _ .int rfl rfl
    have g208 : -2147483648 ≤ (H73.1 1826 29) ∧ (H73.1 1826 29) ≤ 2147483647 := hrg74.1 1826 13 29 _ .int rfl rfl
    have e209 : (H73.1 1826 29) = (H.1 1826 29) := hx73f.2.2 29 (by decide)
    have g210 : -2147483648 ≤ (H73.1 1826 1) ∧ (H73.1 1826 1) ≤ 2147483647 := hrg74.1 1826 13 1 _ .int rfl rfl
    have e211 : (H73.1 1826 1) = (H.1 1826 1) := hx73f.2.2 1 (by decide)
    have g212 : -2147483648 ≤ (H73.1 1826 3) ∧ (H73.1 1826 3) ≤ 2147483647 := hrg74.1 1826 13 3 _ .int rfl rfl
    have e213 : (H73.1 1826 3) = (H.1 1826 3) := hx73f.2.2 3 (by decide)
    have g214 : -2147483648 ≤ (H73.1 1826 8) ∧ (H73.1 1826 8) ≤ 2147483647 := hrg74.1 1826 13 8 _ .int rfl rfl
    have e215 : (H73.1 1826 8) = (H.1 1826 8) := hx73f.2.2 8 (by decide)
    have g216 : -2147483648 ≤ (H73.1 1826 13) ∧ (H73.1 1826 13) ≤ 2147483647 := hrg74.1 1826 13 13 _ .int rfl rfl
    have e217 : (H73.1 1826 13) = (H.1 1826 13) := hx73f.2.2 13 (by decide)
    have g218 : -2147483648 ≤ (H73.1 1826 19) ∧ (H73.1 1826 19) ≤ 2147483647 := hrg74.1 1826 13 19 _ .int rfl rfl
    have e219 : (H73.1 1826 19) = (H.1 1826 19) := hx73f.2.2 19 (by decide)
    exact ⟨rfl, (Or.inr ⟨(by omega : (H73.1 1826 35) ≠ 0), GB_b hx73n (by omega)⟩), hf75, (by omega : (H.1 1826 30) ≤ (H73.1 1826 30) ∧ (H73.1 1826 30) ≤ (H.1 1826 29)), (by omega : 0 ≤ (H73.1 1826 35) ∧ (H73.1 1826 35) ≤ 5), (by omega : (H.1 1826 35) ≠ 0 → (H73.1 1826 35) ≠ 0), (by omega : 0 ≤ (H73.1 1826 32) ∧ (H73.1 1826 32) ≤ 1000), ha76, (fun (q : (H73.1 1826 35) = 0) => absurd q (by omega))⟩

/-! function -/
set_option maxRecDepth 100000 in
theorem n_function_cut {zC : Nat → Option zsh} {d : Nat} (hd : 5 ≤ d) {H : hp}  {Y : yx} {m : Int} {c0 : cf} {K : List tq} {X : rx} {nn : Int} (h0 : 0 ≤ (H.1 1826 30) ∧ (H.1 1826 30) ≤ (H.1 1826 29) ∧ (H.1 1826 29) ≤ 1000) (hw : 0 ≤ (H.1 1826 35) ∧ (H.1 1826 35) ≤ 5) (hst : 0 ≤ (H.1 1826 32) ∧ (H.1 1826 32) ≤ 1000) (hP : PWc H) (hw0 : (H.1 1826 35) = 0) (hR : RK Y m H X) (hmf : (H.1 1826 8) = m) (hq : rch Y c0 ((6, nn, 0, 0) :: K, X)) (htk : tk Y (xi X) = 5) : ∀ w : Nat, (∀ (H1 : hp) (c : Nat) (t : Int), (fr [30, 31, 32, 33, 35, 36, 8] [1832, 1833, 1834, 1835] H H1) → ((H.1 1826 30) ≤ (H1.1 1826 30) ∧ (H1.1 1826 30) ≤ (H.1 1826 29)) → (0 ≤ (H1.1 1826 35) ∧ (H1.1 1826 35) ≤ 5) → (0 ≤ (H1.1 1826 32) ∧ (H1.1 1826 32) ≤ 1000) → (agp H H1) → ((c : Int) = (H.1 1826 8) ∧ (H.1 1826 8) ≤ 15) → ((H1.1 1826 8) = (H.1 1826 8) + 1) → (-1 ≤ t ∧ t ≤ 6) → ((H1.1 1826 35) = 0 → 0 ≤ t ∧ t < (H1.1 1826 1)) → ((H1.1 1826 35) = 0 → (0 ≤ (H1.1 1833) c ∧ (H1.1 1833) c ≤ 4) ∧ ∀ i : Nat, (i : Int) < (H1.1 1833) c → 0 ≤ (H1.1 1834) (4 * c + i) ∧ (H1.1 1834) (4 * c + i) < (H1.1 1826 1)) → (FL Y m c0 ((1, 59, 0, 0) :: (6, nn + 1, 0, 0) :: K) c t H1) → mu (H1.1 1826 35) (H1.1 1826 31) (H1.1 1826 30) (H.1 1826 29) < w → hG (zs zC) d mt_173 142 [(0, .inr (.inr 1826)), (1, .inl (c : Int)), (2, .inl t)] [] H1 (fun r H2 => r = none ∧ GB Y m c0 H2 (∃ X2 : rx, rch Y c0 (((1, 59, 0, 0) :: (6, nn + 1, 0, 0) :: K), X2) ∧ RK Y (m + 1) H2 X2 ∧ (H2.1 1826 8) = m + 1) ∧ fr [30, 31, 32, 33, 35, 36, 8] [1832, 1833, 1834, 1835] H H2 ∧ ((H.1 1826 30) ≤ (H2.1 1826 30) ∧ (H2.1 1826 30) ≤ (H.1 1826 29)) ∧ (0 ≤ (H2.1 1826 35) ∧ (H2.1 1826 35) ≤ 5) ∧ ((H.1 1826 35) ≠ 0 → (H2.1 1826 35) ≠ 0) ∧ (0 ≤ (H2.1 1826 32) ∧ (H2.1 1826 32) ≤ 1000) ∧ agp H H2 ∧ ((H2.1 1826 35) = 0 → PWc H2))) := by
  intro w
  induction w with
  | zero => exact fun _ _ _ _ _ _ _ _ _ _ _ _ _ _ h => absurd h (Nat.not_lt_zero _)
  | succ w ih =>
    intro H1 c t hf ha hk hst1 hag hc hcn ht htg hfa hFL hw
    refine h_rng (fun hrg1 => ?_)
    obtain ⟨⟨pb1, pb2, pb3, pb4, pb5⟩, pw1, pw2, pw3, pw4⟩ := (id hP : PW H (H.1 1826 1) (H.1 1826 3) (H.1 1826 8) (H.1 1826 13) (H.1 1826 19))
    refine h_run 1 (pc' := 143) (l' := [(0, .inr (.inr 1826)), (1, .inl (c : Int)), (2, .inl t)]) (st' := [.inr (.inr 1826)]) rfl ?_
    have g2 : -2147483648 ≤ (H1.1 1826 35) ∧ (H1.1 1826 35) ≤ 2147483647 := hrg1.1 1826 13 35 _ .int rfl rfl
    refine h_cv (i := 293) (j := 158) (b := 1826) (M' := mt_158) (xs := []) (rest := []) rfl rfl rfl rfl rfl rfl (Nat.le_of_ble_eq_true rfl) (Nat.le_of_ble_eq_true rfl) (by omega) (m_good (by omega)) ?_
    rintro _ _ ⟨⟨rfl, b3⟩ | ⟨rfl, b3⟩, rfl⟩
    · have b3x : (H1.1 1826 35) = 0 := b3
      refine h_run 0 (pc' := 146) (l' := [(0, .inr (.inr 1826)), (1, .inl (c : Int)), (2, .inl t)]) (st' := [.inl 1]) rfl ?_
      refine h_zeq (off := 77) (t := 223) rfl rfl (by decide) (fun c => absurd c (by decide)) (fun _ => ?_)
      refine h_run 2 (pc' := 153) (l' := [(0, .inr (.inr 1826)), (1, .inl (c : Int)), (2, .inl t)]) (st' := [.inl (H1.1 1826 31)]) rfl ?_
      have g4 : -2147483648 ≤ (H1.1 1826 31) ∧ (H1.1 1826 31) ≤ 2147483647 := hrg1.1 1826 13 31 _ .int rfl rfl
      refine h_run 1 (pc' := 155) (l' := [(0, .inr (.inr 1826)), (1, .inl (c : Int)), (2, .inl t)]) (st' := [.inl 62, .inl (H1.1 1826 31)]) rfl ?_
      refine h_ine (off := 68) (t := 223) rfl rfl (by omega) (by decide) (fun c5 => ?_) (fun c5 => ?_)
      · refine h_run 4 (pc' := 229) (l' := [(0, .inr (.inr 1826)), (1, .inl (c : Int)), (2, .inl t)]) (st' := [.inl t, .inl (c : Int), .inr (.inr 1835)]) rfl ?_
        refine h_ist (c := 1835) (j := c) (i := (c : Int)) (x := t) rfl rfl (by decide) (by decide) rfl (by omega) (by omega) ?_
        refine h_ret rfl rfl ?_
        have g6 : -2147483648 ≤ (H1.1 1826 30) ∧ (H1.1 1826 30) ≤ 2147483647 := hrg1.1 1826 13 30 _ .int rfl rfl
        have g7 : -2147483648 ≤ (H1.1 1826 32) ∧ (H1.1 1826 32) ≤ 2147483647 := hrg1.1 1826 13 32 _ .int rfl rfl
        have g8 : -2147483648 ≤ (H1.1 1826 29) ∧ (H1.1 1826 29) ≤ 2147483647 := hrg1.1 1826 13 29 _ .int rfl rfl
        have e9 : (H1.1 1826 29) = (H.1 1826 29) := hf.2.2 29 (by decide)
        have g10 : -2147483648 ≤ (H1.1 1826 1) ∧ (H1.1 1826 1) ≤ 2147483647 := hrg1.1 1826 13 1 _ .int rfl rfl
        have e11 : (H1.1 1826 1) = (H.1 1826 1) := hf.2.2 1 (by decide)
        have g12 : -2147483648 ≤ (H1.1 1826 3) ∧ (H1.1 1826 3) ≤ 2147483647 := hrg1.1 1826 13 3 _ .int rfl rfl
        have e13 : (H1.1 1826 3) = (H.1 1826 3) := hf.2.2 3 (by decide)
        have g14 : -2147483648 ≤ (H1.1 1826 8) ∧ (H1.1 1826 8) ≤ 2147483647 := hrg1.1 1826 13 8 _ .int rfl rfl
        have g15 : -2147483648 ≤ (H1.1 1826 13) ∧ (H1.1 1826 13) ≤ 2147483647 := hrg1.1 1826 13 13 _ .int rfl rfl
        have e16 : (H1.1 1826 13) = (H.1 1826 13) := hf.2.2 13 (by decide)
        have g17 : -2147483648 ≤ (H1.1 1826 19) ∧ (H1.1 1826 19) ≤ 2147483647 := hrg1.1 1826 13 19 _ .int rfl rfl
        have e18 : (H1.1 1826 19) = (H.1 1826 19) := hf.2.2 19 (by decide)
        exact ⟨rfl, ((GB_g hFL (by omega)).elim (fun X1 g => Or.inl ⟨(by omega : (H1.1 1826 35) = 0), X1, rch_st g.1 (by have htk1 := RK_t g.2.1; show (if tk Y (xi X1) = 62 then (if X1 8 c = 4 then fl Y X1 5 else ((10, (c : Int), 0, 0) :: (11, (c : Int), X1 8 c + 1, 0) :: ((1, 59, 0, 0) :: (6, nn + 1, 0, 0) :: K), xfar X1 c)) else (((1, 59, 0, 0) :: (6, nn + 1, 0, 0) :: K), X1)) = _; (repeat (first | rw [if_pos (by omega)] | rw [if_neg (by omega)])); try (first | rfl | (exfalso; omega))), RK_ft g.2.1 (by omega) g.2.2, (by omega : (H1.1 1826 8) = m + 1)⟩)), (fr_a hf (by decide)), (by omega : (H.1 1826 30) ≤ (H1.1 1826 30) ∧ (H1.1 1826 30) ≤ (H.1 1826 29)), (by omega : 0 ≤ (H1.1 1826 35) ∧ (H1.1 1826 35) ≤ 5), (by omega : (H.1 1826 35) ≠ 0 → (H1.1 1826 35) ≠ 0), (by omega : 0 ≤ (H1.1 1826 32) ∧ (H1.1 1826 32) ≤ 1000), (agp_1835 hag (by omega : (H.1 1826 8) ≤ ((c : Nat) : Int))), (fun (q : (H1.1 1826 35) = 0) => PW_more hP (agp_1835 hag (by omega : (H.1 1826 8) ≤ ((c : Nat) : Int))) ⟨(by omega : (H1.1 1826 1) ≤ 6), (by omega : (H1.1 1826 3) ≤ 16), (by omega : (H1.1 1826 8) ≤ 16)⟩ (m_con_agp pw1 (agp_1835 hag (by omega : (H.1 1826 8) ≤ ((c : Nat) : Int))) (by omega : (H1.1 1826 3) = (H.1 1826 3))) (by show m_fun (H1.1 1826 1) (H1.1 1826 8) (H1.1 1833) (H1.1 1834) (up (H1.1 1835) c t); rw [show (H1.1 1826 8) = (H.1 1826 8) + 1 from hcn]; exact m_fun_fin pw2 hag.2.2.1 hag.1.1 (by omega) (hfa q).1 (hfa q).2 (htg q)) (by omega : (H1.1 1826 13) = (H.1 1826 13)) (by omega : (H1.1 1826 19) = (H.1 1826 19)))⟩
      · obtain ⟨hc1, hc3⟩ := hfa (by omega)
        obtain ⟨X1, hq1, hR1, h71⟩ := GB_g hFL (by omega)
        have htk1 := RK_t hR1
        have hy5 := hR1.2.2.2.2.2.2.1.1
        have hca : (H1.1 1833) c = X1 8 c := (hR1.2.2.2.2.2.2.1.2 c (by omega)).2.1
        have hfl : ∀ k : Nat, (k : Int) < (H1.1 1826 8) → 0 ≤ (H1.1 1833) k ∧ (H1.1 1833) k ≤ 4 := fun k hk => if e9 : k = c then (by rw [e9]; exact hc1) else (by rw [(hag.2.2.1 k (by omega)).1]; exact (pw2 k (by omega)).1)
        refine h_run 3 (pc' := 163) (l' := [(0, .inr (.inr 1826)), (1, .inl (c : Int)), (2, .inl t)]) (st' := [.inl (c : Int), .inr (.inr 1833)]) rfl ?_
        refine h_ild (c := 1833) (j := c) (i := (c : Int)) rfl rfl (by decide) rfl (by omega) ?_
        have g19 : -2147483648 ≤ (H1.1 1833 c) ∧ (H1.1 1833 c) ≤ 2147483647 := hrg1.2 1833 c 16 .int rfl (by omega)
        refine h_run 0 (pc' := 164) (l' := [(0, .inr (.inr 1826)), (1, .inl (c : Int)), (2, .inl t)]) (st' := [.inl (H1.1 1833 c)]) rfl ?_
        refine h_run 1 (pc' := 165) (l' := [(0, .inr (.inr 1826)), (1, .inl (c : Int)), (2, .inl t)]) (st' := [.inl 4, .inl (H1.1 1833 c)]) rfl ?_
        refine h_ine (off := 9) (t := 174) rfl rfl (by omega) (by decide) (fun c20 => ?_) (fun c20 => ?_)
        · refine h_run 8 (pc' := 186) (l' := [(0, .inr (.inr 1826)), (1, .inl (c : Int)), (2, .inl t)]) (st' := [.inl (c : Int), .inr (.inr 1833), .inl (4 * (c : Int)), .inr (.inr 1834)]) rfl ?_
          refine h_ild (c := 1833) (j := c) (i := (c : Int)) rfl rfl (by decide) rfl (by omega) ?_
          refine h_run 0 (pc' := 187) (l' := [(0, .inr (.inr 1826)), (1, .inl (c : Int)), (2, .inl t)]) (st' := [.inl (H1.1 1833 c), .inl (4 * (c : Int)), .inr (.inr 1834)]) rfl ?_
          refine h_run 2 (pc' := 189) (l' := [(0, .inr (.inr 1826)), (1, .inl (c : Int)), (2, .inl t)]) (st' := [.inl t, .inl ((4 * (c : Int)) + (H1.1 1833 c)), .inr (.inr 1834)]) rfl ?_
          refine h_ist (c := 1834) (j := (((4 * (c : Int)) + (H1.1 1833 c))).toNat) (i := ((4 * (c : Int)) + (H1.1 1833 c))) (x := t) rfl rfl (by decide) (by decide) (by omega) (by omega) (by omega) ?_
          refine h_run 4 (pc' := 196) (l' := [(0, .inr (.inr 1826)), (1, .inl (c : Int)), (2, .inl t)]) (st' := [.inl (c : Int), .inr (.inr 1833), .inl (c : Int), .inr (.inr 1833)]) rfl ?_
          refine h_ild (c := 1833) (j := c) (i := (c : Int)) rfl rfl (by decide) rfl (by omega) ?_
          refine h_run 0 (pc' := 197) (l' := [(0, .inr (.inr 1826)), (1, .inl (c : Int)), (2, .inl t)]) (st' := [.inl (H1.1 1833 c), .inl (c : Int), .inr (.inr 1833)]) rfl ?_
          refine h_run 2 (pc' := 199) (l' := [(0, .inr (.inr 1826)), (1, .inl (c : Int)), (2, .inl t)]) (st' := [.inl ((H1.1 1833 c) + 1), .inl (c : Int), .inr (.inr 1833)]) rfl ?_
          refine h_ist (c := 1833) (j := c) (i := (c : Int)) (x := ((H1.1 1833 c) + 1)) rfl rfl (by decide) (by decide) rfl (by omega) (by omega) ?_
          have hq6 : rch Y c0 ((10, (c : Int), 0, 0) :: (11, (c : Int), X1 8 c + 1, 0) :: ((1, 59, 0, 0) :: (6, nn + 1, 0, 0) :: K), xfar X1 c) := (rch_st hq1 (by show (if tk Y (xi X1) = 62 then (if X1 8 c = 4 then fl Y X1 5 else ((10, (c : Int), 0, 0) :: (11, (c : Int), X1 8 c + 1, 0) :: ((1, 59, 0, 0) :: (6, nn + 1, 0, 0) :: K), xfar X1 c)) else (((1, 59, 0, 0) :: (6, nn + 1, 0, 0) :: K), X1)) = _; (try unfold miss); (repeat (first | rw [if_pos (by omega)] | rw [if_neg (by omega)])); try (first | rfl | (exfalso; omega))))
          refine h_run 1 (pc' := 201) (l' := [(0, .inr (.inr 1826)), (1, .inl (c : Int)), (2, .inl t)]) (st' := [.inr (.inr 1826)]) rfl ?_
          have g21 : -2147483648 ≤ (H1.1 1826 30) ∧ (H1.1 1826 30) ≤ 2147483647 := hrg1.1 1826 13 30 _ .int rfl rfl
          have g22 : -2147483648 ≤ (H1.1 1826 29) ∧ (H1.1 1826 29) ≤ 2147483647 := hrg1.1 1826 13 29 _ .int rfl rfl
          have e23 : (H1.1 1826 29) = (H.1 1826 29) := hf.2.2 29 (by decide)
          have g24 : -2147483648 ≤ (H1.1 1826 32) ∧ (H1.1 1826 32) ≤ 2147483647 := hrg1.1 1826 13 32 _ .int rfl rfl
          refine h_cv (i := 297) (j := 165) (b := 1826) (M' := mt_165) (xs := []) (rest := []) rfl rfl rfl rfl rfl rfl (Nat.le_of_ble_eq_true rfl) (Nat.le_of_ble_eq_true rfl) (by omega) (n_nx (by omega) (by omega : 0 ≤ (H1.1 1826 30) ∧ (H1.1 1826 30) ≤ (H1.1 1826 29) ∧ (H1.1 1826 29) ≤ 1000) (by omega : 0 ≤ (H1.1 1826 35) ∧ (H1.1 1826 35) ≤ 5) (by omega : 0 ≤ (H1.1 1826 32) ∧ (H1.1 1826 32) ≤ 1000) (by omega : (H1.1 1826 35) = 0) (X := (xfar X1 c)) (RN_mk hR1 (fr_a (fr_a (fr_rf [] [1833, 1834] H1) (by decide)) (by decide)) (by decide) (by decide) (xfar_s _ _).1 (TA_far (c := c) (j := (((4 * (c : Int)) + (H1.1 1833 c))).toNat) hR1.2.2.2.2 (fr_a (fr_a (fr_rf [] [1833, 1834] H1) (by decide)) (by decide)) (by decide) (by decide) (by omega) hfl (by omega) (by omega) h71 rfl rfl)) hq6 (lk_n (by decide))) ?_
          rintro _ H25 ⟨rfl, hx25n, hx25f, hx25a, hx25b, hx25c, -, hx25e, hx25g⟩
          refine h_rng (fun hrg26 => ?_)
          have hf27 : fr [30, 31, 32, 33, 35, 36, 8] [1832, 1833, 1834, 1835] H H25 := fr_t (fr_a (fr_a hf (by decide)) (by decide)) hx25f (by decide) (by decide)
          have ha28 : agp H H25 := agp_tr (agp_1833 (agp_1834 hag (by omega : 4 * (H.1 1826 8) ≤ (((((4 * (c : Int)) + (H1.1 1833 c))).toNat : Nat) : Int))) (by omega : (H.1 1826 8) ≤ ((c : Nat) : Int))) (agp_fr hx25f (by decide) (by decide))
          replace hx25a : (H1.1 1826 30) ≤ (H25.1 1826 30) := hx25a
          replace hx25b : (H25.1 1826 30) ≤ (H1.1 1826 29) := hx25b
          replace hx25g : (H25.1 1826 35) = 0 → ((H25.1 1826 31) = 0 ∨ (H1.1 1826 30) < (H25.1 1826 30)) := hx25g
          refine h_run 0 (pc' := 204) (l' := [(0, .inr (.inr 1826)), (1, .inl (c : Int)), (2, .inl t)]) (st' := []) rfl ?_
          refine h_run 1 (pc' := 205) (l' := [(0, .inr (.inr 1826)), (1, .inl (c : Int)), (2, .inl t)]) (st' := [.inr (.inr 1826)]) rfl ?_
          have g29 : -2147483648 ≤ (H25.1 1826 35) ∧ (H25.1 1826 35) ≤ 2147483647 := hrg26.1 1826 13 35 _ .int rfl rfl
          by_cases b30 : (H25.1 1826 35) = 0
          · have g31 : -2147483648 ≤ (H25.1 1826 1) ∧ (H25.1 1826 1) ≤ 2147483647 := hrg26.1 1826 13 1 _ .int rfl rfl
            have e32 : (H25.1 1826 1) = (H1.1 1826 1) := hx25f.2.2 1 (by decide)
            have e33 : (H1.1 1826 1) = (H.1 1826 1) := hf.2.2 1 (by decide)
            have g34 : -2147483648 ≤ (H25.1 1826 31) ∧ (H25.1 1826 31) ≤ 2147483647 := hrg26.1 1826 13 31 _ .int rfl rfl
            have hR7 := GB_g hx25n (by omega)
            have htk7 := RK_t hR7
            have htf7 := fnd_b (xfar X1 c 1) (xfar X1 c 0 3) (tn Y (xi (xfar X1 c)))
            refine h_cv (i := 322) (j := 172) (b := 1826) (M' := mt_172) (xs := []) (rest := []) rfl rfl rfl rfl rfl rfl (Nat.le_of_ble_eq_true rfl) (Nat.le_of_ble_eq_true rfl) (by omega) (n_type (by omega) (by omega : (H25.1 1826 35) = 0) (by omega : 0 ≤ (H25.1 1826 1) ∧ (H25.1 1826 1) ≤ 6) (z := tfd Y (xfar X1 c)) (fun q9 => RK_tf hR7 (Or.inr q9))) ?_
            rintro _ _ (⟨ht35k, rfl, ht35a, ht35b, ht35c, rfl⟩ | ⟨rfl, ht35a, rfl⟩ | ⟨rfl, ht35a, ht35c, rfl⟩)
            · replace ht35a : (H25.1 1826 31) = 2 := ht35a
              replace ht35b : (ht35k : Int) < (H25.1 1826 1) := ht35b
              refine h_run 0 (pc' := 208) (l' := [(0, .inr (.inr 1826)), (1, .inl (c : Int)), (2, .inl t)]) (st' := [.inl (ht35k : Int)]) rfl ?_
              refine h_run 2 (pc' := 210) (l' := [(0, .inr (.inr 1826)), (1, .inl (c : Int)), (2, .inl (ht35k : Int))]) (st' := [.inr (.inr 1826)]) rfl ?_
              refine h_cv (i := 293) (j := 158) (b := 1826) (M' := mt_158) (xs := []) (rest := []) rfl rfl rfl rfl rfl rfl (Nat.le_of_ble_eq_true rfl) (Nat.le_of_ble_eq_true rfl) (by omega) (m_good1 (by omega) (by omega : (H25.1 1826 35) = 0)) ?_
              rintro _ _ ⟨rfl, rfl⟩
              refine h_run 0 (pc' := 213) (l' := [(0, .inr (.inr 1826)), (1, .inl (c : Int)), (2, .inl (ht35k : Int))]) (st' := [.inl 1]) rfl ?_
              refine h_zeq (off := -71) (t := 142) rfl rfl (by decide) (fun c => absurd c (by decide)) (fun _ => ?_)
              have hq8 : rch Y c0 ((11, (c : Int), X1 8 c + 1, 0) :: ((1, 59, 0, 0) :: (6, nn + 1, 0, 0) :: K), adv (xu (xfar X1 c) 7 c (tfd Y (xfar X1 c)))) := rch_st hq6 (by show (if tk Y (xi (xfar X1 c)) ≠ 3 then miss Y (xfar X1 c) else if tfd Y (xfar X1 c) < 0 then fl Y (xfar X1 c) 3 else _) = _; (repeat (first | rw [if_pos (by omega)] | rw [if_neg (by omega)])); try (first | rfl | (exfalso; omega)))
              refine h_run 1 (pc' := 217) (l' := [(0, .inr (.inr 1826)), (1, .inl (c : Int)), (2, .inl (ht35k : Int))]) (st' := [.inr (.inr 1826)]) rfl ?_
              have g36 : -2147483648 ≤ (H25.1 1826 30) ∧ (H25.1 1826 30) ≤ 2147483647 := hrg26.1 1826 13 30 _ .int rfl rfl
              have g37 : -2147483648 ≤ (H25.1 1826 29) ∧ (H25.1 1826 29) ≤ 2147483647 := hrg26.1 1826 13 29 _ .int rfl rfl
              have e38 : (H25.1 1826 29) = (H1.1 1826 29) := hx25f.2.2 29 (by decide)
              have g39 : -2147483648 ≤ (H25.1 1826 32) ∧ (H25.1 1826 32) ≤ 2147483647 := hrg26.1 1826 13 32 _ .int rfl rfl
              refine h_cv (i := 297) (j := 165) (b := 1826) (M' := mt_165) (xs := []) (rest := []) rfl rfl rfl rfl rfl rfl (Nat.le_of_ble_eq_true rfl) (Nat.le_of_ble_eq_true rfl) (by omega) (n_nx (by omega) (by omega : 0 ≤ (H25.1 1826 30) ∧ (H25.1 1826 30) ≤ (H25.1 1826 29) ∧ (H25.1 1826 29) ≤ 1000) (by omega : 0 ≤ (H25.1 1826 35) ∧ (H25.1 1826 35) ≤ 5) (by omega : 0 ≤ (H25.1 1826 32) ∧ (H25.1 1826 32) ≤ 1000) (by omega : (H25.1 1826 35) = 0) (X := (adv (xu (xfar X1 c) 7 c (tfd Y (xfar X1 c))))) (RN_mk hR7 (fr_rf [] [] _) (by decide) (by decide) adv7_0 (TA_7 hR7.2.2.2.2 (by omega))) hq8 (lk_c (lk_1 (by decide)) (by decide : (11 : Nat) ≠ 0) (fun q => absurd q (by decide : (11 : Nat) ≠ 1)))) ?_
              rintro _ H40 ⟨rfl, hx40n, hx40f, hx40a, hx40b, hx40c, -, hx40e, hx40g⟩
              refine h_rng (fun hrg41 => ?_)
              have hf42 : fr [30, 31, 32, 33, 35, 36, 8] [1832, 1833, 1834, 1835] H H40 := fr_t hf27 hx40f (by decide) (by decide)
              have ha43 : agp H H40 := agp_tr ha28 (agp_fr hx40f (by decide) (by decide))
              replace hx40a : (H25.1 1826 30) ≤ (H40.1 1826 30) := hx40a
              replace hx40b : (H40.1 1826 30) ≤ (H25.1 1826 29) := hx40b
              replace hx40g : (H40.1 1826 35) = 0 → ((H40.1 1826 31) = 0 ∨ (H25.1 1826 30) < (H40.1 1826 30)) := hx40g
              refine h_run 0 (pc' := 220) (l' := [(0, .inr (.inr 1826)), (1, .inl (c : Int)), (2, .inl (ht35k : Int))]) (st' := []) rfl ?_
              refine h_run 1 (pc' := 142) (l' := [(0, .inr (.inr 1826)), (1, .inl (c : Int)), (2, .inl (ht35k : Int))]) (st' := []) rfl ?_
              have g44 : -2147483648 ≤ (H40.1 1826 30) ∧ (H40.1 1826 30) ≤ 2147483647 := hrg41.1 1826 13 30 _ .int rfl rfl
              have g45 : -2147483648 ≤ (H40.1 1826 35) ∧ (H40.1 1826 35) ≤ 2147483647 := hrg41.1 1826 13 35 _ .int rfl rfl
              have g46 : -2147483648 ≤ (H40.1 1826 32) ∧ (H40.1 1826 32) ≤ 2147483647 := hrg41.1 1826 13 32 _ .int rfl rfl
              have g47 : -2147483648 ≤ (H40.1 1826 31) ∧ (H40.1 1826 31) ≤ 2147483647 := hrg41.1 1826 13 31 _ .int rfl rfl
              have g48 : -2147483648 ≤ (H40.1 1826 3) ∧ (H40.1 1826 3) ≤ 2147483647 := hrg41.1 1826 13 3 _ .int rfl rfl
              have e49 : (H40.1 1826 3) = (H25.1 1826 3) := hx40f.2.2 3 (by decide)
              have e50 : (H25.1 1826 3) = (H1.1 1826 3) := hx25f.2.2 3 (by decide)
              have e51 : (H1.1 1826 3) = (H.1 1826 3) := hf.2.2 3 (by decide)
              have g52 : -2147483648 ≤ (H40.1 1826 29) ∧ (H40.1 1826 29) ≤ 2147483647 := hrg41.1 1826 13 29 _ .int rfl rfl
              have e53 : (H40.1 1826 29) = (H25.1 1826 29) := hx40f.2.2 29 (by decide)
              have g54 : -2147483648 ≤ (H40.1 1826 1) ∧ (H40.1 1826 1) ≤ 2147483647 := hrg41.1 1826 13 1 _ .int rfl rfl
              have e55 : (H40.1 1826 1) = (H25.1 1826 1) := hx40f.2.2 1 (by decide)
              have g56 : -2147483648 ≤ (H40.1 1826 8) ∧ (H40.1 1826 8) ≤ 2147483647 := hrg41.1 1826 13 8 _ .int rfl rfl
              have e57 : (H40.1 1826 8) = (H25.1 1826 8) := hx40f.2.2 8 (by decide)
              have e58 : (H25.1 1826 8) = (H1.1 1826 8) := hx25f.2.2 8 (by decide)
              exact ih _ c (ht35k : Int) hf42 (by omega : (H.1 1826 30) ≤ (H40.1 1826 30) ∧ (H40.1 1826 30) ≤ (H.1 1826 29)) (by omega : 0 ≤ (H40.1 1826 35) ∧ (H40.1 1826 35) ≤ 5) (by omega : 0 ≤ (H40.1 1826 32) ∧ (H40.1 1826 32) ≤ 1000) ha43 (by omega : (c : Int) = (H.1 1826 8) ∧ (H.1 1826 8) ≤ 15) (by omega : (H40.1 1826 8) = (H.1 1826 8) + 1) (by omega : -1 ≤ (ht35k : Int) ∧ (ht35k : Int) ≤ 6) (by omega : (H40.1 1826 35) = 0 → 0 ≤ (ht35k : Int) ∧ (ht35k : Int) < (H40.1 1826 1)) (fun q => by rw [show (H40.1 1833) = up (H1.1 1833) c ((H1.1 1833) c + 1) from ((hx40f.2.1 1833 (by decide) (by decide)).trans (hx25f.2.1 1833 (by decide) (by decide))), show (H40.1 1834) = up (H1.1 1834) (((4 * (c : Int)) + (H1.1 1833 c))).toNat t from ((hx40f.2.1 1834 (by decide) (by decide)).trans (hx25f.2.1 1834 (by decide) (by decide))), show (H40.1 1826 1) = (H1.1 1826 1) from (by omega), up_eq]; exact ⟨by omega, m_garg (hfa (by omega)).2 (by omega) (by omega)⟩) (GB_i hx40n (fun q => ⟨_, (fl_q hq8 xfar_8).1, q, (fl_q hq8 xfar_8).2.trans (by omega)⟩)) (mu_lt hw (by omega) (by omega : (H40.1 1826 35) ≠ 0 ∨ ((H1.1 1826 30) ≤ (H40.1 1826 30) ∧ (H40.1 1826 30) ≤ (H.1 1826 29) ∧ (((H40.1 1826 31) = 0 ∧ (H1.1 1826 31) ≠ 0) ∨ (H1.1 1826 30) < (H40.1 1826 30)))))
            · replace ht35a : (H25.1 1826 31) ≠ 2 := ht35a
              refine h_run 0 (pc' := 208) (l' := [(0, .inr (.inr 1826)), (1, .inl (c : Int)), (2, .inl t)]) (st' := [.inl (-1)]) rfl ?_
              refine h_run 2 (pc' := 210) (l' := [(0, .inr (.inr 1826)), (1, .inl (c : Int)), (2, .inl (-1))]) (st' := [.inr (.inr 1826)]) rfl ?_
              refine h_cv (i := 293) (j := 158) (b := 1826) (M' := mt_158) (xs := []) (rest := []) rfl rfl rfl rfl rfl rfl (Nat.le_of_ble_eq_true rfl) (Nat.le_of_ble_eq_true rfl) (by omega) (m_good0 (by omega) (by omega : (2 : Int) ≠ 0)) ?_
              rintro _ _ ⟨rfl, rfl⟩
              refine h_run 0 (pc' := 213) (l' := [(0, .inr (.inr 1826)), (1, .inl (c : Int)), (2, .inl (-1))]) (st' := [.inl 0]) rfl ?_
              refine h_zeq (off := -71) (t := 142) rfl rfl (by decide) (fun _ => ?_) (fun c => absurd c (by decide))
              have g59 : -2147483648 ≤ (H25.1 1826 30) ∧ (H25.1 1826 30) ≤ 2147483647 := hrg26.1 1826 13 30 _ .int rfl rfl
              have g60 : -2147483648 ≤ (H25.1 1826 32) ∧ (H25.1 1826 32) ≤ 2147483647 := hrg26.1 1826 13 32 _ .int rfl rfl
              have g61 : -2147483648 ≤ (H25.1 1826 3) ∧ (H25.1 1826 3) ≤ 2147483647 := hrg26.1 1826 13 3 _ .int rfl rfl
              have e62 : (H25.1 1826 3) = (H1.1 1826 3) := hx25f.2.2 3 (by decide)
              have e63 : (H1.1 1826 3) = (H.1 1826 3) := hf.2.2 3 (by decide)
              have g64 : -2147483648 ≤ (H25.1 1826 29) ∧ (H25.1 1826 29) ≤ 2147483647 := hrg26.1 1826 13 29 _ .int rfl rfl
              have e65 : (H25.1 1826 29) = (H1.1 1826 29) := hx25f.2.2 29 (by decide)
              have g66 : -2147483648 ≤ (H25.1 1826 8) ∧ (H25.1 1826 8) ≤ 2147483647 := hrg26.1 1826 13 8 _ .int rfl rfl
              have e67 : (H25.1 1826 8) = (H1.1 1826 8) := hx25f.2.2 8 (by decide)
              exact ih _ c (-1 : Int) (fr_o (fr_o hf27 (by decide)) (by decide)) (by omega : (H.1 1826 30) ≤ (H25.1 1826 30) ∧ (H25.1 1826 30) ≤ (H.1 1826 29)) (by omega : 0 ≤ (2 : Int) ∧ (2 : Int) ≤ 5) (by omega : 0 ≤ (H25.1 1826 32) ∧ (H25.1 1826 32) ≤ 1000) (agp_o (agp_o ha28 (by decide)) (by decide)) (by omega : (c : Int) = (H.1 1826 8) ∧ (H.1 1826 8) ≤ 15) (by omega : (H25.1 1826 8) = (H.1 1826 8) + 1) (by omega : -1 ≤ (-1 : Int) ∧ (-1 : Int) ≤ 6) (by omega : (2 : Int) = 0 → 0 ≤ (-1 : Int) ∧ (-1 : Int) < (H25.1 1826 1)) (fun (q : (2 : Int) = 0) => absurd q (by omega)) (Or.inr ⟨(by omega : (2 : Int) ≠ 0), (BD_mk hR7 (fr_o (fr_o (fr_rf [35, 36] [] H25) (by decide)) (by decide)) (by decide) (by decide) (by decide : (2 : Int) ≠ 0) rfl rfl (rch_st hq6 (by show (if tk Y (xi (xfar X1 c)) ≠ 3 then miss Y (xfar X1 c) else if tfd Y (xfar X1 c) < 0 then fl Y (xfar X1 c) 3 else _) = _; (try unfold miss); (repeat (first | rw [if_pos (by omega)] | rw [if_neg (by omega)])); try (first | rfl | (exfalso; omega)))))⟩) (mu_lt hw (by omega) (by omega : (2 : Int) ≠ 0 ∨ ((H1.1 1826 30) ≤ (H25.1 1826 30) ∧ (H25.1 1826 30) ≤ (H.1 1826 29) ∧ (((H25.1 1826 31) = 0 ∧ (H1.1 1826 31) ≠ 0) ∨ (H1.1 1826 30) < (H25.1 1826 30)))))
            · replace ht35a : (H25.1 1826 31) = 2 := ht35a
              refine h_run 0 (pc' := 208) (l' := [(0, .inr (.inr 1826)), (1, .inl (c : Int)), (2, .inl t)]) (st' := [.inl (-1)]) rfl ?_
              refine h_run 2 (pc' := 210) (l' := [(0, .inr (.inr 1826)), (1, .inl (c : Int)), (2, .inl (-1))]) (st' := [.inr (.inr 1826)]) rfl ?_
              refine h_cv (i := 293) (j := 158) (b := 1826) (M' := mt_158) (xs := []) (rest := []) rfl rfl rfl rfl rfl rfl (Nat.le_of_ble_eq_true rfl) (Nat.le_of_ble_eq_true rfl) (by omega) (m_good0 (by omega) (by omega : (3 : Int) ≠ 0)) ?_
              rintro _ _ ⟨rfl, rfl⟩
              refine h_run 0 (pc' := 213) (l' := [(0, .inr (.inr 1826)), (1, .inl (c : Int)), (2, .inl (-1))]) (st' := [.inl 0]) rfl ?_
              refine h_zeq (off := -71) (t := 142) rfl rfl (by decide) (fun _ => ?_) (fun c => absurd c (by decide))
              have g68 : -2147483648 ≤ (H25.1 1826 30) ∧ (H25.1 1826 30) ≤ 2147483647 := hrg26.1 1826 13 30 _ .int rfl rfl
              have g69 : -2147483648 ≤ (H25.1 1826 32) ∧ (H25.1 1826 32) ≤ 2147483647 := hrg26.1 1826 13 32 _ .int rfl rfl
              have g70 : -2147483648 ≤ (H25.1 1826 3) ∧ (H25.1 1826 3) ≤ 2147483647 := hrg26.1 1826 13 3 _ .int rfl rfl
              have e71 : (H25.1 1826 3) = (H1.1 1826 3) := hx25f.2.2 3 (by decide)
              have e72 : (H1.1 1826 3) = (H.1 1826 3) := hf.2.2 3 (by decide)
              have g73 : -2147483648 ≤ (H25.1 1826 29) ∧ (H25.1 1826 29) ≤ 2147483647 := hrg26.1 1826 13 29 _ .int rfl rfl
              have e74 : (H25.1 1826 29) = (H1.1 1826 29) := hx25f.2.2 29 (by decide)
              have g75 : -2147483648 ≤ (H25.1 1826 8) ∧ (H25.1 1826 8) ≤ 2147483647 := hrg26.1 1826 13 8 _ .int rfl rfl
              have e76 : (H25.1 1826 8) = (H1.1 1826 8) := hx25f.2.2 8 (by decide)
              exact ih _ c (-1 : Int) (fr_o (fr_o hf27 (by decide)) (by decide)) (by omega : (H.1 1826 30) ≤ (H25.1 1826 30) ∧ (H25.1 1826 30) ≤ (H.1 1826 29)) (by omega : 0 ≤ (3 : Int) ∧ (3 : Int) ≤ 5) (by omega : 0 ≤ (H25.1 1826 32) ∧ (H25.1 1826 32) ≤ 1000) (agp_o (agp_o ha28 (by decide)) (by decide)) (by omega : (c : Int) = (H.1 1826 8) ∧ (H.1 1826 8) ≤ 15) (by omega : (H25.1 1826 8) = (H.1 1826 8) + 1) (by omega : -1 ≤ (-1 : Int) ∧ (-1 : Int) ≤ 6) (by omega : (3 : Int) = 0 → 0 ≤ (-1 : Int) ∧ (-1 : Int) < (H25.1 1826 1)) (fun (q : (3 : Int) = 0) => absurd q (by omega)) (Or.inr ⟨(by omega : (3 : Int) ≠ 0), (BD_mk hR7 (fr_o (fr_o (fr_rf [35, 36] [] H25) (by decide)) (by decide)) (by decide) (by decide) (by decide : (3 : Int) ≠ 0) rfl rfl (rch_st hq6 (by show (if tk Y (xi (xfar X1 c)) ≠ 3 then miss Y (xfar X1 c) else if tfd Y (xfar X1 c) < 0 then fl Y (xfar X1 c) 3 else _) = _; (try unfold miss); (repeat (first | rw [if_pos (by omega)] | rw [if_neg (by omega)])); try (first | rfl | (exfalso; omega)))))⟩) (mu_lt hw (by omega) (by omega : (3 : Int) ≠ 0 ∨ ((H1.1 1826 30) ≤ (H25.1 1826 30) ∧ (H25.1 1826 30) ≤ (H.1 1826 29) ∧ (((H25.1 1826 31) = 0 ∧ (H1.1 1826 31) ≠ 0) ∨ (H1.1 1826 30) < (H25.1 1826 30)))))
          · refine h_cv (i := 322) (j := 172) (b := 1826) (M' := mt_172) (xs := []) (rest := []) rfl rfl rfl rfl rfl rfl (Nat.le_of_ble_eq_true rfl) (Nat.le_of_ble_eq_true rfl) (by omega) (n_type0 (by omega) (by omega : (H25.1 1826 35) ≠ 0)) ?_
            rintro _ _ ⟨rfl, rfl⟩
            refine h_run 0 (pc' := 208) (l' := [(0, .inr (.inr 1826)), (1, .inl (c : Int)), (2, .inl t)]) (st' := [.inl (-1)]) rfl ?_
            refine h_run 2 (pc' := 210) (l' := [(0, .inr (.inr 1826)), (1, .inl (c : Int)), (2, .inl (-1))]) (st' := [.inr (.inr 1826)]) rfl ?_
            refine h_cv (i := 293) (j := 158) (b := 1826) (M' := mt_158) (xs := []) (rest := []) rfl rfl rfl rfl rfl rfl (Nat.le_of_ble_eq_true rfl) (Nat.le_of_ble_eq_true rfl) (by omega) (m_good0 (by omega) (by omega : (H25.1 1826 35) ≠ 0)) ?_
            rintro _ _ ⟨rfl, rfl⟩
            refine h_run 0 (pc' := 213) (l' := [(0, .inr (.inr 1826)), (1, .inl (c : Int)), (2, .inl (-1))]) (st' := [.inl 0]) rfl ?_
            refine h_zeq (off := -71) (t := 142) rfl rfl (by decide) (fun _ => ?_) (fun c => absurd c (by decide))
            have g77 : -2147483648 ≤ (H25.1 1826 30) ∧ (H25.1 1826 30) ≤ 2147483647 := hrg26.1 1826 13 30 _ .int rfl rfl
            have g78 : -2147483648 ≤ (H25.1 1826 32) ∧ (H25.1 1826 32) ≤ 2147483647 := hrg26.1 1826 13 32 _ .int rfl rfl
            have g79 : -2147483648 ≤ (H25.1 1826 31) ∧ (H25.1 1826 31) ≤ 2147483647 := hrg26.1 1826 13 31 _ .int rfl rfl
            have g80 : -2147483648 ≤ (H25.1 1826 3) ∧ (H25.1 1826 3) ≤ 2147483647 := hrg26.1 1826 13 3 _ .int rfl rfl
            have e81 : (H25.1 1826 3) = (H1.1 1826 3) := hx25f.2.2 3 (by decide)
            have e82 : (H1.1 1826 3) = (H.1 1826 3) := hf.2.2 3 (by decide)
            have g83 : -2147483648 ≤ (H25.1 1826 29) ∧ (H25.1 1826 29) ≤ 2147483647 := hrg26.1 1826 13 29 _ .int rfl rfl
            have e84 : (H25.1 1826 29) = (H1.1 1826 29) := hx25f.2.2 29 (by decide)
            have g85 : -2147483648 ≤ (H25.1 1826 1) ∧ (H25.1 1826 1) ≤ 2147483647 := hrg26.1 1826 13 1 _ .int rfl rfl
            have e86 : (H25.1 1826 1) = (H1.1 1826 1) := hx25f.2.2 1 (by decide)
            have e87 : (H1.1 1826 1) = (H.1 1826 1) := hf.2.2 1 (by decide)
            have g88 : -2147483648 ≤ (H25.1 1826 8) ∧ (H25.1 1826 8) ≤ 2147483647 := hrg26.1 1826 13 8 _ .int rfl rfl
            have e89 : (H25.1 1826 8) = (H1.1 1826 8) := hx25f.2.2 8 (by decide)
            exact ih _ c (-1 : Int) hf27 (by omega : (H.1 1826 30) ≤ (H25.1 1826 30) ∧ (H25.1 1826 30) ≤ (H.1 1826 29)) (by omega : 0 ≤ (H25.1 1826 35) ∧ (H25.1 1826 35) ≤ 5) (by omega : 0 ≤ (H25.1 1826 32) ∧ (H25.1 1826 32) ≤ 1000) ha28 (by omega : (c : Int) = (H.1 1826 8) ∧ (H.1 1826 8) ≤ 15) (by omega : (H25.1 1826 8) = (H.1 1826 8) + 1) (by omega : -1 ≤ (-1 : Int) ∧ (-1 : Int) ≤ 6) (by omega : (H25.1 1826 35) = 0 → 0 ≤ (-1 : Int) ∧ (-1 : Int) < (H25.1 1826 1)) (fun (q : (H25.1 1826 35) = 0) => absurd q (by omega)) (Or.inr ⟨(by omega : (H25.1 1826 35) ≠ 0), GB_b hx25n (by omega)⟩) (mu_lt hw (by omega) (by omega : (H25.1 1826 35) ≠ 0 ∨ ((H1.1 1826 30) ≤ (H25.1 1826 30) ∧ (H25.1 1826 30) ≤ (H.1 1826 29) ∧ (((H25.1 1826 31) = 0 ∧ (H1.1 1826 31) ≠ 0) ∨ (H1.1 1826 30) < (H25.1 1826 30)))))
        · refine h_run 2 (pc' := 170) (l' := [(0, .inr (.inr 1826)), (1, .inl (c : Int)), (2, .inl t)]) (st' := [.inl 5, .inr (.inr 1826)]) rfl ?_
          refine h_cv (i := 278) (j := 159) (b := 1826) (M' := mt_159) (xs := [.inl 5]) (rest := []) rfl rfl rfl rfl rfl rfl (Nat.le_of_ble_eq_true rfl) (Nat.le_of_ble_eq_true rfl) (by omega) (m_bad0 (by omega) (by omega) (by omega : (H1.1 1826 35) = 0)) ?_
          rintro _ _ ⟨rfl, rfl⟩
          refine h_run 0 (pc' := 173) (l' := [(0, .inr (.inr 1826)), (1, .inl (c : Int)), (2, .inl t)]) (st' := []) rfl ?_
          refine h_ret rfl rfl ?_
          have g90 : -2147483648 ≤ (H1.1 1826 30) ∧ (H1.1 1826 30) ≤ 2147483647 := hrg1.1 1826 13 30 _ .int rfl rfl
          have g91 : -2147483648 ≤ (H1.1 1826 32) ∧ (H1.1 1826 32) ≤ 2147483647 := hrg1.1 1826 13 32 _ .int rfl rfl
          have g92 : -2147483648 ≤ (H1.1 1826 29) ∧ (H1.1 1826 29) ≤ 2147483647 := hrg1.1 1826 13 29 _ .int rfl rfl
          have e93 : (H1.1 1826 29) = (H.1 1826 29) := hf.2.2 29 (by decide)
          have g94 : -2147483648 ≤ (H1.1 1826 1) ∧ (H1.1 1826 1) ≤ 2147483647 := hrg1.1 1826 13 1 _ .int rfl rfl
          have e95 : (H1.1 1826 1) = (H.1 1826 1) := hf.2.2 1 (by decide)
          have g96 : -2147483648 ≤ (H1.1 1826 3) ∧ (H1.1 1826 3) ≤ 2147483647 := hrg1.1 1826 13 3 _ .int rfl rfl
          have e97 : (H1.1 1826 3) = (H.1 1826 3) := hf.2.2 3 (by decide)
          have g98 : -2147483648 ≤ (H1.1 1826 8) ∧ (H1.1 1826 8) ≤ 2147483647 := hrg1.1 1826 13 8 _ .int rfl rfl
          have g99 : -2147483648 ≤ (H1.1 1826 13) ∧ (H1.1 1826 13) ≤ 2147483647 := hrg1.1 1826 13 13 _ .int rfl rfl
          have e100 : (H1.1 1826 13) = (H.1 1826 13) := hf.2.2 13 (by decide)
          have g101 : -2147483648 ≤ (H1.1 1826 19) ∧ (H1.1 1826 19) ≤ 2147483647 := hrg1.1 1826 13 19 _ .int rfl rfl
          have e102 : (H1.1 1826 19) = (H.1 1826 19) := hf.2.2 19 (by decide)
          exact ⟨rfl, (Or.inr ⟨(by omega : (5 : Int) ≠ 0), (BD_mk hR1 (fr_o (fr_o (fr_rf [35, 36] [] H1) (by decide)) (by decide)) (by decide) (by decide) (by decide : (5 : Int) ≠ 0) rfl rfl (rch_st hq1 (by show (if tk Y (xi X1) = 62 then (if X1 8 c = 4 then fl Y X1 5 else ((10, (c : Int), 0, 0) :: (11, (c : Int), X1 8 c + 1, 0) :: ((1, 59, 0, 0) :: (6, nn + 1, 0, 0) :: K), xfar X1 c)) else (((1, 59, 0, 0) :: (6, nn + 1, 0, 0) :: K), X1)) = _; (try unfold miss); (repeat (first | rw [if_pos (by omega)] | rw [if_neg (by omega)])); try (first | rfl | (exfalso; omega)))))⟩), (fr_o (fr_o hf (by decide)) (by decide)), (by omega : (H.1 1826 30) ≤ (H1.1 1826 30) ∧ (H1.1 1826 30) ≤ (H.1 1826 29)), (by omega : 0 ≤ (5 : Int) ∧ (5 : Int) ≤ 5), (by omega : (H.1 1826 35) ≠ 0 → (5 : Int) ≠ 0), (by omega : 0 ≤ (H1.1 1826 32) ∧ (H1.1 1826 32) ≤ 1000), (agp_o (agp_o hag (by decide)) (by decide)), (fun (q : (5 : Int) = 0) => absurd q (by omega))⟩
    · have b3x : (H1.1 1826 35) ≠ 0 := b3
      refine h_run 0 (pc' := 146) (l' := [(0, .inr (.inr 1826)), (1, .inl (c : Int)), (2, .inl t)]) (st' := [.inl 0]) rfl ?_
      refine h_zeq (off := 77) (t := 223) rfl rfl (by decide) (fun _ => ?_) (fun c => absurd c (by decide))
      refine h_run 4 (pc' := 229) (l' := [(0, .inr (.inr 1826)), (1, .inl (c : Int)), (2, .inl t)]) (st' := [.inl t, .inl (c : Int), .inr (.inr 1835)]) rfl ?_
      refine h_ist (c := 1835) (j := c) (i := (c : Int)) (x := t) rfl rfl (by decide) (by decide) rfl (by omega) (by omega) ?_
      refine h_ret rfl rfl ?_
      have g103 : -2147483648 ≤ (H1.1 1826 30) ∧ (H1.1 1826 30) ≤ 2147483647 := hrg1.1 1826 13 30 _ .int rfl rfl
      have g104 : -2147483648 ≤ (H1.1 1826 32) ∧ (H1.1 1826 32) ≤ 2147483647 := hrg1.1 1826 13 32 _ .int rfl rfl
      have g105 : -2147483648 ≤ (H1.1 1826 29) ∧ (H1.1 1826 29) ≤ 2147483647 := hrg1.1 1826 13 29 _ .int rfl rfl
      have e106 : (H1.1 1826 29) = (H.1 1826 29) := hf.2.2 29 (by decide)
      have g107 : -2147483648 ≤ (H1.1 1826 1) ∧ (H1.1 1826 1) ≤ 2147483647 := hrg1.1 1826 13 1 _ .int rfl rfl
      have e108 : (H1.1 1826 1) = (H.1 1826 1) := hf.2.2 1 (by decide)
      have g109 : -2147483648 ≤ (H1.1 1826 3) ∧ (H1.1 1826 3) ≤ 2147483647 := hrg1.1 1826 13 3 _ .int rfl rfl
      have e110 : (H1.1 1826 3) = (H.1 1826 3) := hf.2.2 3 (by decide)
      have g111 : -2147483648 ≤ (H1.1 1826 8) ∧ (H1.1 1826 8) ≤ 2147483647 := hrg1.1 1826 13 8 _ .int rfl rfl
      have g112 : -2147483648 ≤ (H1.1 1826 13) ∧ (H1.1 1826 13) ≤ 2147483647 := hrg1.1 1826 13 13 _ .int rfl rfl
      have e113 : (H1.1 1826 13) = (H.1 1826 13) := hf.2.2 13 (by decide)
      have g114 : -2147483648 ≤ (H1.1 1826 19) ∧ (H1.1 1826 19) ≤ 2147483647 := hrg1.1 1826 13 19 _ .int rfl rfl
      have e115 : (H1.1 1826 19) = (H.1 1826 19) := hf.2.2 19 (by decide)
      exact ⟨rfl, (Or.inr ⟨(by omega : (H1.1 1826 35) ≠ 0), BD_ft (GB_b hFL (by omega)) (by omega)⟩), (fr_a hf (by decide)), (by omega : (H.1 1826 30) ≤ (H1.1 1826 30) ∧ (H1.1 1826 30) ≤ (H.1 1826 29)), (by omega : 0 ≤ (H1.1 1826 35) ∧ (H1.1 1826 35) ≤ 5), (by omega : (H.1 1826 35) ≠ 0 → (H1.1 1826 35) ≠ 0), (by omega : 0 ≤ (H1.1 1826 32) ∧ (H1.1 1826 32) ≤ 1000), (agp_1835 hag (by omega : (H.1 1826 8) ≤ ((c : Nat) : Int))), (fun (q : (H1.1 1826 35) = 0) => absurd q (by omega))⟩
set_option maxRecDepth 100000 in
theorem n_function {zC : Nat → Option zsh} {d : Nat} (hd : 5 ≤ d) {H : hp}  {Y : yx} {m : Int} {c0 : cf} {K : List tq} {X : rx} {nn : Int} (h0 : 0 ≤ (H.1 1826 30) ∧ (H.1 1826 30) ≤ (H.1 1826 29) ∧ (H.1 1826 29) ≤ 1000) (hw : 0 ≤ (H.1 1826 35) ∧ (H.1 1826 35) ≤ 5) (hst : 0 ≤ (H.1 1826 32) ∧ (H.1 1826 32) ≤ 1000) (hP : PWc H) (hw0 : (H.1 1826 35) = 0) (hR : RK Y m H X) (hmf : (H.1 1826 8) = m) (hq : rch Y c0 ((6, nn, 0, 0) :: K, X)) (htk : tk Y (xi X) = 5) : hG (zs zC) d mt_173 0 (zargs 0 [.inr (.inr 1826)]) [] H (fun r H2 => r = none ∧ GB Y m c0 H2 (∃ X2 : rx, rch Y c0 (((1, 59, 0, 0) :: (6, nn + 1, 0, 0) :: K), X2) ∧ RK Y (m + 1) H2 X2 ∧ (H2.1 1826 8) = m + 1) ∧ fr [30, 31, 32, 33, 35, 36, 8] [1832, 1833, 1834, 1835] H H2 ∧ ((H.1 1826 30) ≤ (H2.1 1826 30) ∧ (H2.1 1826 30) ≤ (H.1 1826 29)) ∧ (0 ≤ (H2.1 1826 35) ∧ (H2.1 1826 35) ≤ 5) ∧ ((H.1 1826 35) ≠ 0 → (H2.1 1826 35) ≠ 0) ∧ (0 ≤ (H2.1 1826 32) ∧ (H2.1 1826 32) ≤ 1000) ∧ agp H H2 ∧ ((H2.1 1826 35) = 0 → PWc H2)) := by
  refine h_rng (fun hrg0 => ?_)
  refine h_run 0 (pc' := 0) (l' := [(0, .inr (.inr 1826))]) (st' := []) rfl ?_
  obtain ⟨⟨pb1, pb2, pb3, pb4, pb5⟩, pw1, pw2, pw3, pw4⟩ := (id hP : PW H (H.1 1826 1) (H.1 1826 3) (H.1 1826 8) (H.1 1826 13) (H.1 1826 19))
  have hx5 := hR.2.2.2.2.2.2.1.1
  have ha5 : adv X 0 5 = X 0 5 := (sT_adv X).2.2 5 (by decide) (by decide)
  refine h_run 1 (pc' := 1) (l' := [(0, .inr (.inr 1826))]) (st' := [.inr (.inr 1826)]) rfl ?_
  have g116 : -2147483648 ≤ (H.1 1826 30) ∧ (H.1 1826 30) ≤ 2147483647 := hrg0.1 1826 13 30 _ .int rfl rfl
  have g117 : -2147483648 ≤ (H.1 1826 29) ∧ (H.1 1826 29) ≤ 2147483647 := hrg0.1 1826 13 29 _ .int rfl rfl
  have g118 : -2147483648 ≤ (H.1 1826 35) ∧ (H.1 1826 35) ≤ 2147483647 := hrg0.1 1826 13 35 _ .int rfl rfl
  have g119 : -2147483648 ≤ (H.1 1826 32) ∧ (H.1 1826 32) ≤ 2147483647 := hrg0.1 1826 13 32 _ .int rfl rfl
  refine h_cv (i := 297) (j := 165) (b := 1826) (M' := mt_165) (xs := []) (rest := []) rfl rfl rfl rfl rfl rfl (Nat.le_of_ble_eq_true rfl) (Nat.le_of_ble_eq_true rfl) (by omega) (n_nx2 (by omega) (by omega : 0 ≤ (H.1 1826 30) ∧ (H.1 1826 30) ≤ (H.1 1826 29) ∧ (H.1 1826 29) ≤ 1000) (by omega : 0 ≤ (H.1 1826 35) ∧ (H.1 1826 35) ≤ 5) (by omega : 0 ≤ (H.1 1826 32) ∧ (H.1 1826 32) ≤ 1000) (by omega : (H.1 1826 35) = 0) (X := (adv X)) (RN_adv hR (fr_rf [] [] _) (by decide) (by decide)) (fun q9 => (rch_st hq (by show stDec Y nn K X = _; unfold stDec miss; (repeat (first | rw [if_pos (by omega)] | rw [if_neg (by omega)])); try (first | rfl | (exfalso; omega)))))) ?_
  rintro _ H120 ⟨rfl, hx120n, hx120f, hx120a, hx120b, hx120c, -, hx120e, hx120g⟩
  refine h_rng (fun hrg121 => ?_)
  have hf122 : fr [30, 31, 32, 33, 35, 36, 8] [1832, 1833, 1834, 1835] H H120 := fr_t (fr_rf _ _ _) hx120f (by decide) (by decide)
  have ha123 : agp H H120 := agp_tr (agp_rf _) (agp_fr hx120f (by decide) (by decide))
  replace hx120a : (H.1 1826 30) ≤ (H120.1 1826 30) := hx120a
  replace hx120b : (H120.1 1826 30) ≤ (H.1 1826 29) := hx120b
  replace hx120g : (H120.1 1826 35) = 0 → ((H120.1 1826 31) = 0 ∨ (H.1 1826 30) < (H120.1 1826 30)) := hx120g
  refine h_run 0 (pc' := 4) (l' := [(0, .inr (.inr 1826))]) (st' := []) rfl ?_
  refine h_run 1 (pc' := 5) (l' := [(0, .inr (.inr 1826))]) (st' := [.inr (.inr 1826)]) rfl ?_
  have g124 : -2147483648 ≤ (H120.1 1826 35) ∧ (H120.1 1826 35) ≤ 2147483647 := hrg121.1 1826 13 35 _ .int rfl rfl
  refine h_cv (i := 293) (j := 158) (b := 1826) (M' := mt_158) (xs := []) (rest := []) rfl rfl rfl rfl rfl rfl (Nat.le_of_ble_eq_true rfl) (Nat.le_of_ble_eq_true rfl) (by omega) (m_good (by omega)) ?_
  rintro _ _ ⟨⟨rfl, b125⟩ | ⟨rfl, b125⟩, rfl⟩
  · have b125x : (H120.1 1826 35) = 0 := b125
    replace hx120g := hx120g b125x
    refine h_run 0 (pc' := 8) (l' := [(0, .inr (.inr 1826))]) (st' := [.inl 1]) rfl ?_
    refine h_zeq (off := 16) (t := 24) rfl rfl (by decide) (fun c => absurd c (by decide)) (fun _ => ?_)
    have hR1 := GB_g hx120n (by omega)
    have htk1 := RK_t hR1
    have hy5 := hR1.2.2.2.2.2.2.1.1
    refine h_run 2 (pc' := 15) (l' := [(0, .inr (.inr 1826))]) (st' := [.inl (H120.1 1826 31)]) rfl ?_
    have g126 : -2147483648 ≤ (H120.1 1826 31) ∧ (H120.1 1826 31) ≤ 2147483647 := hrg121.1 1826 13 31 _ .int rfl rfl
    refine h_run 1 (pc' := 16) (l' := [(0, .inr (.inr 1826))]) (st' := [.inl 1, .inl (H120.1 1826 31)]) rfl ?_
    refine h_ieq (off := 8) (t := 24) rfl rfl (by omega) (by decide) (fun c127 => ?_) (fun c127 => ?_)
    · refine h_run 1 (pc' := 25) (l' := [(0, .inr (.inr 1826))]) (st' := [.inr (.inr 1826)]) rfl ?_
      refine h_cv (i := 293) (j := 158) (b := 1826) (M' := mt_158) (xs := []) (rest := []) rfl rfl rfl rfl rfl rfl (Nat.le_of_ble_eq_true rfl) (Nat.le_of_ble_eq_true rfl) (by omega) (m_good1 (by omega) (by omega : (H120.1 1826 35) = 0)) ?_
      rintro _ _ ⟨rfl, rfl⟩
      refine h_run 0 (pc' := 28) (l' := [(0, .inr (.inr 1826))]) (st' := [.inl 1]) rfl ?_
      refine h_zeq (off := 27) (t := 55) rfl rfl (by decide) (fun c => absurd c (by decide)) (fun _ => ?_)
      refine h_run 4 (pc' := 39) (l' := [(0, .inr (.inr 1826))]) (st' := [.inl (H120.1 1826 8), .inr (.inr 1832)]) rfl ?_
      have g128 : -2147483648 ≤ (H120.1 1826 8) ∧ (H120.1 1826 8) ≤ 2147483647 := hrg121.1 1826 13 8 _ .int rfl rfl
      have e129 : (H120.1 1826 8) = (H.1 1826 8) := hx120f.2.2 8 (by decide)
      refine h_run 2 (pc' := 43) (l' := [(0, .inr (.inr 1826))]) (st' := [.inr (.inl (H120.1 1826 33)), .inl (H120.1 1826 8), .inr (.inr 1832)]) rfl ?_
      have g130 : -9223372036854775808 ≤ (H120.1 1826 33) ∧ (H120.1 1826 33) ≤ 9223372036854775807 := hrg121.1 1826 13 33 _ .long rfl rfl
      refine h_cs (i := 309) (j := 167) (M' := mt_167) (xs := [.inr (.inl (H120.1 1826 33)), .inl (H120.1 1826 8), .inr (.inr 1832)]) (rest := []) rfl rfl rfl rfl rfl (Nat.le_of_ble_eq_true rfl) (Nat.le_of_ble_eq_true rfl) (by omega) (n_find (by omega) (m := 16) (z := ffd Y (adv X)) rfl (by omega : 0 ≤ (H120.1 1826 8) ∧ (H120.1 1826 8) ≤ ((16 : Nat) : Int) ∧ 16 ≤ 100) (by omega) (RK_ff hR1 (Or.inl (by omega)))) ?_
      rintro _ _ ⟨⟨k131, rfl, f132, f132x⟩ | ⟨rfl, f132⟩, rfl⟩
      · refine h_run 0 (pc' := 46) (l' := [(0, .inr (.inr 1826))]) (st' := [.inl (k131 : Int)]) rfl ?_
        refine h_run 1 (pc' := 47) (l' := [(0, .inr (.inr 1826))]) (st' := [.inl (-1), .inl (k131 : Int)]) rfl ?_
        refine h_ieq (off := 8) (t := 55) rfl rfl (by omega) (by decide) (fun c133 => ?_) (fun c133 => ?_)
        · exfalso
          omega
        · refine h_run 2 (pc' := 52) (l' := [(0, .inr (.inr 1826))]) (st' := [.inl 3, .inr (.inr 1826)]) rfl ?_
          refine h_cv (i := 278) (j := 159) (b := 1826) (M' := mt_159) (xs := [.inl 3]) (rest := []) rfl rfl rfl rfl rfl rfl (Nat.le_of_ble_eq_true rfl) (Nat.le_of_ble_eq_true rfl) (by omega) (m_bad0 (by omega) (by omega) (by omega : (H120.1 1826 35) = 0)) ?_
          rintro _ _ ⟨rfl, rfl⟩
          refine h_run 0 (pc' := 55) (l' := [(0, .inr (.inr 1826))]) (st' := []) rfl ?_
          refine h_run 1 (pc' := 56) (l' := [(0, .inr (.inr 1826))]) (st' := [.inr (.inr 1826)]) rfl ?_
          refine h_cv (i := 293) (j := 158) (b := 1826) (M' := mt_158) (xs := []) (rest := []) rfl rfl rfl rfl rfl rfl (Nat.le_of_ble_eq_true rfl) (Nat.le_of_ble_eq_true rfl) (by omega) (m_good0 (by omega) (by omega : (3 : Int) ≠ 0)) ?_
          rintro _ _ ⟨rfl, rfl⟩
          refine h_run 0 (pc' := 59) (l' := [(0, .inr (.inr 1826))]) (st' := [.inl 0]) rfl ?_
          refine h_zeq (off := 17) (t := 76) rfl rfl (by decide) (fun _ => ?_) (fun c => absurd c (by decide))
          refine h_run 1 (pc' := 77) (l' := [(0, .inr (.inr 1826))]) (st' := [.inr (.inr 1826)]) rfl ?_
          refine h_cv (i := 293) (j := 158) (b := 1826) (M' := mt_158) (xs := []) (rest := []) rfl rfl rfl rfl rfl rfl (Nat.le_of_ble_eq_true rfl) (Nat.le_of_ble_eq_true rfl) (by omega) (m_good0 (by omega) (by omega : (3 : Int) ≠ 0)) ?_
          rintro _ _ ⟨rfl, rfl⟩
          refine h_run 0 (pc' := 80) (l' := [(0, .inr (.inr 1826))]) (st' := [.inl 0]) rfl ?_
          refine h_zne (off := 4) (t := 84) rfl rfl (by decide) (fun c => absurd c (by decide)) (fun _ => ?_)
          refine h_ret rfl rfl ?_
          have g134 : -2147483648 ≤ (H120.1 1826 30) ∧ (H120.1 1826 30) ≤ 2147483647 := hrg121.1 1826 13 30 _ .int rfl rfl
          have g135 : -2147483648 ≤ (H120.1 1826 32) ∧ (H120.1 1826 32) ≤ 2147483647 := hrg121.1 1826 13 32 _ .int rfl rfl
          have g136 : -2147483648 ≤ (H120.1 1826 29) ∧ (H120.1 1826 29) ≤ 2147483647 := hrg121.1 1826 13 29 _ .int rfl rfl
          have e137 : (H120.1 1826 29) = (H.1 1826 29) := hx120f.2.2 29 (by decide)
          have g138 : -2147483648 ≤ (H120.1 1826 1) ∧ (H120.1 1826 1) ≤ 2147483647 := hrg121.1 1826 13 1 _ .int rfl rfl
          have e139 : (H120.1 1826 1) = (H.1 1826 1) := hx120f.2.2 1 (by decide)
          have g140 : -2147483648 ≤ (H120.1 1826 3) ∧ (H120.1 1826 3) ≤ 2147483647 := hrg121.1 1826 13 3 _ .int rfl rfl
          have e141 : (H120.1 1826 3) = (H.1 1826 3) := hx120f.2.2 3 (by decide)
          have g142 : -2147483648 ≤ (H120.1 1826 13) ∧ (H120.1 1826 13) ≤ 2147483647 := hrg121.1 1826 13 13 _ .int rfl rfl
          have e143 : (H120.1 1826 13) = (H.1 1826 13) := hx120f.2.2 13 (by decide)
          have g144 : -2147483648 ≤ (H120.1 1826 19) ∧ (H120.1 1826 19) ≤ 2147483647 := hrg121.1 1826 13 19 _ .int rfl rfl
          have e145 : (H120.1 1826 19) = (H.1 1826 19) := hx120f.2.2 19 (by decide)
          exact ⟨rfl, (Or.inr ⟨(by omega : (3 : Int) ≠ 0), (BD_mk hR1 (fr_o (fr_o (fr_rf [35, 36] [] H120) (by decide)) (by decide)) (by decide) (by decide) (by decide : (3 : Int) ≠ 0) rfl rfl (rch_st hq (by show stDec Y nn K X = _; unfold stDec miss; (repeat (first | rw [if_pos (by omega)] | rw [if_neg (by omega)])); try (first | rfl | (exfalso; omega)))))⟩), (fr_o (fr_o hf122 (by decide)) (by decide)), (by omega : (H.1 1826 30) ≤ (H120.1 1826 30) ∧ (H120.1 1826 30) ≤ (H.1 1826 29)), (by omega : 0 ≤ (3 : Int) ∧ (3 : Int) ≤ 5), (by omega : (H.1 1826 35) ≠ 0 → (3 : Int) ≠ 0), (by omega : 0 ≤ (H120.1 1826 32) ∧ (H120.1 1826 32) ≤ 1000), (agp_o (agp_o ha123 (by decide)) (by decide)), (fun (q : (3 : Int) = 0) => absurd q (by omega))⟩
      · refine h_run 0 (pc' := 46) (l' := [(0, .inr (.inr 1826))]) (st' := [.inl (-1)]) rfl ?_
        refine h_run 1 (pc' := 47) (l' := [(0, .inr (.inr 1826))]) (st' := [.inl (-1), .inl (-1)]) rfl ?_
        refine h_ieq (off := 8) (t := 55) rfl rfl (by decide) (by decide) (fun _ => ?_) (fun c => absurd c (by decide))
        refine h_run 1 (pc' := 56) (l' := [(0, .inr (.inr 1826))]) (st' := [.inr (.inr 1826)]) rfl ?_
        refine h_cv (i := 293) (j := 158) (b := 1826) (M' := mt_158) (xs := []) (rest := []) rfl rfl rfl rfl rfl rfl (Nat.le_of_ble_eq_true rfl) (Nat.le_of_ble_eq_true rfl) (by omega) (m_good1 (by omega) (by omega : (H120.1 1826 35) = 0)) ?_
        rintro _ _ ⟨rfl, rfl⟩
        refine h_run 0 (pc' := 59) (l' := [(0, .inr (.inr 1826))]) (st' := [.inl 1]) rfl ?_
        refine h_zeq (off := 17) (t := 76) rfl rfl (by decide) (fun c => absurd c (by decide)) (fun _ => ?_)
        refine h_run 2 (pc' := 66) (l' := [(0, .inr (.inr 1826))]) (st' := [.inl (H120.1 1826 8)]) rfl ?_
        refine h_run 1 (pc' := 68) (l' := [(0, .inr (.inr 1826))]) (st' := [.inl 16, .inl (H120.1 1826 8)]) rfl ?_
        refine h_ine (off := 8) (t := 76) rfl rfl (by omega) (by decide) (fun c146 => ?_) (fun c146 => ?_)
        · refine h_run 1 (pc' := 77) (l' := [(0, .inr (.inr 1826))]) (st' := [.inr (.inr 1826)]) rfl ?_
          refine h_cv (i := 293) (j := 158) (b := 1826) (M' := mt_158) (xs := []) (rest := []) rfl rfl rfl rfl rfl rfl (Nat.le_of_ble_eq_true rfl) (Nat.le_of_ble_eq_true rfl) (by omega) (m_good1 (by omega) (by omega : (H120.1 1826 35) = 0)) ?_
          rintro _ _ ⟨rfl, rfl⟩
          refine h_run 0 (pc' := 80) (l' := [(0, .inr (.inr 1826))]) (st' := [.inl 1]) rfl ?_
          refine h_zne (off := 4) (t := 84) rfl rfl (by decide) (fun _ => ?_) (fun c => absurd c (by decide))
          refine h_run 2 (pc' := 88) (l' := [(0, .inr (.inr 1826))]) (st' := [.inl (H120.1 1826 8)]) rfl ?_
          refine h_run 1 (pc' := 89) (l' := [(0, .inr (.inr 1826)), (1, .inl (H120.1 1826 8))]) (st' := []) rfl ?_
          obtain ⟨fz, hfz⟩ : ∃ k9 : Nat, (H120.1 1826 8) = (k9 : Int) := ⟨((H120.1 1826 8)).toNat, by omega⟩
          rw [show (H120.1 1826 8) = (fz : Int) from hfz]
          refine h_run 5 (pc' := 98) (l' := [(0, .inr (.inr 1826)), (1, .inl (fz : Int))]) (st' := [.inr (.inl (H120.1 1826 33)), .inl (fz : Int), .inr (.inr 1832)]) rfl ?_
          refine h_lst (c := 1832) (j := fz) (i := (fz : Int)) (x := (H120.1 1826 33)) rfl rfl (by decide) (by decide) rfl (by omega) (by first | omega | exact z_long _) ?_
          refine h_run 4 (pc' := 105) (l' := [(0, .inr (.inr 1826)), (1, .inl (fz : Int))]) (st' := [.inl 0, .inl (fz : Int), .inr (.inr 1833)]) rfl ?_
          refine h_ist (c := 1833) (j := fz) (i := (fz : Int)) (x := 0) rfl rfl (by decide) (by decide) rfl (by omega) (by decide) ?_
          refine h_run 3 (pc' := 111) (l' := [(0, .inr (.inr 1826)), (1, .inl (fz : Int))]) (st' := [.inl (H120.1 1826 8), .inr (.inr 1826)]) rfl ?_
          refine h_run 2 (pc' := 113) (l' := [(0, .inr (.inr 1826)), (1, .inl (fz : Int))]) (st' := [.inl ((H120.1 1826 8) + 1), .inr (.inr 1826)]) rfl ?_
          refine h_puti (i := 325) (ci := 13) (k := 8) (a := 1826) (x := ((H120.1 1826 8) + 1)) rfl rfl rfl rfl rfl rfl (by decide) (by omega) ?_
          have hq3 : rch Y c0 ((1, 58, 0, 0) :: (10, (fz : Int), 0, 0) :: (11, (fz : Int), 0, 0) :: ((1, 59, 0, 0) :: (6, nn + 1, 0, 0) :: K), (xfun (adv X) (tn Y (xi (adv X))))) := by rw [show (fz : Int) = X 0 5 by omega]; exact (rch_st hq (by show stDec Y nn K X = _; unfold stDec miss; (repeat (first | rw [if_pos (by omega)] | rw [if_neg (by omega)])); try (first | rfl | (exfalso; omega))))
          refine h_run 1 (pc' := 117) (l' := [(0, .inr (.inr 1826)), (1, .inl (fz : Int))]) (st' := [.inr (.inr 1826)]) rfl ?_
          have g147 : -2147483648 ≤ (H120.1 1826 30) ∧ (H120.1 1826 30) ≤ 2147483647 := hrg121.1 1826 13 30 _ .int rfl rfl
          have g148 : -2147483648 ≤ (H120.1 1826 29) ∧ (H120.1 1826 29) ≤ 2147483647 := hrg121.1 1826 13 29 _ .int rfl rfl
          have e149 : (H120.1 1826 29) = (H.1 1826 29) := hx120f.2.2 29 (by decide)
          have g150 : -2147483648 ≤ (H120.1 1826 32) ∧ (H120.1 1826 32) ≤ 2147483647 := hrg121.1 1826 13 32 _ .int rfl rfl
          refine h_cv (i := 297) (j := 165) (b := 1826) (M' := mt_165) (xs := []) (rest := []) rfl rfl rfl rfl rfl rfl (Nat.le_of_ble_eq_true rfl) (Nat.le_of_ble_eq_true rfl) (by omega) (n_nx (by omega) (by omega : 0 ≤ (H120.1 1826 30) ∧ (H120.1 1826 30) ≤ (H120.1 1826 29) ∧ (H120.1 1826 29) ≤ 1000) (by omega : 0 ≤ (H120.1 1826 35) ∧ (H120.1 1826 35) ≤ 5) (by omega : 0 ≤ (H120.1 1826 32) ∧ (H120.1 1826 32) ≤ 1000) (by omega : (H120.1 1826 35) = 0) (X := (xfun (adv X) (tn Y (xi (adv X))))) (RN_mk hR1 (fr_o (fr_a (fr_a (fr_rf [8] [1832, 1833] H120) (by decide)) (by decide)) (by decide)) (by decide) (by decide) (xfun_s _ _).1 (TA_fun (c := fz) hR1.2.2.2.2 (fr_o (fr_a (fr_a (fr_rf [8] [1832, 1833] H120) (by decide)) (by decide)) (by decide)) (by decide) (by decide) (by omega) (by omega) (by rw [← RK_n hR1 (Or.inl (by omega))]; rfl) rfl (show ((H120.1 1826 8) + 1) = _ by omega))) hq3 (lk_1 (by decide))) ?_
          rintro _ H151 ⟨rfl, hx151n, hx151f, hx151a, hx151b, hx151c, -, hx151e, hx151g⟩
          refine h_rng (fun hrg152 => ?_)
          have hf153 : fr [30, 31, 32, 33, 35, 36, 8] [1832, 1833, 1834, 1835] H H151 := fr_t (fr_o (fr_a (fr_a hf122 (by decide)) (by decide)) (by decide)) hx151f (by decide) (by decide)
          have ha154 : agp H H151 := agp_tr (agp_n8 (agp_1833 (agp_a ha123 (by decide)) (by omega : (H.1 1826 8) ≤ ((fz : Nat) : Int))) (by omega : (H.1 1826 8) ≤ ((H120.1 1826 8) + 1))) (agp_fr hx151f (by decide) (by decide))
          replace hx151a : (H120.1 1826 30) ≤ (H151.1 1826 30) := hx151a
          replace hx151b : (H151.1 1826 30) ≤ (H120.1 1826 29) := hx151b
          replace hx151g : (H151.1 1826 35) = 0 → ((H151.1 1826 31) = 0 ∨ (H120.1 1826 30) < (H151.1 1826 30)) := hx151g
          refine h_run 0 (pc' := 120) (l' := [(0, .inr (.inr 1826)), (1, .inl (fz : Int))]) (st' := []) rfl ?_
          refine h_run 2 (pc' := 123) (l' := [(0, .inr (.inr 1826)), (1, .inl (fz : Int))]) (st' := [.inl 58, .inr (.inr 1826)]) rfl ?_
          have g155 : -2147483648 ≤ (H151.1 1826 35) ∧ (H151.1 1826 35) ≤ 2147483647 := hrg152.1 1826 13 35 _ .int rfl rfl
          by_cases b156 : (H151.1 1826 35) = 0
          · have g157 : -2147483648 ≤ (H151.1 1826 30) ∧ (H151.1 1826 30) ≤ 2147483647 := hrg152.1 1826 13 30 _ .int rfl rfl
            have g158 : -2147483648 ≤ (H151.1 1826 29) ∧ (H151.1 1826 29) ≤ 2147483647 := hrg152.1 1826 13 29 _ .int rfl rfl
            have e159 : (H151.1 1826 29) = (H120.1 1826 29) := hx151f.2.2 29 (by decide)
            have g160 : -2147483648 ≤ (H151.1 1826 31) ∧ (H151.1 1826 31) ≤ 2147483647 := hrg152.1 1826 13 31 _ .int rfl rfl
            have g162 : -2147483648 ≤ (H151.1 1826 32) ∧ (H151.1 1826 32) ≤ 2147483647 := hrg152.1 1826 13 32 _ .int rfl rfl
            refine h_cv (i := 313) (j := 166) (b := 1826) (M' := mt_166) (xs := [.inl 58]) (rest := []) rfl rfl rfl rfl rfl rfl (Nat.le_of_ble_eq_true rfl) (Nat.le_of_ble_eq_true rfl) (by omega) (n_want (by omega) (by omega : 0 ≤ (H151.1 1826 30) ∧ (H151.1 1826 30) ≤ (H151.1 1826 29) ∧ (H151.1 1826 29) ≤ 1000) (by omega : 0 ≤ (H151.1 1826 35) ∧ (H151.1 1826 35) ≤ 5) (by omega : 0 ≤ (H151.1 1826 32) ∧ (H151.1 1826 32) ≤ 1000) (by omega) (by omega : (H151.1 1826 35) = 0) (GB_g hx151n (by omega)) hq3 (lk_n (by decide))) ?_
            rintro _ H161 ⟨rfl, hx161n, hx161f, hx161a, hx161b, hx161c, -, hx161e, hx161g⟩
            refine h_rng (fun hrg163 => ?_)
            have hf164 : fr [30, 31, 32, 33, 35, 36, 8] [1832, 1833, 1834, 1835] H H161 := fr_t hf153 hx161f (by decide) (by decide)
            have ha165 : agp H H161 := agp_tr ha154 (agp_fr hx161f (by decide) (by decide))
            replace hx161a : (H151.1 1826 30) ≤ (H161.1 1826 30) := hx161a
            replace hx161b : (H161.1 1826 30) ≤ (H151.1 1826 29) := hx161b
            replace hx161g : (H161.1 1826 35) = 0 → (H151.1 1826 31) = (58 : Int) ∧ ((H161.1 1826 31) = 0 ∨ (H151.1 1826 30) < (H161.1 1826 30)) := hx161g
            refine h_run 0 (pc' := 126) (l' := [(0, .inr (.inr 1826)), (1, .inl (fz : Int))]) (st' := []) rfl ?_
            refine h_run 1 (pc' := 127) (l' := [(0, .inr (.inr 1826)), (1, .inl (fz : Int))]) (st' := [.inr (.inr 1826)]) rfl ?_
            have g166 : -2147483648 ≤ (H161.1 1826 35) ∧ (H161.1 1826 35) ≤ 2147483647 := hrg163.1 1826 13 35 _ .int rfl rfl
            by_cases b167 : (H161.1 1826 35) = 0
            · have g168 : -2147483648 ≤ (H161.1 1826 1) ∧ (H161.1 1826 1) ≤ 2147483647 := hrg163.1 1826 13 1 _ .int rfl rfl
              have e169 : (H161.1 1826 1) = (H151.1 1826 1) := hx161f.2.2 1 (by decide)
              have e170 : (H151.1 1826 1) = (H120.1 1826 1) := hx151f.2.2 1 (by decide)
              have e171 : (H120.1 1826 1) = (H.1 1826 1) := hx120f.2.2 1 (by decide)
              have g172 : -2147483648 ≤ (H161.1 1826 31) ∧ (H161.1 1826 31) ≤ 2147483647 := hrg163.1 1826 13 31 _ .int rfl rfl
              obtain ⟨X4, hq4, hR4, -⟩ := GB_g hx161n (by omega)
              have htk4 := RK_t hR4
              have htf4 := fnd_b (X4 1) (X4 0 3) (tn Y (xi X4))
              refine h_cv (i := 322) (j := 172) (b := 1826) (M' := mt_172) (xs := []) (rest := []) rfl rfl rfl rfl rfl rfl (Nat.le_of_ble_eq_true rfl) (Nat.le_of_ble_eq_true rfl) (by omega) (n_type (by omega) (by omega : (H161.1 1826 35) = 0) (by omega : 0 ≤ (H161.1 1826 1) ∧ (H161.1 1826 1) ≤ 6) (z := tfd Y X4) (fun q9 => RK_tf hR4 (Or.inr q9))) ?_
              rintro _ _ (⟨ht173k, rfl, ht173a, ht173b, ht173c, rfl⟩ | ⟨rfl, ht173a, rfl⟩ | ⟨rfl, ht173a, ht173c, rfl⟩)
              · replace ht173a : (H161.1 1826 31) = 2 := ht173a
                replace ht173b : (ht173k : Int) < (H161.1 1826 1) := ht173b
                refine h_run 0 (pc' := 130) (l' := [(0, .inr (.inr 1826)), (1, .inl (fz : Int))]) (st' := [.inl (ht173k : Int)]) rfl ?_
                refine h_run 2 (pc' := 132) (l' := [(0, .inr (.inr 1826)), (1, .inl (fz : Int)), (2, .inl (ht173k : Int))]) (st' := [.inr (.inr 1826)]) rfl ?_
                refine h_cv (i := 293) (j := 158) (b := 1826) (M' := mt_158) (xs := []) (rest := []) rfl rfl rfl rfl rfl rfl (Nat.le_of_ble_eq_true rfl) (Nat.le_of_ble_eq_true rfl) (by omega) (m_good1 (by omega) (by omega : (H161.1 1826 35) = 0)) ?_
                rintro _ _ ⟨rfl, rfl⟩
                refine h_run 0 (pc' := 135) (l' := [(0, .inr (.inr 1826)), (1, .inl (fz : Int)), (2, .inl (ht173k : Int))]) (st' := [.inl 1]) rfl ?_
                refine h_zeq (off := 7) (t := 142) rfl rfl (by decide) (fun c => absurd c (by decide)) (fun _ => ?_)
                have g174 : -2147483648 ≤ (H161.1 1826 8) ∧ (H161.1 1826 8) ≤ 2147483647 := hrg163.1 1826 13 8 _ .int rfl rfl
                have e175 : (H161.1 1826 8) = (H151.1 1826 8) := hx161f.2.2 8 (by decide)
                have e176 : (H151.1 1826 8) = ((H120.1 1826 8) + 1) := hx151f.2.2 8 (by decide)
                have hx8 : X4 8 fz = 0 := by rw [← (hR4.2.2.2.2.2.2.1.2 fz (by have := hR4.2.2.2.2.2.2.1.1; omega)).2.1, show (H161.1 1833) = up (H120.1 1833) fz 0 from ((hx161f.2.1 1833 (by decide) (by decide)).trans (hx151f.2.1 1833 (by decide) (by decide))), up_eq]
                have hq5 : rch Y c0 ((11, (fz : Int), 0, 0) :: ((1, 59, 0, 0) :: (6, nn + 1, 0, 0) :: K), adv (xu X4 7 fz (tfd Y X4))) := rch_st hq4 (by show (if tk Y (xi X4) ≠ 3 then miss Y X4 else if tfd Y X4 < 0 then fl Y X4 3 else _) = _; (repeat (first | rw [if_pos (by omega)] | rw [if_neg (by omega)])); try (first | rfl | (exfalso; omega)))
                refine h_run 1 (pc' := 139) (l' := [(0, .inr (.inr 1826)), (1, .inl (fz : Int)), (2, .inl (ht173k : Int))]) (st' := [.inr (.inr 1826)]) rfl ?_
                have g177 : -2147483648 ≤ (H161.1 1826 30) ∧ (H161.1 1826 30) ≤ 2147483647 := hrg163.1 1826 13 30 _ .int rfl rfl
                have g178 : -2147483648 ≤ (H161.1 1826 29) ∧ (H161.1 1826 29) ≤ 2147483647 := hrg163.1 1826 13 29 _ .int rfl rfl
                have e179 : (H161.1 1826 29) = (H151.1 1826 29) := hx161f.2.2 29 (by decide)
                have g180 : -2147483648 ≤ (H161.1 1826 32) ∧ (H161.1 1826 32) ≤ 2147483647 := hrg163.1 1826 13 32 _ .int rfl rfl
                refine h_cv (i := 297) (j := 165) (b := 1826) (M' := mt_165) (xs := []) (rest := []) rfl rfl rfl rfl rfl rfl (Nat.le_of_ble_eq_true rfl) (Nat.le_of_ble_eq_true rfl) (by omega) (n_nx (by omega) (by omega : 0 ≤ (H161.1 1826 30) ∧ (H161.1 1826 30) ≤ (H161.1 1826 29) ∧ (H161.1 1826 29) ≤ 1000) (by omega : 0 ≤ (H161.1 1826 35) ∧ (H161.1 1826 35) ≤ 5) (by omega : 0 ≤ (H161.1 1826 32) ∧ (H161.1 1826 32) ≤ 1000) (by omega : (H161.1 1826 35) = 0) (X := (adv (xu X4 7 fz (tfd Y X4)))) (RN_mk hR4 (fr_rf [] [] _) (by decide) (by decide) adv7_0 (TA_7 hR4.2.2.2.2 (by omega))) hq5 (lk_c (lk_1 (by decide)) (by decide : (11 : Nat) ≠ 0) (fun q => absurd q (by decide : (11 : Nat) ≠ 1)))) ?_
                rintro _ H181 ⟨rfl, hx181n, hx181f, hx181a, hx181b, hx181c, -, hx181e, hx181g⟩
                refine h_rng (fun hrg182 => ?_)
                have hf183 : fr [30, 31, 32, 33, 35, 36, 8] [1832, 1833, 1834, 1835] H H181 := fr_t hf164 hx181f (by decide) (by decide)
                have ha184 : agp H H181 := agp_tr ha165 (agp_fr hx181f (by decide) (by decide))
                replace hx181a : (H161.1 1826 30) ≤ (H181.1 1826 30) := hx181a
                replace hx181b : (H181.1 1826 30) ≤ (H161.1 1826 29) := hx181b
                replace hx181g : (H181.1 1826 35) = 0 → ((H181.1 1826 31) = 0 ∨ (H161.1 1826 30) < (H181.1 1826 30)) := hx181g
                refine h_run 0 (pc' := 142) (l' := [(0, .inr (.inr 1826)), (1, .inl (fz : Int)), (2, .inl (ht173k : Int))]) (st' := []) rfl ?_
                have g185 : -2147483648 ≤ (H181.1 1826 30) ∧ (H181.1 1826 30) ≤ 2147483647 := hrg182.1 1826 13 30 _ .int rfl rfl
                have g186 : -2147483648 ≤ (H181.1 1826 35) ∧ (H181.1 1826 35) ≤ 2147483647 := hrg182.1 1826 13 35 _ .int rfl rfl
                have g187 : -2147483648 ≤ (H181.1 1826 32) ∧ (H181.1 1826 32) ≤ 2147483647 := hrg182.1 1826 13 32 _ .int rfl rfl
                have g188 : -2147483648 ≤ (H181.1 1826 31) ∧ (H181.1 1826 31) ≤ 2147483647 := hrg182.1 1826 13 31 _ .int rfl rfl
                have g189 : -2147483648 ≤ (H181.1 1826 3) ∧ (H181.1 1826 3) ≤ 2147483647 := hrg182.1 1826 13 3 _ .int rfl rfl
                have e190 : (H181.1 1826 3) = (H161.1 1826 3) := hx181f.2.2 3 (by decide)
                have e191 : (H161.1 1826 3) = (H151.1 1826 3) := hx161f.2.2 3 (by decide)
                have e192 : (H151.1 1826 3) = (H120.1 1826 3) := hx151f.2.2 3 (by decide)
                have e193 : (H120.1 1826 3) = (H.1 1826 3) := hx120f.2.2 3 (by decide)
                have g194 : -2147483648 ≤ (H181.1 1826 29) ∧ (H181.1 1826 29) ≤ 2147483647 := hrg182.1 1826 13 29 _ .int rfl rfl
                have e195 : (H181.1 1826 29) = (H161.1 1826 29) := hx181f.2.2 29 (by decide)
                have g196 : -2147483648 ≤ (H181.1 1826 1) ∧ (H181.1 1826 1) ≤ 2147483647 := hrg182.1 1826 13 1 _ .int rfl rfl
                have e197 : (H181.1 1826 1) = (H161.1 1826 1) := hx181f.2.2 1 (by decide)
                have g198 : -2147483648 ≤ (H181.1 1826 8) ∧ (H181.1 1826 8) ≤ 2147483647 := hrg182.1 1826 13 8 _ .int rfl rfl
                have e199 : (H181.1 1826 8) = (H161.1 1826 8) := hx181f.2.2 8 (by decide)
                exact (n_function_cut hd h0 hw hst hP hw0 hR hmf hq htk _) _ fz (ht173k : Int) hf183 (by omega : (H.1 1826 30) ≤ (H181.1 1826 30) ∧ (H181.1 1826 30) ≤ (H.1 1826 29)) (by omega : 0 ≤ (H181.1 1826 35) ∧ (H181.1 1826 35) ≤ 5) (by omega : 0 ≤ (H181.1 1826 32) ∧ (H181.1 1826 32) ≤ 1000) ha184 (by omega : (fz : Int) = (H.1 1826 8) ∧ (H.1 1826 8) ≤ 15) (by omega : (H181.1 1826 8) = (H.1 1826 8) + 1) (by omega : -1 ≤ (ht173k : Int) ∧ (ht173k : Int) ≤ 6) (by omega : (H181.1 1826 35) = 0 → 0 ≤ (ht173k : Int) ∧ (ht173k : Int) < (H181.1 1826 1)) (fun _ => by rw [show (H181.1 1833) = up (H120.1 1833) fz 0 from (((hx181f.2.1 1833 (by decide) (by decide)).trans (hx161f.2.1 1833 (by decide) (by decide))).trans (hx151f.2.1 1833 (by decide) (by decide))), up_eq]; exact ⟨by omega, fun i hi => absurd hi (by omega)⟩) (GB_i hx181n (fun q => ⟨_, (fl_q hq5 hx8).1, q, (fl_q hq5 hx8).2.trans (by omega)⟩)) (Nat.lt_succ_self _)
              · replace ht173a : (H161.1 1826 31) ≠ 2 := ht173a
                refine h_run 0 (pc' := 130) (l' := [(0, .inr (.inr 1826)), (1, .inl (fz : Int))]) (st' := [.inl (-1)]) rfl ?_
                refine h_run 2 (pc' := 132) (l' := [(0, .inr (.inr 1826)), (1, .inl (fz : Int)), (2, .inl (-1))]) (st' := [.inr (.inr 1826)]) rfl ?_
                refine h_cv (i := 293) (j := 158) (b := 1826) (M' := mt_158) (xs := []) (rest := []) rfl rfl rfl rfl rfl rfl (Nat.le_of_ble_eq_true rfl) (Nat.le_of_ble_eq_true rfl) (by omega) (m_good0 (by omega) (by omega : (2 : Int) ≠ 0)) ?_
                rintro _ _ ⟨rfl, rfl⟩
                refine h_run 0 (pc' := 135) (l' := [(0, .inr (.inr 1826)), (1, .inl (fz : Int)), (2, .inl (-1))]) (st' := [.inl 0]) rfl ?_
                refine h_zeq (off := 7) (t := 142) rfl rfl (by decide) (fun _ => ?_) (fun c => absurd c (by decide))
                have g200 : -2147483648 ≤ (H161.1 1826 30) ∧ (H161.1 1826 30) ≤ 2147483647 := hrg163.1 1826 13 30 _ .int rfl rfl
                have g201 : -2147483648 ≤ (H161.1 1826 32) ∧ (H161.1 1826 32) ≤ 2147483647 := hrg163.1 1826 13 32 _ .int rfl rfl
                have g202 : -2147483648 ≤ (H161.1 1826 3) ∧ (H161.1 1826 3) ≤ 2147483647 := hrg163.1 1826 13 3 _ .int rfl rfl
                have e203 : (H161.1 1826 3) = (H151.1 1826 3) := hx161f.2.2 3 (by decide)
                have e204 : (H151.1 1826 3) = (H120.1 1826 3) := hx151f.2.2 3 (by decide)
                have e205 : (H120.1 1826 3) = (H.1 1826 3) := hx120f.2.2 3 (by decide)
                have g206 : -2147483648 ≤ (H161.1 1826 29) ∧ (H161.1 1826 29) ≤ 2147483647 := hrg163.1 1826 13 29 _ .int rfl rfl
                have e207 : (H161.1 1826 29) = (H151.1 1826 29) := hx161f.2.2 29 (by decide)
                have g208 : -2147483648 ≤ (H161.1 1826 8) ∧ (H161.1 1826 8) ≤ 2147483647 := hrg163.1 1826 13 8 _ .int rfl rfl
                have e209 : (H161.1 1826 8) = (H151.1 1826 8) := hx161f.2.2 8 (by decide)
                have e210 : (H151.1 1826 8) = ((H120.1 1826 8) + 1) := hx151f.2.2 8 (by decide)
                exact (n_function_cut hd h0 hw hst hP hw0 hR hmf hq htk _) _ fz (-1 : Int) (fr_o (fr_o hf164 (by decide)) (by decide)) (by omega : (H.1 1826 30) ≤ (H161.1 1826 30) ∧ (H161.1 1826 30) ≤ (H.1 1826 29)) (by omega : 0 ≤ (2 : Int) ∧ (2 : Int) ≤ 5) (by omega : 0 ≤ (H161.1 1826 32) ∧ (H161.1 1826 32) ≤ 1000) (agp_o (agp_o ha165 (by decide)) (by decide)) (by omega : (fz : Int) = (H.1 1826 8) ∧ (H.1 1826 8) ≤ 15) (by omega : (H161.1 1826 8) = (H.1 1826 8) + 1) (by omega : -1 ≤ (-1 : Int) ∧ (-1 : Int) ≤ 6) (by omega : (2 : Int) = 0 → 0 ≤ (-1 : Int) ∧ (-1 : Int) < (H161.1 1826 1)) (fun (q : (2 : Int) = 0) => absurd q (by omega)) (Or.inr ⟨(by omega : (2 : Int) ≠ 0), (BD_mk hR4 (fr_o (fr_o (fr_rf [35, 36] [] H161) (by decide)) (by decide)) (by decide) (by decide) (by decide : (2 : Int) ≠ 0) rfl rfl (rch_st hq4 (by show (if tk Y (xi X4) ≠ 3 then miss Y X4 else if tfd Y X4 < 0 then fl Y X4 3 else _) = _; (try unfold miss); (repeat (first | rw [if_pos (by omega)] | rw [if_neg (by omega)])); try (first | rfl | (exfalso; omega)))))⟩) (Nat.lt_succ_self _)
              · replace ht173a : (H161.1 1826 31) = 2 := ht173a
                refine h_run 0 (pc' := 130) (l' := [(0, .inr (.inr 1826)), (1, .inl (fz : Int))]) (st' := [.inl (-1)]) rfl ?_
                refine h_run 2 (pc' := 132) (l' := [(0, .inr (.inr 1826)), (1, .inl (fz : Int)), (2, .inl (-1))]) (st' := [.inr (.inr 1826)]) rfl ?_
                refine h_cv (i := 293) (j := 158) (b := 1826) (M' := mt_158) (xs := []) (rest := []) rfl rfl rfl rfl rfl rfl (Nat.le_of_ble_eq_true rfl) (Nat.le_of_ble_eq_true rfl) (by omega) (m_good0 (by omega) (by omega : (3 : Int) ≠ 0)) ?_
                rintro _ _ ⟨rfl, rfl⟩
                refine h_run 0 (pc' := 135) (l' := [(0, .inr (.inr 1826)), (1, .inl (fz : Int)), (2, .inl (-1))]) (st' := [.inl 0]) rfl ?_
                refine h_zeq (off := 7) (t := 142) rfl rfl (by decide) (fun _ => ?_) (fun c => absurd c (by decide))
                have g211 : -2147483648 ≤ (H161.1 1826 30) ∧ (H161.1 1826 30) ≤ 2147483647 := hrg163.1 1826 13 30 _ .int rfl rfl
                have g212 : -2147483648 ≤ (H161.1 1826 32) ∧ (H161.1 1826 32) ≤ 2147483647 := hrg163.1 1826 13 32 _ .int rfl rfl
                have g213 : -2147483648 ≤ (H161.1 1826 3) ∧ (H161.1 1826 3) ≤ 2147483647 := hrg163.1 1826 13 3 _ .int rfl rfl
                have e214 : (H161.1 1826 3) = (H151.1 1826 3) := hx161f.2.2 3 (by decide)
                have e215 : (H151.1 1826 3) = (H120.1 1826 3) := hx151f.2.2 3 (by decide)
                have e216 : (H120.1 1826 3) = (H.1 1826 3) := hx120f.2.2 3 (by decide)
                have g217 : -2147483648 ≤ (H161.1 1826 29) ∧ (H161.1 1826 29) ≤ 2147483647 := hrg163.1 1826 13 29 _ .int rfl rfl
                have e218 : (H161.1 1826 29) = (H151.1 1826 29) := hx161f.2.2 29 (by decide)
                have g219 : -2147483648 ≤ (H161.1 1826 8) ∧ (H161.1 1826 8) ≤ 2147483647 := hrg163.1 1826 13 8 _ .int rfl rfl
                have e220 : (H161.1 1826 8) = (H151.1 1826 8) := hx161f.2.2 8 (by decide)
                have e221 : (H151.1 1826 8) = ((H120.1 1826 8) + 1) := hx151f.2.2 8 (by decide)
                exact (n_function_cut hd h0 hw hst hP hw0 hR hmf hq htk _) _ fz (-1 : Int) (fr_o (fr_o hf164 (by decide)) (by decide)) (by omega : (H.1 1826 30) ≤ (H161.1 1826 30) ∧ (H161.1 1826 30) ≤ (H.1 1826 29)) (by omega : 0 ≤ (3 : Int) ∧ (3 : Int) ≤ 5) (by omega : 0 ≤ (H161.1 1826 32) ∧ (H161.1 1826 32) ≤ 1000) (agp_o (agp_o ha165 (by decide)) (by decide)) (by omega : (fz : Int) = (H.1 1826 8) ∧ (H.1 1826 8) ≤ 15) (by omega : (H161.1 1826 8) = (H.1 1826 8) + 1) (by omega : -1 ≤ (-1 : Int) ∧ (-1 : Int) ≤ 6) (by omega : (3 : Int) = 0 → 0 ≤ (-1 : Int) ∧ (-1 : Int) < (H161.1 1826 1)) (fun (q : (3 : Int) = 0) => absurd q (by omega)) (Or.inr ⟨(by omega : (3 : Int) ≠ 0), (BD_mk hR4 (fr_o (fr_o (fr_rf [35, 36] [] H161) (by decide)) (by decide)) (by decide) (by decide) (by decide : (3 : Int) ≠ 0) rfl rfl (rch_st hq4 (by show (if tk Y (xi X4) ≠ 3 then miss Y X4 else if tfd Y X4 < 0 then fl Y X4 3 else _) = _; (try unfold miss); (repeat (first | rw [if_pos (by omega)] | rw [if_neg (by omega)])); try (first | rfl | (exfalso; omega)))))⟩) (Nat.lt_succ_self _)
            · refine h_cv (i := 322) (j := 172) (b := 1826) (M' := mt_172) (xs := []) (rest := []) rfl rfl rfl rfl rfl rfl (Nat.le_of_ble_eq_true rfl) (Nat.le_of_ble_eq_true rfl) (by omega) (n_type0 (by omega) (by omega : (H161.1 1826 35) ≠ 0)) ?_
              rintro _ _ ⟨rfl, rfl⟩
              refine h_run 0 (pc' := 130) (l' := [(0, .inr (.inr 1826)), (1, .inl (fz : Int))]) (st' := [.inl (-1)]) rfl ?_
              refine h_run 2 (pc' := 132) (l' := [(0, .inr (.inr 1826)), (1, .inl (fz : Int)), (2, .inl (-1))]) (st' := [.inr (.inr 1826)]) rfl ?_
              refine h_cv (i := 293) (j := 158) (b := 1826) (M' := mt_158) (xs := []) (rest := []) rfl rfl rfl rfl rfl rfl (Nat.le_of_ble_eq_true rfl) (Nat.le_of_ble_eq_true rfl) (by omega) (m_good0 (by omega) (by omega : (H161.1 1826 35) ≠ 0)) ?_
              rintro _ _ ⟨rfl, rfl⟩
              refine h_run 0 (pc' := 135) (l' := [(0, .inr (.inr 1826)), (1, .inl (fz : Int)), (2, .inl (-1))]) (st' := [.inl 0]) rfl ?_
              refine h_zeq (off := 7) (t := 142) rfl rfl (by decide) (fun _ => ?_) (fun c => absurd c (by decide))
              have g222 : -2147483648 ≤ (H161.1 1826 30) ∧ (H161.1 1826 30) ≤ 2147483647 := hrg163.1 1826 13 30 _ .int rfl rfl
              have g223 : -2147483648 ≤ (H161.1 1826 32) ∧ (H161.1 1826 32) ≤ 2147483647 := hrg163.1 1826 13 32 _ .int rfl rfl
              have g224 : -2147483648 ≤ (H161.1 1826 31) ∧ (H161.1 1826 31) ≤ 2147483647 := hrg163.1 1826 13 31 _ .int rfl rfl
              have g225 : -2147483648 ≤ (H161.1 1826 3) ∧ (H161.1 1826 3) ≤ 2147483647 := hrg163.1 1826 13 3 _ .int rfl rfl
              have e226 : (H161.1 1826 3) = (H151.1 1826 3) := hx161f.2.2 3 (by decide)
              have e227 : (H151.1 1826 3) = (H120.1 1826 3) := hx151f.2.2 3 (by decide)
              have e228 : (H120.1 1826 3) = (H.1 1826 3) := hx120f.2.2 3 (by decide)
              have g229 : -2147483648 ≤ (H161.1 1826 29) ∧ (H161.1 1826 29) ≤ 2147483647 := hrg163.1 1826 13 29 _ .int rfl rfl
              have e230 : (H161.1 1826 29) = (H151.1 1826 29) := hx161f.2.2 29 (by decide)
              have g231 : -2147483648 ≤ (H161.1 1826 1) ∧ (H161.1 1826 1) ≤ 2147483647 := hrg163.1 1826 13 1 _ .int rfl rfl
              have e232 : (H161.1 1826 1) = (H151.1 1826 1) := hx161f.2.2 1 (by decide)
              have e233 : (H151.1 1826 1) = (H120.1 1826 1) := hx151f.2.2 1 (by decide)
              have e234 : (H120.1 1826 1) = (H.1 1826 1) := hx120f.2.2 1 (by decide)
              have g235 : -2147483648 ≤ (H161.1 1826 8) ∧ (H161.1 1826 8) ≤ 2147483647 := hrg163.1 1826 13 8 _ .int rfl rfl
              have e236 : (H161.1 1826 8) = (H151.1 1826 8) := hx161f.2.2 8 (by decide)
              have e237 : (H151.1 1826 8) = ((H120.1 1826 8) + 1) := hx151f.2.2 8 (by decide)
              exact (n_function_cut hd h0 hw hst hP hw0 hR hmf hq htk _) _ fz (-1 : Int) hf164 (by omega : (H.1 1826 30) ≤ (H161.1 1826 30) ∧ (H161.1 1826 30) ≤ (H.1 1826 29)) (by omega : 0 ≤ (H161.1 1826 35) ∧ (H161.1 1826 35) ≤ 5) (by omega : 0 ≤ (H161.1 1826 32) ∧ (H161.1 1826 32) ≤ 1000) ha165 (by omega : (fz : Int) = (H.1 1826 8) ∧ (H.1 1826 8) ≤ 15) (by omega : (H161.1 1826 8) = (H.1 1826 8) + 1) (by omega : -1 ≤ (-1 : Int) ∧ (-1 : Int) ≤ 6) (by omega : (H161.1 1826 35) = 0 → 0 ≤ (-1 : Int) ∧ (-1 : Int) < (H161.1 1826 1)) (fun (q : (H161.1 1826 35) = 0) => absurd q (by omega)) (Or.inr ⟨(by omega : (H161.1 1826 35) ≠ 0), GB_b hx161n (by omega)⟩) (Nat.lt_succ_self _)
          · refine h_cv (i := 313) (j := 166) (b := 1826) (M' := mt_166) (xs := [.inl 58]) (rest := []) rfl rfl rfl rfl rfl rfl (Nat.le_of_ble_eq_true rfl) (Nat.le_of_ble_eq_true rfl) (by omega) (n_want0 (by omega) (by omega : (H151.1 1826 35) ≠ 0)) ?_
            rintro _ _ ⟨rfl, rfl⟩
            refine h_run 0 (pc' := 126) (l' := [(0, .inr (.inr 1826)), (1, .inl (fz : Int))]) (st' := []) rfl ?_
            refine h_run 1 (pc' := 127) (l' := [(0, .inr (.inr 1826)), (1, .inl (fz : Int))]) (st' := [.inr (.inr 1826)]) rfl ?_
            refine h_cv (i := 322) (j := 172) (b := 1826) (M' := mt_172) (xs := []) (rest := []) rfl rfl rfl rfl rfl rfl (Nat.le_of_ble_eq_true rfl) (Nat.le_of_ble_eq_true rfl) (by omega) (n_type0 (by omega) (by omega : (H151.1 1826 35) ≠ 0)) ?_
            rintro _ _ ⟨rfl, rfl⟩
            refine h_run 0 (pc' := 130) (l' := [(0, .inr (.inr 1826)), (1, .inl (fz : Int))]) (st' := [.inl (-1)]) rfl ?_
            refine h_run 2 (pc' := 132) (l' := [(0, .inr (.inr 1826)), (1, .inl (fz : Int)), (2, .inl (-1))]) (st' := [.inr (.inr 1826)]) rfl ?_
            refine h_cv (i := 293) (j := 158) (b := 1826) (M' := mt_158) (xs := []) (rest := []) rfl rfl rfl rfl rfl rfl (Nat.le_of_ble_eq_true rfl) (Nat.le_of_ble_eq_true rfl) (by omega) (m_good0 (by omega) (by omega : (H151.1 1826 35) ≠ 0)) ?_
            rintro _ _ ⟨rfl, rfl⟩
            refine h_run 0 (pc' := 135) (l' := [(0, .inr (.inr 1826)), (1, .inl (fz : Int)), (2, .inl (-1))]) (st' := [.inl 0]) rfl ?_
            refine h_zeq (off := 7) (t := 142) rfl rfl (by decide) (fun _ => ?_) (fun c => absurd c (by decide))
            have g238 : -2147483648 ≤ (H151.1 1826 30) ∧ (H151.1 1826 30) ≤ 2147483647 := hrg152.1 1826 13 30 _ .int rfl rfl
            have g239 : -2147483648 ≤ (H151.1 1826 32) ∧ (H151.1 1826 32) ≤ 2147483647 := hrg152.1 1826 13 32 _ .int rfl rfl
            have g240 : -2147483648 ≤ (H151.1 1826 31) ∧ (H151.1 1826 31) ≤ 2147483647 := hrg152.1 1826 13 31 _ .int rfl rfl
            have g241 : -2147483648 ≤ (H151.1 1826 3) ∧ (H151.1 1826 3) ≤ 2147483647 := hrg152.1 1826 13 3 _ .int rfl rfl
            have e242 : (H151.1 1826 3) = (H120.1 1826 3) := hx151f.2.2 3 (by decide)
            have e243 : (H120.1 1826 3) = (H.1 1826 3) := hx120f.2.2 3 (by decide)
            have g244 : -2147483648 ≤ (H151.1 1826 29) ∧ (H151.1 1826 29) ≤ 2147483647 := hrg152.1 1826 13 29 _ .int rfl rfl
            have e245 : (H151.1 1826 29) = (H120.1 1826 29) := hx151f.2.2 29 (by decide)
            have g246 : -2147483648 ≤ (H151.1 1826 1) ∧ (H151.1 1826 1) ≤ 2147483647 := hrg152.1 1826 13 1 _ .int rfl rfl
            have e247 : (H151.1 1826 1) = (H120.1 1826 1) := hx151f.2.2 1 (by decide)
            have e248 : (H120.1 1826 1) = (H.1 1826 1) := hx120f.2.2 1 (by decide)
            have g249 : -2147483648 ≤ (H151.1 1826 8) ∧ (H151.1 1826 8) ≤ 2147483647 := hrg152.1 1826 13 8 _ .int rfl rfl
            have e250 : (H151.1 1826 8) = ((H120.1 1826 8) + 1) := hx151f.2.2 8 (by decide)
            exact (n_function_cut hd h0 hw hst hP hw0 hR hmf hq htk _) _ fz (-1 : Int) hf153 (by omega : (H.1 1826 30) ≤ (H151.1 1826 30) ∧ (H151.1 1826 30) ≤ (H.1 1826 29)) (by omega : 0 ≤ (H151.1 1826 35) ∧ (H151.1 1826 35) ≤ 5) (by omega : 0 ≤ (H151.1 1826 32) ∧ (H151.1 1826 32) ≤ 1000) ha154 (by omega : (fz : Int) = (H.1 1826 8) ∧ (H.1 1826 8) ≤ 15) (by omega : (H151.1 1826 8) = (H.1 1826 8) + 1) (by omega : -1 ≤ (-1 : Int) ∧ (-1 : Int) ≤ 6) (by omega : (H151.1 1826 35) = 0 → 0 ≤ (-1 : Int) ∧ (-1 : Int) < (H151.1 1826 1)) (fun (q : (H151.1 1826 35) = 0) => absurd q (by omega)) (Or.inr ⟨(by omega : (H151.1 1826 35) ≠ 0), GB_b hx151n (by omega)⟩) (Nat.lt_succ_self _)
        · refine h_run 2 (pc' := 73) (l' := [(0, .inr (.inr 1826))]) (st' := [.inl 5, .inr (.inr 1826)]) rfl ?_
          refine h_cv (i := 278) (j := 159) (b := 1826) (M' := mt_159) (xs := [.inl 5]) (rest := []) rfl rfl rfl rfl rfl rfl (Nat.le_of_ble_eq_true rfl) (Nat.le_of_ble_eq_true rfl) (by omega) (m_bad0 (by omega) (by omega) (by omega : (H120.1 1826 35) = 0)) ?_
          rintro _ _ ⟨rfl, rfl⟩
          refine h_run 0 (pc' := 76) (l' := [(0, .inr (.inr 1826))]) (st' := []) rfl ?_
          refine h_run 1 (pc' := 77) (l' := [(0, .inr (.inr 1826))]) (st' := [.inr (.inr 1826)]) rfl ?_
          refine h_cv (i := 293) (j := 158) (b := 1826) (M' := mt_158) (xs := []) (rest := []) rfl rfl rfl rfl rfl rfl (Nat.le_of_ble_eq_true rfl) (Nat.le_of_ble_eq_true rfl) (by omega) (m_good0 (by omega) (by omega : (5 : Int) ≠ 0)) ?_
          rintro _ _ ⟨rfl, rfl⟩
          refine h_run 0 (pc' := 80) (l' := [(0, .inr (.inr 1826))]) (st' := [.inl 0]) rfl ?_
          refine h_zne (off := 4) (t := 84) rfl rfl (by decide) (fun c => absurd c (by decide)) (fun _ => ?_)
          refine h_ret rfl rfl ?_
          have g251 : -2147483648 ≤ (H120.1 1826 30) ∧ (H120.1 1826 30) ≤ 2147483647 := hrg121.1 1826 13 30 _ .int rfl rfl
          have g252 : -2147483648 ≤ (H120.1 1826 32) ∧ (H120.1 1826 32) ≤ 2147483647 := hrg121.1 1826 13 32 _ .int rfl rfl
          have g253 : -2147483648 ≤ (H120.1 1826 29) ∧ (H120.1 1826 29) ≤ 2147483647 := hrg121.1 1826 13 29 _ .int rfl rfl
          have e254 : (H120.1 1826 29) = (H.1 1826 29) := hx120f.2.2 29 (by decide)
          have g255 : -2147483648 ≤ (H120.1 1826 1) ∧ (H120.1 1826 1) ≤ 2147483647 := hrg121.1 1826 13 1 _ .int rfl rfl
          have e256 : (H120.1 1826 1) = (H.1 1826 1) := hx120f.2.2 1 (by decide)
          have g257 : -2147483648 ≤ (H120.1 1826 3) ∧ (H120.1 1826 3) ≤ 2147483647 := hrg121.1 1826 13 3 _ .int rfl rfl
          have e258 : (H120.1 1826 3) = (H.1 1826 3) := hx120f.2.2 3 (by decide)
          have g259 : -2147483648 ≤ (H120.1 1826 13) ∧ (H120.1 1826 13) ≤ 2147483647 := hrg121.1 1826 13 13 _ .int rfl rfl
          have e260 : (H120.1 1826 13) = (H.1 1826 13) := hx120f.2.2 13 (by decide)
          have g261 : -2147483648 ≤ (H120.1 1826 19) ∧ (H120.1 1826 19) ≤ 2147483647 := hrg121.1 1826 13 19 _ .int rfl rfl
          have e262 : (H120.1 1826 19) = (H.1 1826 19) := hx120f.2.2 19 (by decide)
          exact ⟨rfl, (Or.inr ⟨(by omega : (5 : Int) ≠ 0), (BD_mk hR1 (fr_o (fr_o (fr_rf [35, 36] [] H120) (by decide)) (by decide)) (by decide) (by decide) (by decide : (5 : Int) ≠ 0) rfl rfl (rch_st hq (by show stDec Y nn K X = _; unfold stDec miss; (repeat (first | rw [if_pos (by omega)] | rw [if_neg (by omega)])); try (first | rfl | (exfalso; omega)))))⟩), (fr_o (fr_o hf122 (by decide)) (by decide)), (by omega : (H.1 1826 30) ≤ (H120.1 1826 30) ∧ (H120.1 1826 30) ≤ (H.1 1826 29)), (by omega : 0 ≤ (5 : Int) ∧ (5 : Int) ≤ 5), (by omega : (H.1 1826 35) ≠ 0 → (5 : Int) ≠ 0), (by omega : 0 ≤ (H120.1 1826 32) ∧ (H120.1 1826 32) ≤ 1000), (agp_o (agp_o ha123 (by decide)) (by decide)), (fun (q : (5 : Int) = 0) => absurd q (by omega))⟩
    · refine h_run 2 (pc' := 21) (l' := [(0, .inr (.inr 1826))]) (st' := [.inl 2, .inr (.inr 1826)]) rfl ?_
      refine h_cv (i := 278) (j := 159) (b := 1826) (M' := mt_159) (xs := [.inl 2]) (rest := []) rfl rfl rfl rfl rfl rfl (Nat.le_of_ble_eq_true rfl) (Nat.le_of_ble_eq_true rfl) (by omega) (m_bad0 (by omega) (by omega) (by omega : (H120.1 1826 35) = 0)) ?_
      rintro _ _ ⟨rfl, rfl⟩
      refine h_run 0 (pc' := 24) (l' := [(0, .inr (.inr 1826))]) (st' := []) rfl ?_
      refine h_run 1 (pc' := 25) (l' := [(0, .inr (.inr 1826))]) (st' := [.inr (.inr 1826)]) rfl ?_
      refine h_cv (i := 293) (j := 158) (b := 1826) (M' := mt_158) (xs := []) (rest := []) rfl rfl rfl rfl rfl rfl (Nat.le_of_ble_eq_true rfl) (Nat.le_of_ble_eq_true rfl) (by omega) (m_good0 (by omega) (by omega : (2 : Int) ≠ 0)) ?_
      rintro _ _ ⟨rfl, rfl⟩
      refine h_run 0 (pc' := 28) (l' := [(0, .inr (.inr 1826))]) (st' := [.inl 0]) rfl ?_
      refine h_zeq (off := 27) (t := 55) rfl rfl (by decide) (fun _ => ?_) (fun c => absurd c (by decide))
      refine h_run 1 (pc' := 56) (l' := [(0, .inr (.inr 1826))]) (st' := [.inr (.inr 1826)]) rfl ?_
      refine h_cv (i := 293) (j := 158) (b := 1826) (M' := mt_158) (xs := []) (rest := []) rfl rfl rfl rfl rfl rfl (Nat.le_of_ble_eq_true rfl) (Nat.le_of_ble_eq_true rfl) (by omega) (m_good0 (by omega) (by omega : (2 : Int) ≠ 0)) ?_
      rintro _ _ ⟨rfl, rfl⟩
      refine h_run 0 (pc' := 59) (l' := [(0, .inr (.inr 1826))]) (st' := [.inl 0]) rfl ?_
      refine h_zeq (off := 17) (t := 76) rfl rfl (by decide) (fun _ => ?_) (fun c => absurd c (by decide))
      refine h_run 1 (pc' := 77) (l' := [(0, .inr (.inr 1826))]) (st' := [.inr (.inr 1826)]) rfl ?_
      refine h_cv (i := 293) (j := 158) (b := 1826) (M' := mt_158) (xs := []) (rest := []) rfl rfl rfl rfl rfl rfl (Nat.le_of_ble_eq_true rfl) (Nat.le_of_ble_eq_true rfl) (by omega) (m_good0 (by omega) (by omega : (2 : Int) ≠ 0)) ?_
      rintro _ _ ⟨rfl, rfl⟩
      refine h_run 0 (pc' := 80) (l' := [(0, .inr (.inr 1826))]) (st' := [.inl 0]) rfl ?_
      refine h_zne (off := 4) (t := 84) rfl rfl (by decide) (fun c => absurd c (by decide)) (fun _ => ?_)
      refine h_ret rfl rfl ?_
      have g263 : -2147483648 ≤ (H120.1 1826 30) ∧ (H120.1 1826 30) ≤ 2147483647 := hrg121.1 1826 13 30 _ .int rfl rfl
      have g264 : -2147483648 ≤ (H120.1 1826 32) ∧ (H120.1 1826 32) ≤ 2147483647 := hrg121.1 1826 13 32 _ .int rfl rfl
      have g265 : -2147483648 ≤ (H120.1 1826 29) ∧ (H120.1 1826 29) ≤ 2147483647 := hrg121.1 1826 13 29 _ .int rfl rfl
      have e266 : (H120.1 1826 29) = (H.1 1826 29) := hx120f.2.2 29 (by decide)
      have g267 : -2147483648 ≤ (H120.1 1826 1) ∧ (H120.1 1826 1) ≤ 2147483647 := hrg121.1 1826 13 1 _ .int rfl rfl
      have e268 : (H120.1 1826 1) = (H.1 1826 1) := hx120f.2.2 1 (by decide)
      have g269 : -2147483648 ≤ (H120.1 1826 3) ∧ (H120.1 1826 3) ≤ 2147483647 := hrg121.1 1826 13 3 _ .int rfl rfl
      have e270 : (H120.1 1826 3) = (H.1 1826 3) := hx120f.2.2 3 (by decide)
      have g271 : -2147483648 ≤ (H120.1 1826 8) ∧ (H120.1 1826 8) ≤ 2147483647 := hrg121.1 1826 13 8 _ .int rfl rfl
      have e272 : (H120.1 1826 8) = (H.1 1826 8) := hx120f.2.2 8 (by decide)
      have g273 : -2147483648 ≤ (H120.1 1826 13) ∧ (H120.1 1826 13) ≤ 2147483647 := hrg121.1 1826 13 13 _ .int rfl rfl
      have e274 : (H120.1 1826 13) = (H.1 1826 13) := hx120f.2.2 13 (by decide)
      have g275 : -2147483648 ≤ (H120.1 1826 19) ∧ (H120.1 1826 19) ≤ 2147483647 := hrg121.1 1826 13 19 _ .int rfl rfl
      have e276 : (H120.1 1826 19) = (H.1 1826 19) := hx120f.2.2 19 (by decide)
      exact ⟨rfl, (Or.inr ⟨(by omega : (2 : Int) ≠ 0), (BD_mk hR1 (fr_o (fr_o (fr_rf [35, 36] [] H120) (by decide)) (by decide)) (by decide) (by decide) (by decide : (2 : Int) ≠ 0) rfl rfl (rch_st hq (by show stDec Y nn K X = _; unfold stDec miss; (repeat (first | rw [if_pos (by omega)] | rw [if_neg (by omega)])); try (first | rfl | (exfalso; omega)))))⟩), (fr_o (fr_o hf122 (by decide)) (by decide)), (by omega : (H.1 1826 30) ≤ (H120.1 1826 30) ∧ (H120.1 1826 30) ≤ (H.1 1826 29)), (by omega : 0 ≤ (2 : Int) ∧ (2 : Int) ≤ 5), (by omega : (H.1 1826 35) ≠ 0 → (2 : Int) ≠ 0), (by omega : 0 ≤ (H120.1 1826 32) ∧ (H120.1 1826 32) ≤ 1000), (agp_o (agp_o ha123 (by decide)) (by decide)), (fun (q : (2 : Int) = 0) => absurd q (by omega))⟩
  · have b125x : (H120.1 1826 35) ≠ 0 := b125
    clear hx120g
    refine h_run 0 (pc' := 8) (l' := [(0, .inr (.inr 1826))]) (st' := [.inl 0]) rfl ?_
    refine h_zeq (off := 16) (t := 24) rfl rfl (by decide) (fun _ => ?_) (fun c => absurd c (by decide))
    refine h_run 1 (pc' := 25) (l' := [(0, .inr (.inr 1826))]) (st' := [.inr (.inr 1826)]) rfl ?_
    refine h_cv (i := 293) (j := 158) (b := 1826) (M' := mt_158) (xs := []) (rest := []) rfl rfl rfl rfl rfl rfl (Nat.le_of_ble_eq_true rfl) (Nat.le_of_ble_eq_true rfl) (by omega) (m_good0 (by omega) (by omega : (H120.1 1826 35) ≠ 0)) ?_
    rintro _ _ ⟨rfl, rfl⟩
    refine h_run 0 (pc' := 28) (l' := [(0, .inr (.inr 1826))]) (st' := [.inl 0]) rfl ?_
    refine h_zeq (off := 27) (t := 55) rfl rfl (by decide) (fun _ => ?_) (fun c => absurd c (by decide))
    refine h_run 1 (pc' := 56) (l' := [(0, .inr (.inr 1826))]) (st' := [.inr (.inr 1826)]) rfl ?_
    refine h_cv (i := 293) (j := 158) (b := 1826) (M' := mt_158) (xs := []) (rest := []) rfl rfl rfl rfl rfl rfl (Nat.le_of_ble_eq_true rfl) (Nat.le_of_ble_eq_true rfl) (by omega) (m_good0 (by omega) (by omega : (H120.1 1826 35) ≠ 0)) ?_
    rintro _ _ ⟨rfl, rfl⟩
    refine h_run 0 (pc' := 59) (l' := [(0, .inr (.inr 1826))]) (st' := [.inl 0]) rfl ?_
    refine h_zeq (off := 17) (t := 76) rfl rfl (by decide) (fun _ => ?_) (fun c => absurd c (by decide))
    refine h_run 1 (pc' := 77) (l' := [(0, .inr (.inr 1826))]) (st' := [.inr (.inr 1826)]) rfl ?_
    refine h_cv (i := 293) (j := 158) (b := 1826) (M' := mt_158) (xs := []) (rest := []) rfl rfl rfl rfl rfl rfl (Nat.le_of_ble_eq_true rfl) (Nat.le_of_ble_eq_true rfl) (by omega) (m_good0 (by omega) (by omega : (H120.1 1826 35) ≠ 0)) ?_
    rintro _ _ ⟨rfl, rfl⟩
    refine h_run 0 (pc' := 80) (l' := [(0, .inr (.inr 1826))]) (st' := [.inl 0]) rfl ?_
    refine h_zne (off := 4) (t := 84) rfl rfl (by decide) (fun c => absurd c (by decide)) (fun _ => ?_)
    refine h_ret rfl rfl ?_
    have g277 : -2147483648 ≤ (H120.1 1826 30) ∧ (H120.1 1826 30) ≤ 2147483647 := hrg121.1 1826 13 30 _ .int rfl rfl
    have g278 : -2147483648 ≤ (H120.1 1826 32) ∧ (H120.1 1826 32) ≤ 2147483647 := hrg121.1 1826 13 32 _ .int rfl rfl
    have g279 : -2147483648 ≤ (H120.1 1826 29) ∧ (H120.1 1826 29) ≤ 2147483647 := hrg121.1 1826 13 29 _ .int rfl rfl
    have e280 : (H120.1 1826 29) = (H.1 1826 29) := hx120f.2.2 29 (by decide)
    have g281 : -2147483648 ≤ (H120.1 1826 1) ∧ (H120.1 1826 1) ≤ 2147483647 := hrg121.1 1826 13 1 _ .int rfl rfl
    have e282 : (H120.1 1826 1) = (H.1 1826 1) := hx120f.2.2 1 (by decide)
    have g283 : -2147483648 ≤ (H120.1 1826 3) ∧ (H120.1 1826 3) ≤ 2147483647 := hrg121.1 1826 13 3 _ .int rfl rfl
    have e284 : (H120.1 1826 3) = (H.1 1826 3) := hx120f.2.2 3 (by decide)
    have g285 : -2147483648 ≤ (H120.1 1826 8) ∧ (H120.1 1826 8) ≤ 2147483647 := hrg121.1 1826 13 8 _ .int rfl rfl
    have e286 : (H120.1 1826 8) = (H.1 1826 8) := hx120f.2.2 8 (by decide)
    have g287 : -2147483648 ≤ (H120.1 1826 13) ∧ (H120.1 1826 13) ≤ 2147483647 := hrg121.1 1826 13 13 _ .int rfl rfl
    have e288 : (H120.1 1826 13) = (H.1 1826 13) := hx120f.2.2 13 (by decide)
    have g289 : -2147483648 ≤ (H120.1 1826 19) ∧ (H120.1 1826 19) ≤ 2147483647 := hrg121.1 1826 13 19 _ .int rfl rfl
    have e290 : (H120.1 1826 19) = (H.1 1826 19) := hx120f.2.2 19 (by decide)
    exact ⟨rfl, (Or.inr ⟨(by omega : (H120.1 1826 35) ≠ 0), GB_b hx120n (by omega)⟩), hf122, (by omega : (H.1 1826 30) ≤ (H120.1 1826 30) ∧ (H120.1 1826 30) ≤ (H.1 1826 29)), (by omega : 0 ≤ (H120.1 1826 35) ∧ (H120.1 1826 35) ≤ 5), (by omega : (H.1 1826 35) ≠ 0 → (H120.1 1826 35) ≠ 0), (by omega : 0 ≤ (H120.1 1826 32) ∧ (H120.1 1826 32) ≤ 1000), ha123, (fun (q : (H120.1 1826 35) = 0) => absurd q (by omega))⟩
