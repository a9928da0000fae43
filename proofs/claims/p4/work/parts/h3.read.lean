/-! the reference's reading against the machine: data, functions -/
def DL (Y : yx) (m : Int) (c0 : cf) (K : List tq) (t : Int) (H : hp) : Prop := GB Y m c0 H (∃ X : rx, rch Y c0 ((9, t, 0, 0) :: K, X) ∧ RK Y m H X)
def FL (Y : yx) (m : Int) (c0 : cf) (K : List tq) (c : Nat) (t : Int) (H : hp) : Prop := GB Y m c0 H (∃ X : rx, rch Y c0 ((11, (c : Int), X 8 c, 0) :: K, X) ∧ RK Y m H X ∧ X 7 c = t)
theorem adv_ne {X : rx} {c : Nat} (h : c ≠ 0) : adv X c = X c := xu_ne _ _ _ h
theorem fl_q {Y : yx} {c0 : cf} {K : List tq} {X : rx} {t b : Int} {c : Nat} (h : rch Y c0 ((11, (c : Int), b, 0) :: K, adv (xu X 7 c t))) (hb : X 8 c = b) : rch Y c0 ((11, (c : Int), adv (xu X 7 c t) 8 c, 0) :: K, adv (xu X 7 c t)) ∧ adv (xu X 7 c t) 7 c = t := by
  constructor
  · rw [adv_ne (by decide), xu_ne _ _ _ (by decide), hb]
    exact h
  · rw [adv_ne (by decide), xu_eq, up_eq]
theorem adv7_0 {X : rx} {c : Nat} {t : Int} : adv (xu X 7 c t) 0 0 = X 0 0 + 1 := by
  rw [adv_0, xu_ne _ _ _ (by decide)]
theorem xfar_8 {X : rx} {c : Nat} : xfar X c 8 c = X 8 c + 1 := by
  rw [(xfar_s X c).2.2, Int.toNat_natCast, up_eq]

/-! data -/
set_option maxRecDepth 100000 in
theorem n_data_cut {zC : Nat → Option zsh} {d : Nat} (hd : 6 ≤ d) {H : hp}  {Y : yx} {m : Int} {c0 : cf} {K : List tq} {X : rx} {nn : Int} (h0 : 0 ≤ (H.1 1826 30) ∧ (H.1 1826 30) ≤ (H.1 1826 29) ∧ (H.1 1826 29) ≤ 1000) (hw : 0 ≤ (H.1 1826 35) ∧ (H.1 1826 35) ≤ 5) (hst : 0 ≤ (H.1 1826 32) ∧ (H.1 1826 32) ≤ 1000) (hP : PWc H) (hw0 : (H.1 1826 35) = 0) (hR : RK Y m H X) (hq : rch Y c0 ((6, nn, 0, 0) :: K, X)) (htk : tk Y (xi X) = 4) : ∀ w : Nat, (∀ (H1 : hp), (fr [30, 31, 32, 33, 35, 36, 3, 1] [1828, 1829, 1830, 1831, 1827] H H1) → ((H.1 1826 30) ≤ (H1.1 1826 30) ∧ (H1.1 1826 30) ≤ (H.1 1826 29)) → (0 ≤ (H1.1 1826 35) ∧ (H1.1 1826 35) ≤ 5) → (0 ≤ (H1.1 1826 32) ∧ (H1.1 1826 32) ≤ 1000) → (agp H H1) → ((H1.1 1826 35) = 0 → PWc H1) → ((H1.1 1826 1) = X 0 3 + 1) → (0 ≤ X 0 3 ∧ X 0 3 ≤ 5) → (DL Y m c0 ((1, 59, 0, 0) :: (6, nn + 1, 0, 0) :: K) (X 0 3) H1) → mu (H1.1 1826 35) (H1.1 1826 31) (H1.1 1826 30) (H.1 1826 29) < w → hG (zs zC) d mt_170 121 [(0, .inr (.inr 1826))] [] H1 (fun r H2 => r = none ∧ GB Y m c0 H2 (∃ X2 : rx, rch Y c0 (((1, 59, 0, 0) :: (6, nn + 1, 0, 0) :: K), X2) ∧ RK Y m H2 X2) ∧ fr [30, 31, 32, 33, 35, 36, 3, 1] [1828, 1829, 1830, 1831, 1827] H H2 ∧ ((H.1 1826 30) ≤ (H2.1 1826 30) ∧ (H2.1 1826 30) ≤ (H.1 1826 29)) ∧ (0 ≤ (H2.1 1826 35) ∧ (H2.1 1826 35) ≤ 5) ∧ ((H.1 1826 35) ≠ 0 → (H2.1 1826 35) ≠ 0) ∧ (0 ≤ (H2.1 1826 32) ∧ (H2.1 1826 32) ≤ 1000) ∧ agp H H2 ∧ ((H2.1 1826 35) = 0 → PWc H2))) := by
  intro w
  induction w with
  | zero => exact fun _ _ _ _ _ _ _ _ _ _ h => absurd h (Nat.not_lt_zero _)
  | succ w ih =>
    intro H1 hf ha hk hst1 hag hP1 ht1 hx3 hDL hw
    refine h_rng (fun hrg1 => ?_)
    obtain ⟨⟨pb1, pb2, pb3, pb4, pb5⟩, pw1, pw2, pw3, pw4⟩ := (id hP : PW H (H.1 1826 1) (H.1 1826 3) (H.1 1826 8) (H.1 1826 13) (H.1 1826 19))
    refine h_run 1 (pc' := 122) (l' := [(0, .inr (.inr 1826))]) (st' := [.inr (.inr 1826)]) rfl ?_
    have g2 : -2147483648 ≤ (H1.1 1826 35) ∧ (H1.1 1826 35) ≤ 2147483647 := hrg1.1 1826 13 35 _ .int rfl rfl
    refine h_cv (i := 293) (j := 158) (b := 1826) (M' := mt_158) (xs := []) (rest := []) rfl rfl rfl rfl rfl rfl (Nat.le_of_ble_eq_true rfl) (Nat.le_of_ble_eq_true rfl) (by omega) (m_good (by omega)) ?_
    rintro _ _ ⟨⟨rfl, b3⟩ | ⟨rfl, b3⟩, rfl⟩
    · have b3x : (H1.1 1826 35) = 0 := b3
      refine h_run 0 (pc' := 125) (l' := [(0, .inr (.inr 1826))]) (st' := [.inl 1]) rfl ?_
      refine h_zeq (off := 23) (t := 148) rfl rfl (by decide) (fun c => absurd c (by decide)) (fun _ => ?_)
      refine h_run 2 (pc' := 132) (l' := [(0, .inr (.inr 1826))]) (st' := [.inl (H1.1 1826 31)]) rfl ?_
      have g4 : -2147483648 ≤ (H1.1 1826 31) ∧ (H1.1 1826 31) ≤ 2147483647 := hrg1.1 1826 13 31 _ .int rfl rfl
      refine h_run 1 (pc' := 134) (l' := [(0, .inr (.inr 1826))]) (st' := [.inl 124, .inl (H1.1 1826 31)]) rfl ?_
      refine h_ine (off := 14) (t := 148) rfl rfl (by omega) (by decide) (fun c5 => ?_) (fun c5 => ?_)
      · refine h_ret rfl rfl ?_
        have g6 : -2147483648 ≤ (H1.1 1826 30) ∧ (H1.1 1826 30) ≤ 2147483647 := hrg1.1 1826 13 30 _ .int rfl rfl
        have g7 : -2147483648 ≤ (H1.1 1826 32) ∧ (H1.1 1826 32) ≤ 2147483647 := hrg1.1 1826 13 32 _ .int rfl rfl
        have g8 : -2147483648 ≤ (H1.1 1826 29) ∧ (H1.1 1826 29) ≤ 2147483647 := hrg1.1 1826 13 29 _ .int rfl rfl
        have e9 : (H1.1 1826 29) = (H.1 1826 29) := hf.2.2 29 (by decide)
        have g10 : -2147483648 ≤ (H1.1 1826 1) ∧ (H1.1 1826 1) ≤ 2147483647 := hrg1.1 1826 13 1 _ .int rfl rfl
        have g11 : -2147483648 ≤ (H1.1 1826 3) ∧ (H1.1 1826 3) ≤ 2147483647 := hrg1.1 1826 13 3 _ .int rfl rfl
        have g12 : -2147483648 ≤ (H1.1 1826 8) ∧ (H1.1 1826 8) ≤ 2147483647 := hrg1.1 1826 13 8 _ .int rfl rfl
        have e13 : (H1.1 1826 8) = (H.1 1826 8) := hf.2.2 8 (by decide)
        have g14 : -2147483648 ≤ (H1.1 1826 13) ∧ (H1.1 1826 13) ≤ 2147483647 := hrg1.1 1826 13 13 _ .int rfl rfl
        have e15 : (H1.1 1826 13) = (H.1 1826 13) := hf.2.2 13 (by decide)
        have g16 : -2147483648 ≤ (H1.1 1826 19) ∧ (H1.1 1826 19) ≤ 2147483647 := hrg1.1 1826 13 19 _ .int rfl rfl
        have e17 : (H1.1 1826 19) = (H.1 1826 19) := hf.2.2 19 (by decide)
        exact ⟨rfl, (GB_i hDL (fun q => q.elim (fun X1 g => ⟨X1, rch_st g.1 (by have htk1 := RK_t g.2; show (if tk Y (xi X1) = 124 then _ else (((1, 59, 0, 0) :: (6, nn + 1, 0, 0) :: K), X1)) = _; (repeat (first | rw [if_pos (by omega)] | rw [if_neg (by omega)])); try rfl), g.2⟩))), hf, (by omega : (H.1 1826 30) ≤ (H1.1 1826 30) ∧ (H1.1 1826 30) ≤ (H.1 1826 29)), (by omega : 0 ≤ (H1.1 1826 35) ∧ (H1.1 1826 35) ≤ 5), (by omega : (H.1 1826 35) ≠ 0 → (H1.1 1826 35) ≠ 0), (by omega : 0 ≤ (H1.1 1826 32) ∧ (H1.1 1826 32) ≤ 1000), hag, hP1⟩
      · obtain ⟨X1, hq1, hR1⟩ := GB_g hDL (by omega)
        have htk1 := RK_t hR1
        have hq5 : rch Y c0 ((7, X 0 3, 0, 0) :: (9, X 0 3, 0, 0) :: ((1, 59, 0, 0) :: (6, nn + 1, 0, 0) :: K), adv X1) := rch_st hq1 (by show (if tk Y (xi X1) = 124 then _ else _) = _; (repeat (first | rw [if_pos (by omega)] | rw [if_neg (by omega)])); try rfl)
        refine h_run 1 (pc' := 138) (l' := [(0, .inr (.inr 1826))]) (st' := [.inr (.inr 1826)]) rfl ?_
        have g18 : -2147483648 ≤ (H1.1 1826 30) ∧ (H1.1 1826 30) ≤ 2147483647 := hrg1.1 1826 13 30 _ .int rfl rfl
        have g19 : -2147483648 ≤ (H1.1 1826 29) ∧ (H1.1 1826 29) ≤ 2147483647 := hrg1.1 1826 13 29 _ .int rfl rfl
        have e20 : (H1.1 1826 29) = (H.1 1826 29) := hf.2.2 29 (by decide)
        have g21 : -2147483648 ≤ (H1.1 1826 32) ∧ (H1.1 1826 32) ≤ 2147483647 := hrg1.1 1826 13 32 _ .int rfl rfl
        refine h_cv (i := 297) (j := 165) (b := 1826) (M' := mt_165) (xs := []) (rest := []) rfl rfl rfl rfl rfl rfl (Nat.le_of_ble_eq_true rfl) (Nat.le_of_ble_eq_true rfl) (by omega) (n_nx (by omega) (by omega : 0 ≤ (H1.1 1826 30) ∧ (H1.1 1826 30) ≤ (H1.1 1826 29) ∧ (H1.1 1826 29) ≤ 1000) (by omega : 0 ≤ (H1.1 1826 35) ∧ (H1.1 1826 35) ≤ 5) (by omega : 0 ≤ (H1.1 1826 32) ∧ (H1.1 1826 32) ≤ 1000) (by omega : (H1.1 1826 35) = 0) (X := (adv X1)) (RN_adv hR1 (fr_rf [] [] _) (by decide) (by decide)) hq5 (lk_n (by decide))) ?_
        rintro _ H22 ⟨rfl, hx22n, hx22f, hx22a, hx22b, hx22c, -, hx22e, hx22g⟩
        refine h_rng (fun hrg23 => ?_)
        have hf24 : fr [30, 31, 32, 33, 35, 36, 3, 1] [1828, 1829, 1830, 1831, 1827] H H22 := fr_t hf hx22f (by decide) (by decide)
        have ha25 : agp H H22 := agp_tr hag (agp_fr hx22f (by decide) (by decide))
        replace hx22a : (H1.1 1826 30) ≤ (H22.1 1826 30) := hx22a
        replace hx22b : (H22.1 1826 30) ≤ (H1.1 1826 29) := hx22b
        replace hx22g : (H22.1 1826 35) = 0 → ((H22.1 1826 31) = 0 ∨ (H1.1 1826 30) < (H22.1 1826 30)) := hx22g
        refine h_run 0 (pc' := 141) (l' := [(0, .inr (.inr 1826))]) (st' := []) rfl ?_
        refine h_run 1 (pc' := 142) (l' := [(0, .inr (.inr 1826))]) (st' := [.inr (.inr 1826)]) rfl ?_
        have g26 : -2147483648 ≤ (H22.1 1826 35) ∧ (H22.1 1826 35) ≤ 2147483647 := hrg23.1 1826 13 35 _ .int rfl rfl
        by_cases b27 : (H22.1 1826 35) = 0
        · have g28 : -2147483648 ≤ (H22.1 1826 30) ∧ (H22.1 1826 30) ≤ 2147483647 := hrg23.1 1826 13 30 _ .int rfl rfl
          have g29 : -2147483648 ≤ (H22.1 1826 29) ∧ (H22.1 1826 29) ≤ 2147483647 := hrg23.1 1826 13 29 _ .int rfl rfl
          have e30 : (H22.1 1826 29) = (H1.1 1826 29) := hx22f.2.2 29 (by decide)
          have g31 : -2147483648 ≤ (H22.1 1826 31) ∧ (H22.1 1826 31) ≤ 2147483647 := hrg23.1 1826 13 31 _ .int rfl rfl
          have g32 : -2147483648 ≤ (H22.1 1826 1) ∧ (H22.1 1826 1) ≤ 2147483647 := hrg23.1 1826 13 1 _ .int rfl rfl
          have e33 : (H22.1 1826 1) = (H1.1 1826 1) := hx22f.2.2 1 (by decide)
          have g35 : -2147483648 ≤ (H22.1 1826 32) ∧ (H22.1 1826 32) ≤ 2147483647 := hrg23.1 1826 13 32 _ .int rfl rfl
          refine h_cv (i := 316) (j := 171) (b := 1826) (M' := mt_171) (xs := []) (rest := []) rfl rfl rfl rfl rfl rfl (Nat.le_of_ble_eq_true rfl) (Nat.le_of_ble_eq_true rfl) (by omega) (n_constructor (by omega) (by omega : 0 ≤ (H22.1 1826 30) ∧ (H22.1 1826 30) ≤ (H22.1 1826 29) ∧ (H22.1 1826 29) ≤ 1000) (by omega : 0 ≤ (H22.1 1826 35) ∧ (H22.1 1826 35) ≤ 5) (by omega : 0 ≤ (H22.1 1826 32) ∧ (H22.1 1826 32) ≤ 1000) (PWc_fr (hP1 (by omega)) hx22f (by decide) (by decide)) (by omega : 1 ≤ (H22.1 1826 1)) (by omega : (H22.1 1826 35) = 0) (GB_g hx22n (by omega)) (by rw [show (H22.1 1826 1) - 1 = X 0 3 by omega]; exact hq5) (lk_c (lk_1 (by decide)) (by decide : (9 : Nat) ≠ 0) (fun q => absurd q (by decide : (9 : Nat) ≠ 1)))) ?_
          rintro _ H34 ⟨rfl, hx34n, hx34f, hx34a, hx34c, -, hx34e, hx34g, hx34p⟩
          refine h_rng (fun hrg36 => ?_)
          have hf37 : fr [30, 31, 32, 33, 35, 36, 3, 1] [1828, 1829, 1830, 1831, 1827] H H34 := fr_t hf24 hx34f (by decide) (by decide)
          have ha38 : agp H H34 := agp_tr ha25 hx34g
          replace hx34a : (H22.1 1826 30) ≤ (H34.1 1826 30) ∧ (H34.1 1826 30) ≤ (H22.1 1826 29) := hx34a
          have hx34t : (H34.1 1826 35) = 0 → (H22.1 1826 31) = 2 := fun q => (hx34p q).1
          replace hx34p : (H34.1 1826 35) = 0 → PWc H34 := fun q => (hx34p q).2
          refine h_run 0 (pc' := 145) (l' := [(0, .inr (.inr 1826))]) (st' := []) rfl ?_
          refine h_run 1 (pc' := 121) (l' := [(0, .inr (.inr 1826))]) (st' := []) rfl ?_
          have g39 : -2147483648 ≤ (H34.1 1826 30) ∧ (H34.1 1826 30) ≤ 2147483647 := hrg36.1 1826 13 30 _ .int rfl rfl
          have g40 : -2147483648 ≤ (H34.1 1826 35) ∧ (H34.1 1826 35) ≤ 2147483647 := hrg36.1 1826 13 35 _ .int rfl rfl
          have g41 : -2147483648 ≤ (H34.1 1826 32) ∧ (H34.1 1826 32) ≤ 2147483647 := hrg36.1 1826 13 32 _ .int rfl rfl
          have g42 : -2147483648 ≤ (H34.1 1826 31) ∧ (H34.1 1826 31) ≤ 2147483647 := hrg36.1 1826 13 31 _ .int rfl rfl
          have g43 : -2147483648 ≤ (H34.1 1826 3) ∧ (H34.1 1826 3) ≤ 2147483647 := hrg36.1 1826 13 3 _ .int rfl rfl
          have g44 : -2147483648 ≤ (H34.1 1826 29) ∧ (H34.1 1826 29) ≤ 2147483647 := hrg36.1 1826 13 29 _ .int rfl rfl
          have e45 : (H34.1 1826 29) = (H22.1 1826 29) := hx34f.2.2 29 (by decide)
          have g46 : -2147483648 ≤ (H34.1 1826 1) ∧ (H34.1 1826 1) ≤ 2147483647 := hrg36.1 1826 13 1 _ .int rfl rfl
          have e47 : (H34.1 1826 1) = (H22.1 1826 1) := hx34f.2.2 1 (by decide)
          exact ih _ hf37 (by omega : (H.1 1826 30) ≤ (H34.1 1826 30) ∧ (H34.1 1826 30) ≤ (H.1 1826 29)) (by omega : 0 ≤ (H34.1 1826 35) ∧ (H34.1 1826 35) ≤ 5) (by omega : 0 ≤ (H34.1 1826 32) ∧ (H34.1 1826 32) ≤ 1000) ha38 hx34p (by omega : (H34.1 1826 1) = X 0 3 + 1) hx3 hx34n (mu_lt hw (by omega) (by omega : (H34.1 1826 35) ≠ 0 ∨ ((H1.1 1826 30) ≤ (H34.1 1826 30) ∧ (H34.1 1826 30) ≤ (H.1 1826 29) ∧ (((H34.1 1826 31) = 0 ∧ (H1.1 1826 31) ≠ 0) ∨ (H1.1 1826 30) < (H34.1 1826 30)))))
        · refine h_cv (i := 316) (j := 171) (b := 1826) (M' := mt_171) (xs := []) (rest := []) rfl rfl rfl rfl rfl rfl (Nat.le_of_ble_eq_true rfl) (Nat.le_of_ble_eq_true rfl) (by omega) (n_constructor0 (by omega) (by omega : (H22.1 1826 35) ≠ 0)) ?_
          rintro _ _ ⟨rfl, rfl⟩
          refine h_run 0 (pc' := 145) (l' := [(0, .inr (.inr 1826))]) (st' := []) rfl ?_
          refine h_run 1 (pc' := 121) (l' := [(0, .inr (.inr 1826))]) (st' := []) rfl ?_
          have g48 : -2147483648 ≤ (H22.1 1826 30) ∧ (H22.1 1826 30) ≤ 2147483647 := hrg23.1 1826 13 30 _ .int rfl rfl
          have g49 : -2147483648 ≤ (H22.1 1826 32) ∧ (H22.1 1826 32) ≤ 2147483647 := hrg23.1 1826 13 32 _ .int rfl rfl
          have g50 : -2147483648 ≤ (H22.1 1826 31) ∧ (H22.1 1826 31) ≤ 2147483647 := hrg23.1 1826 13 31 _ .int rfl rfl
          have g51 : -2147483648 ≤ (H22.1 1826 3) ∧ (H22.1 1826 3) ≤ 2147483647 := hrg23.1 1826 13 3 _ .int rfl rfl
          have e52 : (H22.1 1826 3) = (H1.1 1826 3) := hx22f.2.2 3 (by decide)
          have g53 : -2147483648 ≤ (H22.1 1826 29) ∧ (H22.1 1826 29) ≤ 2147483647 := hrg23.1 1826 13 29 _ .int rfl rfl
          have e54 : (H22.1 1826 29) = (H1.1 1826 29) := hx22f.2.2 29 (by decide)
          have g55 : -2147483648 ≤ (H22.1 1826 1) ∧ (H22.1 1826 1) ≤ 2147483647 := hrg23.1 1826 13 1 _ .int rfl rfl
          have e56 : (H22.1 1826 1) = (H1.1 1826 1) := hx22f.2.2 1 (by decide)
          exact ih _ hf24 (by omega : (H.1 1826 30) ≤ (H22.1 1826 30) ∧ (H22.1 1826 30) ≤ (H.1 1826 29)) (by omega : 0 ≤ (H22.1 1826 35) ∧ (H22.1 1826 35) ≤ 5) (by omega : 0 ≤ (H22.1 1826 32) ∧ (H22.1 1826 32) ≤ 1000) ha25 (fun (q : (H22.1 1826 35) = 0) => absurd q (by omega)) (by omega : (H22.1 1826 1) = X 0 3 + 1) hx3 (Or.inr ⟨(by omega : (H22.1 1826 35) ≠ 0), GB_b hx22n (by omega)⟩) (mu_lt hw (by omega) (by omega : (H22.1 1826 35) ≠ 0 ∨ ((H1.1 1826 30) ≤ (H22.1 1826 30) ∧ (H22.1 1826 30) ≤ (H.1 1826 29) ∧ (((H22.1 1826 31) = 0 ∧ (H1.1 1826 31) ≠ 0) ∨ (H1.1 1826 30) < (H22.1 1826 30)))))
    · have b3x : (H1.1 1826 35) ≠ 0 := b3
      refine h_run 0 (pc' := 125) (l' := [(0, .inr (.inr 1826))]) (st' := [.inl 0]) rfl ?_
      refine h_zeq (off := 23) (t := 148) rfl rfl (by decide) (fun _ => ?_) (fun c => absurd c (by decide))
      refine h_ret rfl rfl ?_
      have g57 : -2147483648 ≤ (H1.1 1826 30) ∧ (H1.1 1826 30) ≤ 2147483647 := hrg1.1 1826 13 30 _ .int rfl rfl
      have g58 : -2147483648 ≤ (H1.1 1826 32) ∧ (H1.1 1826 32) ≤ 2147483647 := hrg1.1 1826 13 32 _ .int rfl rfl
      have g59 : -2147483648 ≤ (H1.1 1826 29) ∧ (H1.1 1826 29) ≤ 2147483647 := hrg1.1 1826 13 29 _ .int rfl rfl
      have e60 : (H1.1 1826 29) = (H.1 1826 29) := hf.2.2 29 (by decide)
      have g61 : -2147483648 ≤ (H1.1 1826 1) ∧ (H1.1 1826 1) ≤ 2147483647 := hrg1.1 1826 13 1 _ .int rfl rfl
      have g62 : -2147483648 ≤ (H1.1 1826 3) ∧ (H1.1 1826 3) ≤ 2147483647 := hrg1.1 1826 13 3 _ .int rfl rfl
      have g63 : -2147483648 ≤ (H1.1 1826 8) ∧ (H1.1 1826 8) ≤ 2147483647 := hrg1.1 1826 13 8 _ .int rfl rfl
      have e64 : (H1.1 1826 8) = (H.1 1826 8) := hf.2.2 8 (by decide)
      have g65 : -2147483648 ≤ (H1.1 1826 13) ∧ (H1.1 1826 13) ≤ 2147483647 := hrg1.1 1826 13 13 _ .int rfl rfl
      have e66 : (H1.1 1826 13) = (H.1 1826 13) := hf.2.2 13 (by decide)
      have g67 : -2147483648 ≤ (H1.1 1826 19) ∧ (H1.1 1826 19) ≤ 2147483647 := hrg1.1 1826 13 19 _ .int rfl rfl
      have e68 : (H1.1 1826 19) = (H.1 1826 19) := hf.2.2 19 (by decide)
      exact ⟨rfl, (Or.inr ⟨(by omega : (H1.1 1826 35) ≠ 0), GB_b hDL (by omega)⟩), hf, (by omega : (H.1 1826 30) ≤ (H1.1 1826 30) ∧ (H1.1 1826 30) ≤ (H.1 1826 29)), (by omega : 0 ≤ (H1.1 1826 35) ∧ (H1.1 1826 35) ≤ 5), (by omega : (H.1 1826 35) ≠ 0 → (H1.1 1826 35) ≠ 0), (by omega : 0 ≤ (H1.1 1826 32) ∧ (H1.1 1826 32) ≤ 1000), hag, hP1⟩
set_option maxRecDepth 100000 in
theorem n_data {zC : Nat → Option zsh} {d : Nat} (hd : 6 ≤ d) {H : hp}  {Y : yx} {m : Int} {c0 : cf} {K : List tq} {X : rx} {nn : Int} (h0 : 0 ≤ (H.1 1826 30) ∧ (H.1 1826 30) ≤ (H.1 1826 29) ∧ (H.1 1826 29) ≤ 1000) (hw : 0 ≤ (H.1 1826 35) ∧ (H.1 1826 35) ≤ 5) (hst : 0 ≤ (H.1 1826 32) ∧ (H.1 1826 32) ≤ 1000) (hP : PWc H) (hw0 : (H.1 1826 35) = 0) (hR : RK Y m H X) (hq : rch Y c0 ((6, nn, 0, 0) :: K, X)) (htk : tk Y (xi X) = 4) : hG (zs zC) d mt_170 0 (zargs 0 [.inr (.inr 1826)]) [] H (fun r H2 => r = none ∧ GB Y m c0 H2 (∃ X2 : rx, rch Y c0 (((1, 59, 0, 0) :: (6, nn + 1, 0, 0) :: K), X2) ∧ RK Y m H2 X2) ∧ fr [30, 31, 32, 33, 35, 36, 3, 1] [1828, 1829, 1830, 1831, 1827] H H2 ∧ ((H.1 1826 30) ≤ (H2.1 1826 30) ∧ (H2.1 1826 30) ≤ (H.1 1826 29)) ∧ (0 ≤ (H2.1 1826 35) ∧ (H2.1 1826 35) ≤ 5) ∧ ((H.1 1826 35) ≠ 0 → (H2.1 1826 35) ≠ 0) ∧ (0 ≤ (H2.1 1826 32) ∧ (H2.1 1826 32) ≤ 1000) ∧ agp H H2 ∧ ((H2.1 1826 35) = 0 → PWc H2)) := by
  refine h_rng (fun hrg0 => ?_)
  refine h_run 0 (pc' := 0) (l' := [(0, .inr (.inr 1826))]) (st' := []) rfl ?_
  obtain ⟨⟨pb1, pb2, pb3, pb4, pb5⟩, pw1, pw2, pw3, pw4⟩ := (id hP : PW H (H.1 1826 1) (H.1 1826 3) (H.1 1826 8) (H.1 1826 13) (H.1 1826 19))
  have hx3 := hR.2.2.2.2.1.1
  have ha3 : adv X 0 3 = X 0 3 := (sT_adv X).2.2 3 (by decide) (by decide)
  refine h_run 1 (pc' := 1) (l' := [(0, .inr (.inr 1826))]) (st' := [.inr (.inr 1826)]) rfl ?_
  have g69 : -2147483648 ≤ (H.1 1826 30) ∧ (H.1 1826 30) ≤ 2147483647 := hrg0.1 1826 13 30 _ .int rfl rfl
  have g70 : -2147483648 ≤ (H.1 1826 29) ∧ (H.1 1826 29) ≤ 2147483647 := hrg0.1 1826 13 29 _ .int rfl rfl
  have g71 : -2147483648 ≤ (H.1 1826 35) ∧ (H.1 1826 35) ≤ 2147483647 := hrg0.1 1826 13 35 _ .int rfl rfl
  have g72 : -2147483648 ≤ (H.1 1826 32) ∧ (H.1 1826 32) ≤ 2147483647 := hrg0.1 1826 13 32 _ .int rfl rfl
  refine h_cv (i := 297) (j := 165) (b := 1826) (M' := mt_165) (xs := []) (rest := []) rfl rfl rfl rfl rfl rfl (Nat.le_of_ble_eq_true rfl) (Nat.le_of_ble_eq_true rfl) (by omega) (n_nx2 (by omega) (by omega : 0 ≤ (H.1 1826 30) ∧ (H.1 1826 30) ≤ (H.1 1826 29) ∧ (H.1 1826 29) ≤ 1000) (by omega : 0 ≤ (H.1 1826 35) ∧ (H.1 1826 35) ≤ 5) (by omega : 0 ≤ (H.1 1826 32) ∧ (H.1 1826 32) ≤ 1000) (by omega : (H.1 1826 35) = 0) (X := (adv X)) (RN_adv hR (fr_rf [] [] _) (by decide) (by decide)) (fun q9 => (rch_st hq (by show stDec Y nn K X = _; unfold stDec miss; (repeat (first | rw [if_pos (by omega)] | rw [if_neg (by omega)])); try rfl)))) ?_
  rintro _ H73 ⟨rfl, hx73n, hx73f, hx73a, hx73b, hx73c, -, hx73e, hx73g⟩
  refine h_rng (fun hrg74 => ?_)
  have hf75 : fr [30, 31, 32, 33, 35, 36, 3, 1] [1828, 1829, 1830, 1831, 1827] H H73 := fr_t (fr_rf _ _ _) hx73f (by decide) (by decide)
  have ha76 : agp H H73 := agp_tr (agp_rf _) (agp_fr hx73f (by decide) (by decide))
  replace hx73a : (H.1 1826 30) ≤ (H73.1 1826 30) := hx73a
  replace hx73b : (H73.1 1826 30) ≤ (H.1 1826 29) := hx73b
  replace hx73g : (H73.1 1826 35) = 0 → ((H73.1 1826 31) = 0 ∨ (H.1 1826 30) < (H73.1 1826 30)) := hx73g
  refine h_run 0 (pc' := 4) (l' := [(0, .inr (.inr 1826))]) (st' := []) rfl ?_
  refine h_run 1 (pc' := 5) (l' := [(0, .inr (.inr 1826))]) (st' := [.inr (.inr 1826)]) rfl ?_
  have g77 : -2147483648 ≤ (H73.1 1826 35) ∧ (H73.1 1826 35) ≤ 2147483647 := hrg74.1 1826 13 35 _ .int rfl rfl
  refine h_cv (i := 293) (j := 158) (b := 1826) (M' := mt_158) (xs := []) (rest := []) rfl rfl rfl rfl rfl rfl (Nat.le_of_ble_eq_true rfl) (Nat.le_of_ble_eq_true rfl) (by omega) (m_good (by omega)) ?_
  rintro _ _ ⟨⟨rfl, b78⟩ | ⟨rfl, b78⟩, rfl⟩
  · have b78x : (H73.1 1826 35) = 0 := b78
    replace hx73g := hx73g b78x
    refine h_run 0 (pc' := 8) (l' := [(0, .inr (.inr 1826))]) (st' := [.inl 1]) rfl ?_
    refine h_zeq (off := 16) (t := 24) rfl rfl (by decide) (fun c => absurd c (by decide)) (fun _ => ?_)
    have hR1 := GB_g hx73n (by omega)
    have htk1 := RK_t hR1
    have hy3 := hR1.2.2.2.2.1.1
    refine h_run 2 (pc' := 15) (l' := [(0, .inr (.inr 1826))]) (st' := [.inl (H73.1 1826 31)]) rfl ?_
    have g79 : -2147483648 ≤ (H73.1 1826 31) ∧ (H73.1 1826 31) ≤ 2147483647 := hrg74.1 1826 13 31 _ .int rfl rfl
    refine h_run 1 (pc' := 16) (l' := [(0, .inr (.inr 1826))]) (st' := [.inl 2, .inl (H73.1 1826 31)]) rfl ?_
    refine h_ieq (off := 8) (t := 24) rfl rfl (by omega) (by decide) (fun c80 => ?_) (fun c80 => ?_)
    · refine h_run 1 (pc' := 25) (l' := [(0, .inr (.inr 1826))]) (st' := [.inr (.inr 1826)]) rfl ?_
      refine h_cv (i := 293) (j := 158) (b := 1826) (M' := mt_158) (xs := []) (rest := []) rfl rfl rfl rfl rfl rfl (Nat.le_of_ble_eq_true rfl) (Nat.le_of_ble_eq_true rfl) (by omega) (m_good1 (by omega) (by omega : (H73.1 1826 35) = 0)) ?_
      rintro _ _ ⟨rfl, rfl⟩
      refine h_run 0 (pc' := 28) (l' := [(0, .inr (.inr 1826))]) (st' := [.inl 1]) rfl ?_
      refine h_zeq (off := 27) (t := 55) rfl rfl (by decide) (fun c => absurd c (by decide)) (fun _ => ?_)
      refine h_run 4 (pc' := 39) (l' := [(0, .inr (.inr 1826))]) (st' := [.inl (H73.1 1826 1), .inr (.inr 1827)]) rfl ?_
      have g81 : -2147483648 ≤ (H73.1 1826 1) ∧ (H73.1 1826 1) ≤ 2147483647 := hrg74.1 1826 13 1 _ .int rfl rfl
      have e82 : (H73.1 1826 1) = (H.1 1826 1) := hx73f.2.2 1 (by decide)
      refine h_run 2 (pc' := 43) (l' := [(0, .inr (.inr 1826))]) (st' := [.inr (.inl (H73.1 1826 33)), .inl (H73.1 1826 1), .inr (.inr 1827)]) rfl ?_
      have g83 : -9223372036854775808 ≤ (H73.1 1826 33) ∧ (H73.1 1826 33) ≤ 9223372036854775807 := hrg74.1 1826 13 33 _ .long rfl rfl
      refine h_cs (i := 309) (j := 167) (M' := mt_167) (xs := [.inr (.inl (H73.1 1826 33)), .inl (H73.1 1826 1), .inr (.inr 1827)]) (rest := []) rfl rfl rfl rfl rfl (Nat.le_of_ble_eq_true rfl) (Nat.le_of_ble_eq_true rfl) (by omega) (n_find (by omega) (m := 6) (z := tfd Y (adv X)) rfl (by omega : 0 ≤ (H73.1 1826 1) ∧ (H73.1 1826 1) ≤ ((6 : Nat) : Int) ∧ 6 ≤ 100) (by omega) (RK_tf hR1 (Or.inr (by omega)))) ?_
      rintro _ _ ⟨⟨k84, rfl, f85, f85x⟩ | ⟨rfl, f85⟩, rfl⟩
      · refine h_run 0 (pc' := 46) (l' := [(0, .inr (.inr 1826))]) (st' := [.inl (k84 : Int)]) rfl ?_
        refine h_run 1 (pc' := 47) (l' := [(0, .inr (.inr 1826))]) (st' := [.inl (-1), .inl (k84 : Int)]) rfl ?_
        refine h_ieq (off := 8) (t := 55) rfl rfl (by omega) (by decide) (fun c86 => ?_) (fun c86 => ?_)
        · refine h_run 1 (pc' := 56) (l' := [(0, .inr (.inr 1826))]) (st' := [.inr (.inr 1826)]) rfl ?_
          refine h_cv (i := 293) (j := 158) (b := 1826) (M' := mt_158) (xs := []) (rest := []) rfl rfl rfl rfl rfl rfl (Nat.le_of_ble_eq_true rfl) (Nat.le_of_ble_eq_true rfl) (by omega) (m_good1 (by omega) (by omega : (H73.1 1826 35) = 0)) ?_
          rintro _ _ ⟨rfl, rfl⟩
          refine h_run 0 (pc' := 59) (l' := [(0, .inr (.inr 1826))]) (st' := [.inl 1]) rfl ?_
          refine h_zeq (off := 17) (t := 76) rfl rfl (by decide) (fun c => absurd c (by decide)) (fun _ => ?_)
          refine h_run 2 (pc' := 66) (l' := [(0, .inr (.inr 1826))]) (st' := [.inl (H73.1 1826 1)]) rfl ?_
          refine h_run 1 (pc' := 68) (l' := [(0, .inr (.inr 1826))]) (st' := [.inl 6, .inl (H73.1 1826 1)]) rfl ?_
          refine h_ine (off := 8) (t := 76) rfl rfl (by omega) (by decide) (fun c87 => ?_) (fun c87 => ?_)
          · refine h_run 1 (pc' := 77) (l' := [(0, .inr (.inr 1826))]) (st' := [.inr (.inr 1826)]) rfl ?_
            refine h_cv (i := 293) (j := 158) (b := 1826) (M' := mt_158) (xs := []) (rest := []) rfl rfl rfl rfl rfl rfl (Nat.le_of_ble_eq_true rfl) (Nat.le_of_ble_eq_true rfl) (by omega) (m_good1 (by omega) (by omega : (H73.1 1826 35) = 0)) ?_
            rintro _ _ ⟨rfl, rfl⟩
            refine h_run 0 (pc' := 80) (l' := [(0, .inr (.inr 1826))]) (st' := [.inl 1]) rfl ?_
            refine h_zne (off := 4) (t := 84) rfl rfl (by decide) (fun _ => ?_) (fun c => absurd c (by decide))
            refine h_run 4 (pc' := 92) (l' := [(0, .inr (.inr 1826))]) (st' := [.inl (H73.1 1826 1), .inr (.inr 1827)]) rfl ?_
            refine h_run 2 (pc' := 96) (l' := [(0, .inr (.inr 1826))]) (st' := [.inr (.inl (H73.1 1826 33)), .inl (H73.1 1826 1), .inr (.inr 1827)]) rfl ?_
            refine h_lst (c := 1827) (j := ((H73.1 1826 1)).toNat) (i := (H73.1 1826 1)) (x := (H73.1 1826 33)) rfl rfl (by decide) (by decide) (by omega) (by omega) (by first | omega | exact z_long _) ?_
            refine h_run 3 (pc' := 102) (l' := [(0, .inr (.inr 1826))]) (st' := [.inl (H73.1 1826 1), .inr (.inr 1826)]) rfl ?_
            refine h_run 2 (pc' := 104) (l' := [(0, .inr (.inr 1826))]) (st' := [.inl ((H73.1 1826 1) + 1), .inr (.inr 1826)]) rfl ?_
            refine h_puti (i := 306) (ci := 13) (k := 1) (a := 1826) (x := ((H73.1 1826 1) + 1)) rfl rfl rfl rfl rfl rfl (by decide) (by omega) ?_
            have hq3 : rch Y c0 ((1, 61, 0, 0) :: (7, X 0 3, 0, 0) :: (9, X 0 3, 0, 0) :: ((1, 59, 0, 0) :: (6, nn + 1, 0, 0) :: K), (xtyp (adv X) (tn Y (xi (adv X))))) := (rch_st hq (by show stDec Y nn K X = _; unfold stDec miss; (repeat (first | rw [if_pos (by omega)] | rw [if_neg (by omega)])); try rfl))
            refine h_run 1 (pc' := 108) (l' := [(0, .inr (.inr 1826))]) (st' := [.inr (.inr 1826)]) rfl ?_
            have g88 : -2147483648 ≤ (H73.1 1826 30) ∧ (H73.1 1826 30) ≤ 2147483647 := hrg74.1 1826 13 30 _ .int rfl rfl
            have g89 : -2147483648 ≤ (H73.1 1826 29) ∧ (H73.1 1826 29) ≤ 2147483647 := hrg74.1 1826 13 29 _ .int rfl rfl
            have e90 : (H73.1 1826 29) = (H.1 1826 29) := hx73f.2.2 29 (by decide)
            have g91 : -2147483648 ≤ (H73.1 1826 32) ∧ (H73.1 1826 32) ≤ 2147483647 := hrg74.1 1826 13 32 _ .int rfl rfl
            refine h_cv (i := 297) (j := 165) (b := 1826) (M' := mt_165) (xs := []) (rest := []) rfl rfl rfl rfl rfl rfl (Nat.le_of_ble_eq_true rfl) (Nat.le_of_ble_eq_true rfl) (by omega) (n_nx (by omega) (by omega : 0 ≤ (H73.1 1826 30) ∧ (H73.1 1826 30) ≤ (H73.1 1826 29) ∧ (H73.1 1826 29) ≤ 1000) (by omega : 0 ≤ (H73.1 1826 35) ∧ (H73.1 1826 35) ≤ 5) (by omega : 0 ≤ (H73.1 1826 32) ∧ (H73.1 1826 32) ≤ 1000) (by omega : (H73.1 1826 35) = 0) (X := (xtyp (adv X) (tn Y (xi (adv X))))) (RN_mk hR1 (fr_o (fr_a (fr_rf [1] [1827] H73) (by decide)) (by decide)) (by decide) (by decide) (xtyp_s _ _).1 (TA_typ hR1.2.2.2.2 (fr_o (fr_a (fr_rf [1] [1827] H73) (by decide)) (by decide)) (by decide) (by decide) (by omega) (by rw [← RK_n hR1 (Or.inr (by omega))]; rfl) rfl)) hq3 (lk_1 (by decide))) ?_
            rintro _ H92 ⟨rfl, hx92n, hx92f, hx92a, hx92b, hx92c, -, hx92e, hx92g⟩
            refine h_rng (fun hrg93 => ?_)
            have hf94 : fr [30, 31, 32, 33, 35, 36, 3, 1] [1828, 1829, 1830, 1831, 1827] H H92 := fr_t (fr_o (fr_a hf75 (by decide)) (by decide)) hx92f (by decide) (by decide)
            have ha95 : agp H H92 := agp_tr (agp_n1 (agp_a ha76 (by decide)) (by omega : (H.1 1826 1) ≤ ((H73.1 1826 1) + 1))) (agp_fr hx92f (by decide) (by decide))
            replace hx92a : (H73.1 1826 30) ≤ (H92.1 1826 30) := hx92a
            replace hx92b : (H92.1 1826 30) ≤ (H73.1 1826 29) := hx92b
            replace hx92g : (H92.1 1826 35) = 0 → ((H92.1 1826 31) = 0 ∨ (H73.1 1826 30) < (H92.1 1826 30)) := hx92g
            refine h_run 0 (pc' := 111) (l' := [(0, .inr (.inr 1826))]) (st' := []) rfl ?_
            refine h_run 2 (pc' := 114) (l' := [(0, .inr (.inr 1826))]) (st' := [.inl 61, .inr (.inr 1826)]) rfl ?_
            have g96 : -2147483648 ≤ (H92.1 1826 35) ∧ (H92.1 1826 35) ≤ 2147483647 := hrg93.1 1826 13 35 _ .int rfl rfl
            by_cases b97 : (H92.1 1826 35) = 0
            · have g98 : -2147483648 ≤ (H92.1 1826 30) ∧ (H92.1 1826 30) ≤ 2147483647 := hrg93.1 1826 13 30 _ .int rfl rfl
              have g99 : -2147483648 ≤ (H92.1 1826 29) ∧ (H92.1 1826 29) ≤ 2147483647 := hrg93.1 1826 13 29 _ .int rfl rfl
              have e100 : (H92.1 1826 29) = (H73.1 1826 29) := hx92f.2.2 29 (by decide)
              have g101 : -2147483648 ≤ (H92.1 1826 31) ∧ (H92.1 1826 31) ≤ 2147483647 := hrg93.1 1826 13 31 _ .int rfl rfl
              have g103 : -2147483648 ≤ (H92.1 1826 32) ∧ (H92.1 1826 32) ≤ 2147483647 := hrg93.1 1826 13 32 _ .int rfl rfl
              refine h_cv (i := 313) (j := 166) (b := 1826) (M' := mt_166) (xs := [.inl 61]) (rest := []) rfl rfl rfl rfl rfl rfl (Nat.le_of_ble_eq_true rfl) (Nat.le_of_ble_eq_true rfl) (by omega) (n_want (by omega) (by omega : 0 ≤ (H92.1 1826 30) ∧ (H92.1 1826 30) ≤ (H92.1 1826 29) ∧ (H92.1 1826 29) ≤ 1000) (by omega : 0 ≤ (H92.1 1826 35) ∧ (H92.1 1826 35) ≤ 5) (by omega : 0 ≤ (H92.1 1826 32) ∧ (H92.1 1826 32) ≤ 1000) (by omega) (by omega : (H92.1 1826 35) = 0) (GB_g hx92n (by omega)) hq3 (lk_n (by decide))) ?_
              rintro _ H102 ⟨rfl, hx102n, hx102f, hx102a, hx102b, hx102c, -, hx102e, hx102g⟩
              refine h_rng (fun hrg104 => ?_)
              have hf105 : fr [30, 31, 32, 33, 35, 36, 3, 1] [1828, 1829, 1830, 1831, 1827] H H102 := fr_t hf94 hx102f (by decide) (by decide)
              have ha106 : agp H H102 := agp_tr ha95 (agp_fr hx102f (by decide) (by decide))
              replace hx102a : (H92.1 1826 30) ≤ (H102.1 1826 30) := hx102a
              replace hx102b : (H102.1 1826 30) ≤ (H92.1 1826 29) := hx102b
              replace hx102g : (H102.1 1826 35) = 0 → (H92.1 1826 31) = (61 : Int) ∧ ((H102.1 1826 31) = 0 ∨ (H92.1 1826 30) < (H102.1 1826 30)) := hx102g
              refine h_run 0 (pc' := 117) (l' := [(0, .inr (.inr 1826))]) (st' := []) rfl ?_
              refine h_run 1 (pc' := 118) (l' := [(0, .inr (.inr 1826))]) (st' := [.inr (.inr 1826)]) rfl ?_
              have g107 : -2147483648 ≤ (H102.1 1826 35) ∧ (H102.1 1826 35) ≤ 2147483647 := hrg104.1 1826 13 35 _ .int rfl rfl
              by_cases b108 : (H102.1 1826 35) = 0
              · have g109 : -2147483648 ≤ (H102.1 1826 30) ∧ (H102.1 1826 30) ≤ 2147483647 := hrg104.1 1826 13 30 _ .int rfl rfl
                have g110 : -2147483648 ≤ (H102.1 1826 29) ∧ (H102.1 1826 29) ≤ 2147483647 := hrg104.1 1826 13 29 _ .int rfl rfl
                have e111 : (H102.1 1826 29) = (H92.1 1826 29) := hx102f.2.2 29 (by decide)
                have g112 : -2147483648 ≤ (H102.1 1826 31) ∧ (H102.1 1826 31) ≤ 2147483647 := hrg104.1 1826 13 31 _ .int rfl rfl
                have g113 : -2147483648 ≤ (H102.1 1826 1) ∧ (H102.1 1826 1) ≤ 2147483647 := hrg104.1 1826 13 1 _ .int rfl rfl
                have e114 : (H102.1 1826 1) = (H92.1 1826 1) := hx102f.2.2 1 (by decide)
                have e115 : (H92.1 1826 1) = ((H73.1 1826 1) + 1) := hx92f.2.2 1 (by decide)
                have g117 : -2147483648 ≤ (H102.1 1826 3) ∧ (H102.1 1826 3) ≤ 2147483647 := hrg104.1 1826 13 3 _ .int rfl rfl
                have e118 : (H102.1 1826 3) = (H92.1 1826 3) := hx102f.2.2 3 (by decide)
                have e119 : (H92.1 1826 3) = (H73.1 1826 3) := hx92f.2.2 3 (by decide)
                have e120 : (H73.1 1826 3) = (H.1 1826 3) := hx73f.2.2 3 (by decide)
                have g121 : -2147483648 ≤ (H102.1 1826 8) ∧ (H102.1 1826 8) ≤ 2147483647 := hrg104.1 1826 13 8 _ .int rfl rfl
                have e122 : (H102.1 1826 8) = (H92.1 1826 8) := hx102f.2.2 8 (by decide)
                have e123 : (H92.1 1826 8) = (H73.1 1826 8) := hx92f.2.2 8 (by decide)
                have e124 : (H73.1 1826 8) = (H.1 1826 8) := hx73f.2.2 8 (by decide)
                have g125 : -2147483648 ≤ (H102.1 1826 13) ∧ (H102.1 1826 13) ≤ 2147483647 := hrg104.1 1826 13 13 _ .int rfl rfl
                have e126 : (H102.1 1826 13) = (H92.1 1826 13) := hx102f.2.2 13 (by decide)
                have e127 : (H92.1 1826 13) = (H73.1 1826 13) := hx92f.2.2 13 (by decide)
                have e128 : (H73.1 1826 13) = (H.1 1826 13) := hx73f.2.2 13 (by decide)
                have g129 : -2147483648 ≤ (H102.1 1826 19) ∧ (H102.1 1826 19) ≤ 2147483647 := hrg104.1 1826 13 19 _ .int rfl rfl
                have e130 : (H102.1 1826 19) = (H92.1 1826 19) := hx102f.2.2 19 (by decide)
                have e131 : (H92.1 1826 19) = (H73.1 1826 19) := hx92f.2.2 19 (by decide)
                have e132 : (H73.1 1826 19) = (H.1 1826 19) := hx73f.2.2 19 (by decide)
                have g133 : -2147483648 ≤ (H102.1 1826 32) ∧ (H102.1 1826 32) ≤ 2147483647 := hrg104.1 1826 13 32 _ .int rfl rfl
                obtain ⟨X4, hq4, hR4, -⟩ := GB_g hx102n (by omega)
                refine h_cv (i := 316) (j := 171) (b := 1826) (M' := mt_171) (xs := []) (rest := []) rfl rfl rfl rfl rfl rfl (Nat.le_of_ble_eq_true rfl) (Nat.le_of_ble_eq_true rfl) (by omega) (n_constructor (by omega) (by omega : 0 ≤ (H102.1 1826 30) ∧ (H102.1 1826 30) ≤ (H102.1 1826 29) ∧ (H102.1 1826 29) ≤ 1000) (by omega : 0 ≤ (H102.1 1826 35) ∧ (H102.1 1826 35) ≤ 5) (by omega : 0 ≤ (H102.1 1826 32) ∧ (H102.1 1826 32) ≤ 1000) (PW_more hP ha106 ⟨(by omega : (H102.1 1826 1) ≤ 6), (by omega : (H102.1 1826 3) ≤ 16), (by omega : (H102.1 1826 8) ≤ 16)⟩ (m_con_agp pw1 ha106 (by omega : (H102.1 1826 3) = (H.1 1826 3))) (m_fun_agp pw2 ha106 (by omega : (H102.1 1826 8) = (H.1 1826 8))) (by omega : (H102.1 1826 13) = (H.1 1826 13)) (by omega : (H102.1 1826 19) = (H.1 1826 19))) (by omega : 1 ≤ (H102.1 1826 1)) (by omega : (H102.1 1826 35) = 0) hR4 (by rw [show (H102.1 1826 1) - 1 = X 0 3 by omega]; exact hq4) (lk_c (lk_1 (by decide)) (by decide : (9 : Nat) ≠ 0) (fun q => absurd q (by decide : (9 : Nat) ≠ 1)))) ?_
                rintro _ H116 ⟨rfl, hx116n, hx116f, hx116a, hx116c, -, hx116e, hx116g, hx116p⟩
                refine h_rng (fun hrg134 => ?_)
                have hf135 : fr [30, 31, 32, 33, 35, 36, 3, 1] [1828, 1829, 1830, 1831, 1827] H H116 := fr_t hf105 hx116f (by decide) (by decide)
                have ha136 : agp H H116 := agp_tr ha106 hx116g
                replace hx116a : (H102.1 1826 30) ≤ (H116.1 1826 30) ∧ (H116.1 1826 30) ≤ (H102.1 1826 29) := hx116a
                have hx116t : (H116.1 1826 35) = 0 → (H102.1 1826 31) = 2 := fun q => (hx116p q).1
                replace hx116p : (H116.1 1826 35) = 0 → PWc H116 := fun q => (hx116p q).2
                refine h_run 0 (pc' := 121) (l' := [(0, .inr (.inr 1826))]) (st' := []) rfl ?_
                have g137 : -2147483648 ≤ (H116.1 1826 30) ∧ (H116.1 1826 30) ≤ 2147483647 := hrg134.1 1826 13 30 _ .int rfl rfl
                have g138 : -2147483648 ≤ (H116.1 1826 35) ∧ (H116.1 1826 35) ≤ 2147483647 := hrg134.1 1826 13 35 _ .int rfl rfl
                have g139 : -2147483648 ≤ (H116.1 1826 32) ∧ (H116.1 1826 32) ≤ 2147483647 := hrg134.1 1826 13 32 _ .int rfl rfl
                have g140 : -2147483648 ≤ (H116.1 1826 31) ∧ (H116.1 1826 31) ≤ 2147483647 := hrg134.1 1826 13 31 _ .int rfl rfl
                have g141 : -2147483648 ≤ (H116.1 1826 3) ∧ (H116.1 1826 3) ≤ 2147483647 := hrg134.1 1826 13 3 _ .int rfl rfl
                have g142 : -2147483648 ≤ (H116.1 1826 29) ∧ (H116.1 1826 29) ≤ 2147483647 := hrg134.1 1826 13 29 _ .int rfl rfl
                have e143 : (H116.1 1826 29) = (H102.1 1826 29) := hx116f.2.2 29 (by decide)
                have g144 : -2147483648 ≤ (H116.1 1826 1) ∧ (H116.1 1826 1) ≤ 2147483647 := hrg134.1 1826 13 1 _ .int rfl rfl
                have e145 : (H116.1 1826 1) = (H102.1 1826 1) := hx116f.2.2 1 (by decide)
                exact (n_data_cut hd h0 hw hst hP hw0 hR hq htk _) _ hf135 (by omega : (H.1 1826 30) ≤ (H116.1 1826 30) ∧ (H116.1 1826 30) ≤ (H.1 1826 29)) (by omega : 0 ≤ (H116.1 1826 35) ∧ (H116.1 1826 35) ≤ 5) (by omega : 0 ≤ (H116.1 1826 32) ∧ (H116.1 1826 32) ≤ 1000) ha136 hx116p (by omega : (H116.1 1826 1) = X 0 3 + 1) (by omega) hx116n (Nat.lt_succ_self _)
              · refine h_cv (i := 316) (j := 171) (b := 1826) (M' := mt_171) (xs := []) (rest := []) rfl rfl rfl rfl rfl rfl (Nat.le_of_ble_eq_true rfl) (Nat.le_of_ble_eq_true rfl) (by omega) (n_constructor0 (by omega) (by omega : (H102.1 1826 35) ≠ 0)) ?_
                rintro _ _ ⟨rfl, rfl⟩
                refine h_run 0 (pc' := 121) (l' := [(0, .inr (.inr 1826))]) (st' := []) rfl ?_
                have g146 : -2147483648 ≤ (H102.1 1826 30) ∧ (H102.1 1826 30) ≤ 2147483647 := hrg104.1 1826 13 30 _ .int rfl rfl
                have g147 : -2147483648 ≤ (H102.1 1826 32) ∧ (H102.1 1826 32) ≤ 2147483647 := hrg104.1 1826 13 32 _ .int rfl rfl
                have g148 : -2147483648 ≤ (H102.1 1826 31) ∧ (H102.1 1826 31) ≤ 2147483647 := hrg104.1 1826 13 31 _ .int rfl rfl
                have g149 : -2147483648 ≤ (H102.1 1826 3) ∧ (H102.1 1826 3) ≤ 2147483647 := hrg104.1 1826 13 3 _ .int rfl rfl
                have e150 : (H102.1 1826 3) = (H92.1 1826 3) := hx102f.2.2 3 (by decide)
                have e151 : (H92.1 1826 3) = (H73.1 1826 3) := hx92f.2.2 3 (by decide)
                have e152 : (H73.1 1826 3) = (H.1 1826 3) := hx73f.2.2 3 (by decide)
                have g153 : -2147483648 ≤ (H102.1 1826 29) ∧ (H102.1 1826 29) ≤ 2147483647 := hrg104.1 1826 13 29 _ .int rfl rfl
                have e154 : (H102.1 1826 29) = (H92.1 1826 29) := hx102f.2.2 29 (by decide)
                have g155 : -2147483648 ≤ (H102.1 1826 1) ∧ (H102.1 1826 1) ≤ 2147483647 := hrg104.1 1826 13 1 _ .int rfl rfl
                have e156 : (H102.1 1826 1) = (H92.1 1826 1) := hx102f.2.2 1 (by decide)
                have e157 : (H92.1 1826 1) = ((H73.1 1826 1) + 1) := hx92f.2.2 1 (by decide)
                exact (n_data_cut hd h0 hw hst hP hw0 hR hq htk _) _ hf105 (by omega : (H.1 1826 30) ≤ (H102.1 1826 30) ∧ (H102.1 1826 30) ≤ (H.1 1826 29)) (by omega : 0 ≤ (H102.1 1826 35) ∧ (H102.1 1826 35) ≤ 5) (by omega : 0 ≤ (H102.1 1826 32) ∧ (H102.1 1826 32) ≤ 1000) ha106 (fun (q : (H102.1 1826 35) = 0) => absurd q (by omega)) (by omega : (H102.1 1826 1) = X 0 3 + 1) (by omega) (Or.inr ⟨(by omega : (H102.1 1826 35) ≠ 0), GB_b hx102n (by omega)⟩) (Nat.lt_succ_self _)
            · refine h_cv (i := 313) (j := 166) (b := 1826) (M' := mt_166) (xs := [.inl 61]) (rest := []) rfl rfl rfl rfl rfl rfl (Nat.le_of_ble_eq_true rfl) (Nat.le_of_ble_eq_true rfl) (by omega) (n_want0 (by omega) (by omega : (H92.1 1826 35) ≠ 0)) ?_
              rintro _ _ ⟨rfl, rfl⟩
              refine h_run 0 (pc' := 117) (l' := [(0, .inr (.inr 1826))]) (st' := []) rfl ?_
              refine h_run 1 (pc' := 118) (l' := [(0, .inr (.inr 1826))]) (st' := [.inr (.inr 1826)]) rfl ?_
              refine h_cv (i := 316) (j := 171) (b := 1826) (M' := mt_171) (xs := []) (rest := []) rfl rfl rfl rfl rfl rfl (Nat.le_of_ble_eq_true rfl) (Nat.le_of_ble_eq_true rfl) (by omega) (n_constructor0 (by omega) (by omega : (H92.1 1826 35) ≠ 0)) ?_
              rintro _ _ ⟨rfl, rfl⟩
              refine h_run 0 (pc' := 121) (l' := [(0, .inr (.inr 1826))]) (st' := []) rfl ?_
              have g158 : -2147483648 ≤ (H92.1 1826 30) ∧ (H92.1 1826 30) ≤ 2147483647 := hrg93.1 1826 13 30 _ .int rfl rfl
              have g159 : -2147483648 ≤ (H92.1 1826 32) ∧ (H92.1 1826 32) ≤ 2147483647 := hrg93.1 1826 13 32 _ .int rfl rfl
              have g160 : -2147483648 ≤ (H92.1 1826 31) ∧ (H92.1 1826 31) ≤ 2147483647 := hrg93.1 1826 13 31 _ .int rfl rfl
              have g161 : -2147483648 ≤ (H92.1 1826 3) ∧ (H92.1 1826 3) ≤ 2147483647 := hrg93.1 1826 13 3 _ .int rfl rfl
              have e162 : (H92.1 1826 3) = (H73.1 1826 3) := hx92f.2.2 3 (by decide)
              have e163 : (H73.1 1826 3) = (H.1 1826 3) := hx73f.2.2 3 (by decide)
              have g164 : -2147483648 ≤ (H92.1 1826 29) ∧ (H92.1 1826 29) ≤ 2147483647 := hrg93.1 1826 13 29 _ .int rfl rfl
              have e165 : (H92.1 1826 29) = (H73.1 1826 29) := hx92f.2.2 29 (by decide)
              have g166 : -2147483648 ≤ (H92.1 1826 1) ∧ (H92.1 1826 1) ≤ 2147483647 := hrg93.1 1826 13 1 _ .int rfl rfl
              have e167 : (H92.1 1826 1) = ((H73.1 1826 1) + 1) := hx92f.2.2 1 (by decide)
              exact (n_data_cut hd h0 hw hst hP hw0 hR hq htk _) _ hf94 (by omega : (H.1 1826 30) ≤ (H92.1 1826 30) ∧ (H92.1 1826 30) ≤ (H.1 1826 29)) (by omega : 0 ≤ (H92.1 1826 35) ∧ (H92.1 1826 35) ≤ 5) (by omega : 0 ≤ (H92.1 1826 32) ∧ (H92.1 1826 32) ≤ 1000) ha95 (fun (q : (H92.1 1826 35) = 0) => absurd q (by omega)) (by omega : (H92.1 1826 1) = X 0 3 + 1) (by omega) (Or.inr ⟨(by omega : (H92.1 1826 35) ≠ 0), GB_b hx92n (by omega)⟩) (Nat.lt_succ_self _)
          · refine h_run 2 (pc' := 73) (l' := [(0, .inr (.inr 1826))]) (st' := [.inl 5, .inr (.inr 1826)]) rfl ?_
            refine h_cv (i := 278) (j := 159) (b := 1826) (M' := mt_159) (xs := [.inl 5]) (rest := []) rfl rfl rfl rfl rfl rfl (Nat.le_of_ble_eq_true rfl) (Nat.le_of_ble_eq_true rfl) (by omega) (m_bad0 (by omega) (by omega) (by omega : (H73.1 1826 35) = 0)) ?_
            rintro _ _ ⟨rfl, rfl⟩
            refine h_run 0 (pc' := 76) (l' := [(0, .inr (.inr 1826))]) (st' := []) rfl ?_
            refine h_run 1 (pc' := 77) (l' := [(0, .inr (.inr 1826))]) (st' := [.inr (.inr 1826)]) rfl ?_
            refine h_cv (i := 293) (j := 158) (b := 1826) (M' := mt_158) (xs := []) (rest := []) rfl rfl rfl rfl rfl rfl (Nat.le_of_ble_eq_true rfl) (Nat.le_of_ble_eq_true rfl) (by omega) (m_good0 (by omega) (by omega : (5 : Int) ≠ 0)) ?_
            rintro _ _ ⟨rfl, rfl⟩
            refine h_run 0 (pc' := 80) (l' := [(0, .inr (.inr 1826))]) (st' := [.inl 0]) rfl ?_
            refine h_zne (off := 4) (t := 84) rfl rfl (by decide) (fun c => absurd c (by decide)) (fun _ => ?_)
            refine h_ret rfl rfl ?_
            have g168 : -2147483648 ≤ (H73.1 1826 30) ∧ (H73.1 1826 30) ≤ 2147483647 := hrg74.1 1826 13 30 _ .int rfl rfl
            have g169 : -2147483648 ≤ (H73.1 1826 32) ∧ (H73.1 1826 32) ≤ 2147483647 := hrg74.1 1826 13 32 _ .int rfl rfl
            have g170 : -2147483648 ≤ (H73.1 1826 29) ∧ (H73.1 1826 29) ≤ 2147483647 := hrg74.1 1826 13 29 _ .int rfl rfl
            have e171 : (H73.1 1826 29) = (H.1 1826 29) := hx73f.2.2 29 (by decide)
            have g172 : -2147483648 ≤ (H73.1 1826 3) ∧ (H73.1 1826 3) ≤ 2147483647 := hrg74.1 1826 13 3 _ .int rfl rfl
            have e173 : (H73.1 1826 3) = (H.1 1826 3) := hx73f.2.2 3 (by decide)
            have g174 : -2147483648 ≤ (H73.1 1826 8) ∧ (H73.1 1826 8) ≤ 2147483647 := hrg74.1 1826 13 8 _ .int rfl rfl
            have e175 : (H73.1 1826 8) = (H.1 1826 8) := hx73f.2.2 8 (by decide)
            have g176 : -2147483648 ≤ (H73.1 1826 13) ∧ (H73.1 1826 13) ≤ 2147483647 := hrg74.1 1826 13 13 _ .int rfl rfl
            have e177 : (H73.1 1826 13) = (H.1 1826 13) := hx73f.2.2 13 (by decide)
            have g178 : -2147483648 ≤ (H73.1 1826 19) ∧ (H73.1 1826 19) ≤ 2147483647 := hrg74.1 1826 13 19 _ .int rfl rfl
            have e179 : (H73.1 1826 19) = (H.1 1826 19) := hx73f.2.2 19 (by decide)
            exact ⟨rfl, (Or.inr ⟨(by omega : (5 : Int) ≠ 0), (BD_mk hR1 (fr_o (fr_o (fr_rf [35, 36] [] H73) (by decide)) (by decide)) (by decide) (by decide) (by decide : (5 : Int) ≠ 0) rfl rfl (rch_st hq (by show stDec Y nn K X = _; unfold stDec miss; (repeat (first | rw [if_pos (by omega)] | rw [if_neg (by omega)])); try rfl)))⟩), (fr_o (fr_o hf75 (by decide)) (by decide)), (by omega : (H.1 1826 30) ≤ (H73.1 1826 30) ∧ (H73.1 1826 30) ≤ (H.1 1826 29)), (by omega : 0 ≤ (5 : Int) ∧ (5 : Int) ≤ 5), (by omega : (H.1 1826 35) ≠ 0 → (5 : Int) ≠ 0), (by omega : 0 ≤ (H73.1 1826 32) ∧ (H73.1 1826 32) ≤ 1000), (agp_o (agp_o ha76 (by decide)) (by decide)), (fun (q : (5 : Int) = 0) => absurd q (by omega))⟩
        · refine h_run 2 (pc' := 52) (l' := [(0, .inr (.inr 1826))]) (st' := [.inl 3, .inr (.inr 1826)]) rfl ?_
          refine h_cv (i := 278) (j := 159) (b := 1826) (M' := mt_159) (xs := [.inl 3]) (rest := []) rfl rfl rfl rfl rfl rfl (Nat.le_of_ble_eq_true rfl) (Nat.le_of_ble_eq_true rfl) (by omega) (m_bad0 (by omega) (by omega) (by omega : (H73.1 1826 35) = 0)) ?_
          rintro _ _ ⟨rfl, rfl⟩
          refine h_run 0 (pc' := 55) (l' := [(0, .inr (.inr 1826))]) (st' := []) rfl ?_
          refine h_run 1 (pc' := 56) (l' := [(0, .inr (.inr 1826))]) (st' := [.inr (.inr 1826)]) rfl ?_
          refine h_cv (i := 293) (j := 158) (b := 1826) (M' := mt_158) (xs := []) (rest := []) rfl rfl rfl rfl rfl rfl (Nat.le_of_ble_eq_true rfl) (Nat.le_of_ble_eq_true rfl) (by omega) (m_good0 (by omega) (by omega : (3 : Int) ≠ 0)) ?_
          rintro _ _ ⟨rfl, rfl⟩
          refine h_run 0 (pc' := 59) (l' := [(0, .inr (.inr 1826))]) (st' := [.inl 0]) rfl ?_
          refine h_zeq (off := 17) (t := 76) rfl rfl (by decide) (fun _ => ?_) (fun c => absurd c (by decide))
          refine h_run 1 (pc' := 77) (l' := [(0, .inr (.inr 1826))]) (st' := [.inr (.inr 1826)]) rfl ?_
          refine h_cv (i := 293) (j := 158) (b := 1826) (M' := mt_158) (xs := []) (rest := []) rfl rfl rfl rfl rfl rfl (Nat.le_of_ble_eq_true rfl) (Nat.le_of_ble_eq_true rfl) (by omega) (m_good0 (by omega) (by omega : (3 : Int) ≠ 0)) ?_
          rintro _ _ ⟨rfl, rfl⟩
          refine h_run 0 (pc' := 80) (l' := [(0, .inr (.inr 1826))]) (st' := [.inl 0]) rfl ?_
          refine h_zne (off := 4) (t := 84) rfl rfl (by decide) (fun c => absurd c (by decide)) (fun _ => ?_)
          refine h_ret rfl rfl ?_
          have g180 : -2147483648 ≤ (H73.1 1826 30) ∧ (H73.1 1826 30) ≤ 2147483647 := hrg74.1 1826 13 30 _ .int rfl rfl
          have g181 : -2147483648 ≤ (H73.1 1826 32) ∧ (H73.1 1826 32) ≤ 2147483647 := hrg74.1 1826 13 32 _ .int rfl rfl
          have g182 : -2147483648 ≤ (H73.1 1826 29) ∧ (H73.1 1826 29) ≤ 2147483647 := hrg74.1 1826 13 29 _ .int rfl rfl
          have e183 : (H73.1 1826 29) = (H.1 1826 29) := hx73f.2.2 29 (by decide)
          have g184 : -2147483648 ≤ (H73.1 1826 3) ∧ (H73.1 1826 3) ≤ 2147483647 := hrg74.1 1826 13 3 _ .int rfl rfl
          have e185 : (H73.1 1826 3) = (H.1 1826 3) := hx73f.2.2 3 (by decide)
          have g186 : -2147483648 ≤ (H73.1 1826 8) ∧ (H73.1 1826 8) ≤ 2147483647 := hrg74.1 1826 13 8 _ .int rfl rfl
          have e187 : (H73.1 1826 8) = (H.1 1826 8) := hx73f.2.2 8 (by decide)
          have g188 : -2147483648 ≤ (H73.1 1826 13) ∧ (H73.1 1826 13) ≤ 2147483647 := hrg74.1 1826 13 13 _ .int rfl rfl
          have e189 : (H73.1 1826 13) = (H.1 1826 13) := hx73f.2.2 13 (by decide)
          have g190 : -2147483648 ≤ (H73.1 1826 19) ∧ (H73.1 1826 19) ≤ 2147483647 := hrg74.1 1826 13 19 _ .int rfl rfl
          have e191 : (H73.1 1826 19) = (H.1 1826 19) := hx73f.2.2 19 (by decide)
          exact ⟨rfl, (Or.inr ⟨(by omega : (3 : Int) ≠ 0), (BD_mk hR1 (fr_o (fr_o (fr_rf [35, 36] [] H73) (by decide)) (by decide)) (by decide) (by decide) (by decide : (3 : Int) ≠ 0) rfl rfl (rch_st hq (by show stDec Y nn K X = _; unfold stDec miss; (repeat (first | rw [if_pos (by omega)] | rw [if_neg (by omega)])); try rfl)))⟩), (fr_o (fr_o hf75 (by decide)) (by decide)), (by omega : (H.1 1826 30) ≤ (H73.1 1826 30) ∧ (H73.1 1826 30) ≤ (H.1 1826 29)), (by omega : 0 ≤ (3 : Int) ∧ (3 : Int) ≤ 5), (by omega : (H.1 1826 35) ≠ 0 → (3 : Int) ≠ 0), (by omega : 0 ≤ (H73.1 1826 32) ∧ (H73.1 1826 32) ≤ 1000), (agp_o (agp_o ha76 (by decide)) (by decide)), (fun (q : (3 : Int) = 0) => absurd q (by omega))⟩
      · refine h_run 0 (pc' := 46) (l' := [(0, .inr (.inr 1826))]) (st' := [.inl (-1)]) rfl ?_
        refine h_run 1 (pc' := 47) (l' := [(0, .inr (.inr 1826))]) (st' := [.inl (-1), .inl (-1)]) rfl ?_
        refine h_ieq (off := 8) (t := 55) rfl rfl (by decide) (by decide) (fun _ => ?_) (fun c => absurd c (by decide))
        refine h_run 1 (pc' := 56) (l' := [(0, .inr (.inr 1826))]) (st' := [.inr (.inr 1826)]) rfl ?_
        refine h_cv (i := 293) (j := 158) (b := 1826) (M' := mt_158) (xs := []) (rest := []) rfl rfl rfl rfl rfl rfl (Nat.le_of_ble_eq_true rfl) (Nat.le_of_ble_eq_true rfl) (by omega) (m_good1 (by omega) (by omega : (H73.1 1826 35) = 0)) ?_
        rintro _ _ ⟨rfl, rfl⟩
        refine h_run 0 (pc' := 59) (l' := [(0, .inr (.inr 1826))]) (st' := [.inl 1]) rfl ?_
        refine h_zeq (off := 17) (t := 76) rfl rfl (by decide) (fun c => absurd c (by decide)) (fun _ => ?_)
        refine h_run 2 (pc' := 66) (l' := [(0, .inr (.inr 1826))]) (st' := [.inl (H73.1 1826 1)]) rfl ?_
        refine h_run 1 (pc' := 68) (l' := [(0, .inr (.inr 1826))]) (st' := [.inl 6, .inl (H73.1 1826 1)]) rfl ?_
        refine h_ine (off := 8) (t := 76) rfl rfl (by omega) (by decide) (fun c192 => ?_) (fun c192 => ?_)
        · refine h_run 1 (pc' := 77) (l' := [(0, .inr (.inr 1826))]) (st' := [.inr (.inr 1826)]) rfl ?_
          refine h_cv (i := 293) (j := 158) (b := 1826) (M' := mt_158) (xs := []) (rest := []) rfl rfl rfl rfl rfl rfl (Nat.le_of_ble_eq_true rfl) (Nat.le_of_ble_eq_true rfl) (by omega) (m_good1 (by omega) (by omega : (H73.1 1826 35) = 0)) ?_
          rintro _ _ ⟨rfl, rfl⟩
          refine h_run 0 (pc' := 80) (l' := [(0, .inr (.inr 1826))]) (st' := [.inl 1]) rfl ?_
          refine h_zne (off := 4) (t := 84) rfl rfl (by decide) (fun _ => ?_) (fun c => absurd c (by decide))
          refine h_run 4 (pc' := 92) (l' := [(0, .inr (.inr 1826))]) (st' := [.inl (H73.1 1826 1), .inr (.inr 1827)]) rfl ?_
          refine h_run 2 (pc' := 96) (l' := [(0, .inr (.inr 1826))]) (st' := [.inr (.inl (H73.1 1826 33)), .inl (H73.1 1826 1), .inr (.inr 1827)]) rfl ?_
          refine h_lst (c := 1827) (j := ((H73.1 1826 1)).toNat) (i := (H73.1 1826 1)) (x := (H73.1 1826 33)) rfl rfl (by decide) (by decide) (by omega) (by omega) (by first | omega | exact z_long _) ?_
          refine h_run 3 (pc' := 102) (l' := [(0, .inr (.inr 1826))]) (st' := [.inl (H73.1 1826 1), .inr (.inr 1826)]) rfl ?_
          refine h_run 2 (pc' := 104) (l' := [(0, .inr (.inr 1826))]) (st' := [.inl ((H73.1 1826 1) + 1), .inr (.inr 1826)]) rfl ?_
          refine h_puti (i := 306) (ci := 13) (k := 1) (a := 1826) (x := ((H73.1 1826 1) + 1)) rfl rfl rfl rfl rfl rfl (by decide) (by omega) ?_
          have hq3 : rch Y c0 ((1, 61, 0, 0) :: (7, X 0 3, 0, 0) :: (9, X 0 3, 0, 0) :: ((1, 59, 0, 0) :: (6, nn + 1, 0, 0) :: K), (xtyp (adv X) (tn Y (xi (adv X))))) := (rch_st hq (by show stDec Y nn K X = _; unfold stDec miss; (repeat (first | rw [if_pos (by omega)] | rw [if_neg (by omega)])); try rfl))
          refine h_run 1 (pc' := 108) (l' := [(0, .inr (.inr 1826))]) (st' := [.inr (.inr 1826)]) rfl ?_
          have g193 : -2147483648 ≤ (H73.1 1826 30) ∧ (H73.1 1826 30) ≤ 2147483647 := hrg74.1 1826 13 30 _ .int rfl rfl
          have g194 : -2147483648 ≤ (H73.1 1826 29) ∧ (H73.1 1826 29) ≤ 2147483647 := hrg74.1 1826 13 29 _ .int rfl rfl
          have e195 : (H73.1 1826 29) = (H.1 1826 29) := hx73f.2.2 29 (by decide)
          have g196 : -2147483648 ≤ (H73.1 1826 32) ∧ (H73.1 1826 32) ≤ 2147483647 := hrg74.1 1826 13 32 _ .int rfl rfl
          refine h_cv (i := 297) (j := 165) (b := 1826) (M' := mt_165) (xs := []) (rest := []) rfl rfl rfl rfl rfl rfl (Nat.le_of_ble_eq_true rfl) (Nat.le_of_ble_eq_true rfl) (by omega) (n_nx (by omega) (by omega : 0 ≤ (H73.1 1826 30) ∧ (H73.1 1826 30) ≤ (H73.1 1826 29) ∧ (H73.1 1826 29) ≤ 1000) (by omega : 0 ≤ (H73.1 1826 35) ∧ (H73.1 1826 35) ≤ 5) (by omega : 0 ≤ (H73.1 1826 32) ∧ (H73.1 1826 32) ≤ 1000) (by omega : (H73.1 1826 35) = 0) (X := (xtyp (adv X) (tn Y (xi (adv X))))) (RN_mk hR1 (fr_o (fr_a (fr_rf [1] [1827] H73) (by decide)) (by decide)) (by decide) (by decide) (xtyp_s _ _).1 (TA_typ hR1.2.2.2.2 (fr_o (fr_a (fr_rf [1] [1827] H73) (by decide)) (by decide)) (by decide) (by decide) (by omega) (by rw [← RK_n hR1 (Or.inr (by omega))]; rfl) rfl)) hq3 (lk_1 (by decide))) ?_
          rintro _ H197 ⟨rfl, hx197n, hx197f, hx197a, hx197b, hx197c, -, hx197e, hx197g⟩
          refine h_rng (fun hrg198 => ?_)
          have hf199 : fr [30, 31, 32, 33, 35, 36, 3, 1] [1828, 1829, 1830, 1831, 1827] H H197 := fr_t (fr_o (fr_a hf75 (by decide)) (by decide)) hx197f (by decide) (by decide)
          have ha200 : agp H H197 := agp_tr (agp_n1 (agp_a ha76 (by decide)) (by omega : (H.1 1826 1) ≤ ((H73.1 1826 1) + 1))) (agp_fr hx197f (by decide) (by decide))
          replace hx197a : (H73.1 1826 30) ≤ (H197.1 1826 30) := hx197a
          replace hx197b : (H197.1 1826 30) ≤ (H73.1 1826 29) := hx197b
          replace hx197g : (H197.1 1826 35) = 0 → ((H197.1 1826 31) = 0 ∨ (H73.1 1826 30) < (H197.1 1826 30)) := hx197g
          refine h_run 0 (pc' := 111) (l' := [(0, .inr (.inr 1826))]) (st' := []) rfl ?_
          refine h_run 2 (pc' := 114) (l' := [(0, .inr (.inr 1826))]) (st' := [.inl 61, .inr (.inr 1826)]) rfl ?_
          have g201 : -2147483648 ≤ (H197.1 1826 35) ∧ (H197.1 1826 35) ≤ 2147483647 := hrg198.1 1826 13 35 _ .int rfl rfl
          by_cases b202 : (H197.1 1826 35) = 0
          · have g203 : -2147483648 ≤ (H197.1 1826 30) ∧ (H197.1 1826 30) ≤ 2147483647 := hrg198.1 1826 13 30 _ .int rfl rfl
            have g204 : -2147483648 ≤ (H197.1 1826 29) ∧ (H197.1 1826 29) ≤ 2147483647 := hrg198.1 1826 13 29 _ .int rfl rfl
            have e205 : (H197.1 1826 29) = (H73.1 1826 29) := hx197f.2.2 29 (by decide)
            have g206 : -2147483648 ≤ (H197.1 1826 31) ∧ (H197.1 1826 31) ≤ 2147483647 := hrg198.1 1826 13 31 _ .int rfl rfl
            have g208 : -2147483648 ≤ (H197.1 1826 32) ∧ (H197.1 1826 32) ≤ 2147483647 := hrg198.1 1826 13 32 _ .int rfl rfl
            refine h_cv (i := 313) (j := 166) (b := 1826) (M' := mt_166) (xs := [.inl 61]) (rest := []) rfl rfl rfl rfl rfl rfl (Nat.le_of_ble_eq_true rfl) (Nat.le_of_ble_eq_true rfl) (by omega) (n_want (by omega) (by omega : 0 ≤ (H197.1 1826 30) ∧ (H197.1 1826 30) ≤ (H197.1 1826 29) ∧ (H197.1 1826 29) ≤ 1000) (by omega : 0 ≤ (H197.1 1826 35) ∧ (H197.1 1826 35) ≤ 5) (by omega : 0 ≤ (H197.1 1826 32) ∧ (H197.1 1826 32) ≤ 1000) (by omega) (by omega : (H197.1 1826 35) = 0) (GB_g hx197n (by omega)) hq3 (lk_n (by decide))) ?_
            rintro _ H207 ⟨rfl, hx207n, hx207f, hx207a, hx207b, hx207c, -, hx207e, hx207g⟩
            refine h_rng (fun hrg209 => ?_)
            have hf210 : fr [30, 31, 32, 33, 35, 36, 3, 1] [1828, 1829, 1830, 1831, 1827] H H207 := fr_t hf199 hx207f (by decide) (by decide)
            have ha211 : agp H H207 := agp_tr ha200 (agp_fr hx207f (by decide) (by decide))
            replace hx207a : (H197.1 1826 30) ≤ (H207.1 1826 30) := hx207a
            replace hx207b : (H207.1 1826 30) ≤ (H197.1 1826 29) := hx207b
            replace hx207g : (H207.1 1826 35) = 0 → (H197.1 1826 31) = (61 : Int) ∧ ((H207.1 1826 31) = 0 ∨ (H197.1 1826 30) < (H207.1 1826 30)) := hx207g
            refine h_run 0 (pc' := 117) (l' := [(0, .inr (.inr 1826))]) (st' := []) rfl ?_
            refine h_run 1 (pc' := 118) (l' := [(0, .inr (.inr 1826))]) (st' := [.inr (.inr 1826)]) rfl ?_
            have g212 : -2147483648 ≤ (H207.1 1826 35) ∧ (H207.1 1826 35) ≤ 2147483647 := hrg209.1 1826 13 35 _ .int rfl rfl
            by_cases b213 : (H207.1 1826 35) = 0
            · have g214 : -2147483648 ≤ (H207.1 1826 30) ∧ (H207.1 1826 30) ≤ 2147483647 := hrg209.1 1826 13 30 _ .int rfl rfl
              have g215 : -2147483648 ≤ (H207.1 1826 29) ∧ (H207.1 1826 29) ≤ 2147483647 := hrg209.1 1826 13 29 _ .int rfl rfl
              have e216 : (H207.1 1826 29) = (H197.1 1826 29) := hx207f.2.2 29 (by decide)
              have g217 : -2147483648 ≤ (H207.1 1826 31) ∧ (H207.1 1826 31) ≤ 2147483647 := hrg209.1 1826 13 31 _ .int rfl rfl
              have g218 : -2147483648 ≤ (H207.1 1826 1) ∧ (H207.1 1826 1) ≤ 2147483647 := hrg209.1 1826 13 1 _ .int rfl rfl
              have e219 : (H207.1 1826 1) = (H197.1 1826 1) := hx207f.2.2 1 (by decide)
              have e220 : (H197.1 1826 1) = ((H73.1 1826 1) + 1) := hx197f.2.2 1 (by decide)
              have g222 : -2147483648 ≤ (H207.1 1826 3) ∧ (H207.1 1826 3) ≤ 2147483647 := hrg209.1 1826 13 3 _ .int rfl rfl
              have e223 : (H207.1 1826 3) = (H197.1 1826 3) := hx207f.2.2 3 (by decide)
              have e224 : (H197.1 1826 3) = (H73.1 1826 3) := hx197f.2.2 3 (by decide)
              have e225 : (H73.1 1826 3) = (H.1 1826 3) := hx73f.2.2 3 (by decide)
              have g226 : -2147483648 ≤ (H207.1 1826 8) ∧ (H207.1 1826 8) ≤ 2147483647 := hrg209.1 1826 13 8 _ .int rfl rfl
              have e227 : (H207.1 1826 8) = (H197.1 1826 8) := hx207f.2.2 8 (by decide)
              have e228 : (H197.1 1826 8) = (H73.1 1826 8) := hx197f.2.2 8 (by decide)
              have e229 : (H73.1 1826 8) = (H.1 1826 8) := hx73f.2.2 8 (by decide)
              have g230 : -2147483648 ≤ (H207.1 1826 13) ∧ (H207.1 1826 13) ≤ 2147483647 := hrg209.1 1826 13 13 _ .int rfl rfl
              have e231 : (H207.1 1826 13) = (H197.1 1826 13) := hx207f.2.2 13 (by decide)
              have e232 : (H197.1 1826 13) = (H73.1 1826 13) := hx197f.2.2 13 (by decide)
              have e233 : (H73.1 1826 13) = (H.1 1826 13) := hx73f.2.2 13 (by decide)
              have g234 : -2147483648 ≤ (H207.1 1826 19) ∧ (H207.1 1826 19) ≤ 2147483647 := hrg209.1 1826 13 19 _ .int rfl rfl
              have e235 : (H207.1 1826 19) = (H197.1 1826 19) := hx207f.2.2 19 (by decide)
              have e236 : (H197.1 1826 19) = (H73.1 1826 19) := hx197f.2.2 19 (by decide)
              have e237 : (H73.1 1826 19) = (H.1 1826 19) := hx73f.2.2 19 (by decide)
              have g238 : -2147483648 ≤ (H207.1 1826 32) ∧ (H207.1 1826 32) ≤ 2147483647 := hrg209.1 1826 13 32 _ .int rfl rfl
              obtain ⟨X4, hq4, hR4, -⟩ := GB_g hx207n (by omega)
              refine h_cv (i := 316) (j := 171) (b := 1826) (M' := mt_171) (xs := []) (rest := []) rfl rfl rfl rfl rfl rfl (Nat.le_of_ble_eq_true rfl) (Nat.le_of_ble_eq_true rfl) (by omega) (n_constructor (by omega) (by omega : 0 ≤ (H207.1 1826 30) ∧ (H207.1 1826 30) ≤ (H207.1 1826 29) ∧ (H207.1 1826 29) ≤ 1000) (by omega : 0 ≤ (H207.1 1826 35) ∧ (H207.1 1826 35) ≤ 5) (by omega : 0 ≤ (H207.1 1826 32) ∧ (H207.1 1826 32) ≤ 1000) (PW_more hP ha211 ⟨(by omega : (H207.1 1826 1) ≤ 6), (by omega : (H207.1 1826 3) ≤ 16), (by omega : (H207.1 1826 8) ≤ 16)⟩ (m_con_agp pw1 ha211 (by omega : (H207.1 1826 3) = (H.1 1826 3))) (m_fun_agp pw2 ha211 (by omega : (H207.1 1826 8) = (H.1 1826 8))) (by omega : (H207.1 1826 13) = (H.1 1826 13)) (by omega : (H207.1 1826 19) = (H.1 1826 19))) (by omega : 1 ≤ (H207.1 1826 1)) (by omega : (H207.1 1826 35) = 0) hR4 (by rw [show (H207.1 1826 1) - 1 = X 0 3 by omega]; exact hq4) (lk_c (lk_1 (by decide)) (by decide : (9 : Nat) ≠ 0) (fun q => absurd q (by decide : (9 : Nat) ≠ 1)))) ?_
              rintro _ H221 ⟨rfl, hx221n, hx221f, hx221a, hx221c, -, hx221e, hx221g, hx221p⟩
              refine h_rng (fun hrg239 => ?_)
              have hf240 : fr [30, 31, 32, 33, 35, 36, 3, 1] [1828, 1829, 1830, 1831, 1827] H H221 := fr_t hf210 hx221f (by decide) (by decide)
              have ha241 : agp H H221 := agp_tr ha211 hx221g
              replace hx221a : (H207.1 1826 30) ≤ (H221.1 1826 30) ∧ (H221.1 1826 30) ≤ (H207.1 1826 29) := hx221a
              have hx221t : (H221.1 1826 35) = 0 → (H207.1 1826 31) = 2 := fun q => (hx221p q).1
              replace hx221p : (H221.1 1826 35) = 0 → PWc H221 := fun q => (hx221p q).2
              refine h_run 0 (pc' := 121) (l' := [(0, .inr (.inr 1826))]) (st' := []) rfl ?_
              have g242 : -2147483648 ≤ (H221.1 1826 30) ∧ (H221.1 1826 30) ≤ 2147483647 := hrg239.1 1826 13 30 _ .int rfl rfl
              have g243 : -2147483648 ≤ (H221.1 1826 35) ∧ (H221.1 1826 35) ≤ 2147483647 := hrg239.1 1826 13 35 _ .int rfl rfl
              have g244 : -2147483648 ≤ (H221.1 1826 32) ∧ (H221.1 1826 32) ≤ 2147483647 := hrg239.1 1826 13 32 _ .int rfl rfl
              have g245 : -2147483648 ≤ (H221.1 1826 31) ∧ (H221.1 1826 31) ≤ 2147483647 := hrg239.1 1826 13 31 _ .int rfl rfl
              have g246 : -2147483648 ≤ (H221.1 1826 3) ∧ (H221.1 1826 3) ≤ 2147483647 := hrg239.1 1826 13 3 _ .int rfl rfl
              have g247 : -2147483648 ≤ (H221.1 1826 29) ∧ (H221.1 1826 29) ≤ 2147483647 := hrg239.1 1826 13 29 _ .int rfl rfl
              have e248 : (H221.1 1826 29) = (H207.1 1826 29) := hx221f.2.2 29 (by decide)
              have g249 : -2147483648 ≤ (H221.1 1826 1) ∧ (H221.1 1826 1) ≤ 2147483647 := hrg239.1 1826 13 1 _ .int rfl rfl
              have e250 : (H221.1 1826 1) = (H207.1 1826 1) := hx221f.2.2 1 (by decide)
              exact (n_data_cut hd h0 hw hst hP hw0 hR hq htk _) _ hf240 (by omega : (H.1 1826 30) ≤ (H221.1 1826 30) ∧ (H221.1 1826 30) ≤ (H.1 1826 29)) (by omega : 0 ≤ (H221.1 1826 35) ∧ (H221.1 1826 35) ≤ 5) (by omega : 0 ≤ (H221.1 1826 32) ∧ (H221.1 1826 32) ≤ 1000) ha241 hx221p (by omega : (H221.1 1826 1) = X 0 3 + 1) (by omega) hx221n (Nat.lt_succ_self _)
            · refine h_cv (i := 316) (j := 171) (b := 1826) (M' := mt_171) (xs := []) (rest := []) rfl rfl rfl rfl rfl rfl (Nat.le_of_ble_eq_true rfl) (Nat.le_of_ble_eq_true rfl) (by omega) (n_constructor0 (by omega) (by omega : (H207.1 1826 35) ≠ 0)) ?_
              rintro _ _ ⟨rfl, rfl⟩
              refine h_run 0 (pc' := 121) (l' := [(0, .inr (.inr 1826))]) (st' := []) rfl ?_
              have g251 : -2147483648 ≤ (H207.1 1826 30) ∧ (H207.1 1826 30) ≤ 2147483647 := hrg209.1 1826 13 30 _ .int rfl rfl
              have g252 : -2147483648 ≤ (H207.1 1826 32) ∧ (H207.1 1826 32) ≤ 2147483647 := hrg209.1 1826 13 32 _ .int rfl rfl
              have g253 : -2147483648 ≤ (H207.1 1826 31) ∧ (H207.1 1826 31) ≤ 2147483647 := hrg209.1 1826 13 31 _ .int rfl rfl
              have g254 : -2147483648 ≤ (H207.1 1826 3) ∧ (H207.1 1826 3) ≤ 2147483647 := hrg209.1 1826 13 3 _ .int rfl rfl
              have e255 : (H207.1 1826 3) = (H197.1 1826 3) := hx207f.2.2 3 (by decide)
              have e256 : (H197.1 1826 3) = (H73.1 1826 3) := hx197f.2.2 3 (by decide)
              have e257 : (H73.1 1826 3) = (H.1 1826 3) := hx73f.2.2 3 (by decide)
              have g258 : -2147483648 ≤ (H207.1 1826 29) ∧ (H207.1 1826 29) ≤ 2147483647 := hrg209.1 1826 13 29 _ .int rfl rfl
              have e259 : (H207.1 1826 29) = (H197.1 1826 29) := hx207f.2.2 29 (by decide)
              have g260 : -2147483648 ≤ (H207.1 1826 1) ∧ (H207.1 1826 1) ≤ 2147483647 := hrg209.1 1826 13 1 _ .int rfl rfl
              have e261 : (H207.1 1826 1) = (H197.1 1826 1) := hx207f.2.2 1 (by decide)
              have e262 : (H197.1 1826 1) = ((H73.1 1826 1) + 1) := hx197f.2.2 1 (by decide)
              exact (n_data_cut hd h0 hw hst hP hw0 hR hq htk _) _ hf210 (by omega : (H.1 1826 30) ≤ (H207.1 1826 30) ∧ (H207.1 1826 30) ≤ (H.1 1826 29)) (by omega : 0 ≤ (H207.1 1826 35) ∧ (H207.1 1826 35) ≤ 5) (by omega : 0 ≤ (H207.1 1826 32) ∧ (H207.1 1826 32) ≤ 1000) ha211 (fun (q : (H207.1 1826 35) = 0) => absurd q (by omega)) (by omega : (H207.1 1826 1) = X 0 3 + 1) (by omega) (Or.inr ⟨(by omega : (H207.1 1826 35) ≠ 0), GB_b hx207n (by omega)⟩) (Nat.lt_succ_self _)
          · refine h_cv (i := 313) (j := 166) (b := 1826) (M' := mt_166) (xs := [.inl 61]) (rest := []) rfl rfl rfl rfl rfl rfl (Nat.le_of_ble_eq_true rfl) (Nat.le_of_ble_eq_true rfl) (by omega) (n_want0 (by omega) (by omega : (H197.1 1826 35) ≠ 0)) ?_
            rintro _ _ ⟨rfl, rfl⟩
            refine h_run 0 (pc' := 117) (l' := [(0, .inr (.inr 1826))]) (st' := []) rfl ?_
            refine h_run 1 (pc' := 118) (l' := [(0, .inr (.inr 1826))]) (st' := [.inr (.inr 1826)]) rfl ?_
            refine h_cv (i := 316) (j := 171) (b := 1826) (M' := mt_171) (xs := []) (rest := []) rfl rfl rfl rfl rfl rfl (Nat.le_of_ble_eq_true rfl) (Nat.le_of_ble_eq_true rfl) (by omega) (n_constructor0 (by omega) (by omega : (H197.1 1826 35) ≠ 0)) ?_
            rintro _ _ ⟨rfl, rfl⟩
            refine h_run 0 (pc' := 121) (l' := [(0, .inr (.inr 1826))]) (st' := []) rfl ?_
            have g263 : -2147483648 ≤ (H197.1 1826 30) ∧ (H197.1 1826 30) ≤ 2147483647 := hrg198.1 1826 13 30 _ .int rfl rfl
            have g264 : -2147483648 ≤ (H197.1 1826 32) ∧ (H197.1 1826 32) ≤ 2147483647 := hrg198.1 1826 13 32 _ .int rfl rfl
            have g265 : -2147483648 ≤ (H197.1 1826 31) ∧ (H197.1 1826 31) ≤ 2147483647 := hrg198.1 1826 13 31 _ .int rfl rfl
            have g266 : -2147483648 ≤ (H197.1 1826 3) ∧ (H197.1 1826 3) ≤ 2147483647 := hrg198.1 1826 13 3 _ .int rfl rfl
            have e267 : (H197.1 1826 3) = (H73.1 1826 3) := hx197f.2.2 3 (by decide)
            have e268 : (H73.1 1826 3) = (H.1 1826 3) := hx73f.2.2 3 (by decide)
            have g269 : -2147483648 ≤ (H197.1 1826 29) ∧ (H197.1 1826 29) ≤ 2147483647 := hrg198.1 1826 13 29 _ .int rfl rfl
            have e270 : (H197.1 1826 29) = (H73.1 1826 29) := hx197f.2.2 29 (by decide)
            have g271 : -2147483648 ≤ (H197.1 1826 1) ∧ (H197.1 1826 1) ≤ 2147483647 := hrg198.1 1826 13 1 _ .int rfl rfl
            have e272 : (H197.1 1826 1) = ((H73.1 1826 1) + 1) := hx197f.2.2 1 (by decide)
            exact (n_data_cut hd h0 hw hst hP hw0 hR hq htk _) _ hf199 (by omega : (H.1 1826 30) ≤ (H197.1 1826 30) ∧ (H197.1 1826 30) ≤ (H.1 1826 29)) (by omega : 0 ≤ (H197.1 1826 35) ∧ (H197.1 1826 35) ≤ 5) (by omega : 0 ≤ (H197.1 1826 32) ∧ (H197.1 1826 32) ≤ 1000) ha200 (fun (q : (H197.1 1826 35) = 0) => absurd q (by omega)) (by omega : (H197.1 1826 1) = X 0 3 + 1) (by omega) (Or.inr ⟨(by omega : (H197.1 1826 35) ≠ 0), GB_b hx197n (by omega)⟩) (Nat.lt_succ_self _)
        · refine h_run 2 (pc' := 73) (l' := [(0, .inr (.inr 1826))]) (st' := [.inl 5, .inr (.inr 1826)]) rfl ?_
          refine h_cv (i := 278) (j := 159) (b := 1826) (M' := mt_159) (xs := [.inl 5]) (rest := []) rfl rfl rfl rfl rfl rfl (Nat.le_of_ble_eq_true rfl) (Nat.le_of_ble_eq_true rfl) (by omega) (m_bad0 (by omega) (by omega) (by omega : (H73.1 1826 35) = 0)) ?_
          rintro _ _ ⟨rfl, rfl⟩
          refine h_run 0 (pc' := 76) (l' := [(0, .inr (.inr 1826))]) (st' := []) rfl ?_
          refine h_run 1 (pc' := 77) (l' := [(0, .inr (.inr 1826))]) (st' := [.inr (.inr 1826)]) rfl ?_
          refine h_cv (i := 293) (j := 158) (b := 1826) (M' := mt_158) (xs := []) (rest := []) rfl rfl rfl rfl rfl rfl (Nat.le_of_ble_eq_true rfl) (Nat.le_of_ble_eq_true rfl) (by omega) (m_good0 (by omega) (by omega : (5 : Int) ≠ 0)) ?_
          rintro _ _ ⟨rfl, rfl⟩
          refine h_run 0 (pc' := 80) (l' := [(0, .inr (.inr 1826))]) (st' := [.inl 0]) rfl ?_
          refine h_zne (off := 4) (t := 84) rfl rfl (by decide) (fun c => absurd c (by decide)) (fun _ => ?_)
          refine h_ret rfl rfl ?_
          have g273 : -2147483648 ≤ (H73.1 1826 30) ∧ (H73.1 1826 30) ≤ 2147483647 := hrg74.1 1826 13 30 _ .int rfl rfl
          have g274 : -2147483648 ≤ (H73.1 1826 32) ∧ (H73.1 1826 32) ≤ 2147483647 := hrg74.1 1826 13 32 _ .int rfl rfl
          have g275 : -2147483648 ≤ (H73.1 1826 29) ∧ (H73.1 1826 29) ≤ 2147483647 := hrg74.1 1826 13 29 _ .int rfl rfl
          have e276 : (H73.1 1826 29) = (H.1 1826 29) := hx73f.2.2 29 (by decide)
          have g277 : -2147483648 ≤ (H73.1 1826 3) ∧ (H73.1 1826 3) ≤ 2147483647 := hrg74.1 1826 13 3 _ .int rfl rfl
          have e278 : (H73.1 1826 3) = (H.1 1826 3) := hx73f.2.2 3 (by decide)
          have g279 : -2147483648 ≤ (H73.1 1826 8) ∧ (H73.1 1826 8) ≤ 2147483647 := hrg74.1 1826 13 8 _ .int rfl rfl
          have e280 : (H73.1 1826 8) = (H.1 1826 8) := hx73f.2.2 8 (by decide)
          have g281 : -2147483648 ≤ (H73.1 1826 13) ∧ (H73.1 1826 13) ≤ 2147483647 := hrg74.1 1826 13 13 _ .int rfl rfl
          have e282 : (H73.1 1826 13) = (H.1 1826 13) := hx73f.2.2 13 (by decide)
          have g283 : -2147483648 ≤ (H73.1 1826 19) ∧ (H73.1 1826 19) ≤ 2147483647 := hrg74.1 1826 13 19 _ .int rfl rfl
          have e284 : (H73.1 1826 19) = (H.1 1826 19) := hx73f.2.2 19 (by decide)
          exact ⟨rfl, (Or.inr ⟨(by omega : (5 : Int) ≠ 0), (BD_mk hR1 (fr_o (fr_o (fr_rf [35, 36] [] H73) (by decide)) (by decide)) (by decide) (by decide) (by decide : (5 : Int) ≠ 0) rfl rfl (rch_st hq (by show stDec Y nn K X = _; unfold stDec miss; (repeat (first | rw [if_pos (by omega)] | rw [if_neg (by omega)])); try rfl)))⟩), (fr_o (fr_o hf75 (by decide)) (by decide)), (by omega : (H.1 1826 30) ≤ (H73.1 1826 30) ∧ (H73.1 1826 30) ≤ (H.1 1826 29)), (by omega : 0 ≤ (5 : Int) ∧ (5 : Int) ≤ 5), (by omega : (H.1 1826 35) ≠ 0 → (5 : Int) ≠ 0), (by omega : 0 ≤ (H73.1 1826 32) ∧ (H73.1 1826 32) ≤ 1000), (agp_o (agp_o ha76 (by decide)) (by decide)), (fun (q : (5 : Int) = 0) => absurd q (by omega))⟩
    · refine h_run 2 (pc' := 21) (l' := [(0, .inr (.inr 1826))]) (st' := [.inl 2, .inr (.inr 1826)]) rfl ?_
      refine h_cv (i := 278) (j := 159) (b := 1826) (M' := mt_159) (xs := [.inl 2]) (rest := []) rfl rfl rfl rfl rfl rfl (Nat.le_of_ble_eq_true rfl) (Nat.le_of_ble_eq_true rfl) (by omega) (m_bad0 (by omega) (by omega) (by omega : (H73.1 1826 35) = 0)) ?_
      rintro _ _ ⟨rfl, rfl⟩
      refine h_run 0 (pc' := 24) (l' := [(0, .inr (.inr 1826))]) (st' := []) rfl ?_
      refine h_run 1 (pc' := 25) (l' := [(0, .inr (.inr 1826))]) (st' := [.inr (.inr 1826)]) rfl ?_
      refine h_cv (i := 293) (j := 158) (b := 1826) (M' := mt_158) (xs := []) (rest := []) rfl rfl rfl rfl rfl rfl (Nat.le_of_ble_eq_true rfl) (Nat.le_of_ble_eq_true rfl) (by omega) (m_good0 (by omega) (by omega : (2 : Int) ≠ 0)) ?_
      rintro _ _ ⟨rfl, rfl⟩
      refine h_run 0 (pc' := 28) (l' := [(0, .inr (.inr 1826))]) (st' := [.inl 0]) rfl ?_
      refine h_zeq (off := 27) (t := 55) rfl rfl (by decide) (fun _ => ?_) (fun c => absurd c (by decide))
      refine h_run 1 (pc' := 56) (l' := [(0, .inr (.inr 1826))]) (st' := [.inr (.inr 1826)]) rfl ?_
      refine h_cv (i := 293) (j := 158) (b := 1826) (M' := mt_158) (xs := []) (rest := []) rfl rfl rfl rfl rfl rfl (Nat.le_of_ble_eq_true rfl) (Nat.le_of_ble_eq_true rfl) (by omega) (m_good0 (by omega) (by omega : (2 : Int) ≠ 0)) ?_
      rintro _ _ ⟨rfl, rfl⟩
      refine h_run 0 (pc' := 59) (l' := [(0, .inr (.inr 1826))]) (st' := [.inl 0]) rfl ?_
      refine h_zeq (off := 17) (t := 76) rfl rfl (by decide) (fun _ => ?_) (fun c => absurd c (by decide))
      refine h_run 1 (pc' := 77) (l' := [(0, .inr (.inr 1826))]) (st' := [.inr (.inr 1826)]) rfl ?_
      refine h_cv (i := 293) (j := 158) (b := 1826) (M' := mt_158) (xs := []) (rest := []) rfl rfl rfl rfl rfl rfl (Nat.le_of_ble_eq_true rfl) (Nat.le_of_ble_eq_true rfl) (by omega) (m_good0 (by omega) (by omega : (2 : Int) ≠ 0)) ?_
      rintro _ _ ⟨rfl, rfl⟩
      refine h_run 0 (pc' := 80) (l' := [(0, .inr (.inr 1826))]) (st' := [.inl 0]) rfl ?_
      refine h_zne (off := 4) (t := 84) rfl rfl (by decide) (fun c => absurd c (by decide)) (fun _ => ?_)
      refine h_ret rfl rfl ?_
      have g285 : -2147483648 ≤ (H73.1 1826 30) ∧ (H73.1 1826 30) ≤ 2147483647 := hrg74.1 1826 13 30 _ .int rfl rfl
      have g286 : -2147483648 ≤ (H73.1 1826 32) ∧ (H73.1 1826 32) ≤ 2147483647 := hrg74.1 1826 13 32 _ .int rfl rfl
      have g287 : -2147483648 ≤ (H73.1 1826 29) ∧ (H73.1 1826 29) ≤ 2147483647 := hrg74.1 1826 13 29 _ .int rfl rfl
      have e288 : (H73.1 1826 29) = (H.1 1826 29) := hx73f.2.2 29 (by decide)
      have g289 : -2147483648 ≤ (H73.1 1826 1) ∧ (H73.1 1826 1) ≤ 2147483647 := hrg74.1 1826 13 1 _ .int rfl rfl
      have e290 : (H73.1 1826 1) = (H.1 1826 1) := hx73f.2.2 1 (by decide)
      have g291 : -2147483648 ≤ (H73.1 1826 3) ∧ (H73.1 1826 3) ≤ 2147483647 := hrg74.1 1826 13 3 _ .int rfl rfl
      have e292 : (H73.1 1826 3) = (H.1 1826 3) := hx73f.2.2 3 (by decide)
      have g293 : -2147483648 ≤ (H73.1 1826 8) ∧ (H73.1 1826 8) ≤ 2147483647 := hrg74.1 1826 13 8 _ .int rfl rfl
      have e294 : (H73.1 1826 8) = (H.1 1826 8) := hx73f.2.2 8 (by decide)
      have g295 : -2147483648 ≤ (H73.1 1826 13) ∧ (H73.1 1826 13) ≤ 2147483647 := hrg74.1 1826 13 13 _ .int rfl rfl
      have e296 : (H73.1 1826 13) = (H.1 1826 13) := hx73f.2.2 13 (by decide)
      have g297 : -2147483648 ≤ (H73.1 1826 19) ∧ (H73.1 1826 19) ≤ 2147483647 := hrg74.1 1826 13 19 _ .int rfl rfl
      have e298 : (H73.1 1826 19) = (H.1 1826 19) := hx73f.2.2 19 (by decide)
      exact ⟨rfl, (Or.inr ⟨(by omega : (2 : Int) ≠ 0), (BD_mk hR1 (fr_o (fr_o (fr_rf [35, 36] [] H73) (by decide)) (by decide)) (by decide) (by decide) (by decide : (2 : Int) ≠ 0) rfl rfl (rch_st hq (by show stDec Y nn K X = _; unfold stDec miss; (repeat (first | rw [if_pos (by omega)] | rw [if_neg (by omega)])); try rfl)))⟩), (fr_o (fr_o hf75 (by decide)) (by decide)), (by omega : (H.1 1826 30) ≤ (H73.1 1826 30) ∧ (H73.1 1826 30) ≤ (H.1 1826 29)), (by omega : 0 ≤ (2 : Int) ∧ (2 : Int) ≤ 5), (by omega : (H.1 1826 35) ≠ 0 → (2 : Int) ≠ 0), (by omega : 0 ≤ (H73.1 1826 32) ∧ (H73.1 1826 32) ≤ 1000), (agp_o (agp_o ha76 (by decide)) (by decide)), (fun (q : (2 : Int) = 0) => absurd q (by omega))⟩
  · have b78x : (H73.1 1826 35) ≠ 0 := b78
    clear hx73g
    refine h_run 0 (pc' := 8) (l' := [(0, .inr (.inr 1826))]) (st' := [.inl 0]) rfl ?_
    refine h_zeq (off := 16) (t := 24) rfl rfl (by decide) (fun _ => ?_) (fun c => absurd c (by decide))
    refine h_run 1 (pc' := 25) (l' := [(0, .inr (.inr 1826))]) (st' := [.inr (.inr 1826)]) rfl ?_
    refine h_cv (i := 293) (j := 158) (b := 1826) (M' := mt_158) (xs := []) (rest := []) rfl rfl rfl rfl rfl rfl (Nat.le_of_ble_eq_true rfl) (Nat.le_of_ble_eq_true rfl) (by omega) (m_good0 (by omega) (by omega : (H73.1 1826 35) ≠ 0)) ?_
    rintro _ _ ⟨rfl, rfl⟩
    refine h_run 0 (pc' := 28) (l' := [(0, .inr (.inr 1826))]) (st' := [.inl 0]) rfl ?_
    refine h_zeq (off := 27) (t := 55) rfl rfl (by decide) (fun _ => ?_) (fun c => absurd c (by decide))
    refine h_run 1 (pc' := 56) (l' := [(0, .inr (.inr 1826))]) (st' := [.inr (.inr 1826)]) rfl ?_
    refine h_cv (i := 293) (j := 158) (b := 1826) (M' := mt_158) (xs := []) (rest := []) rfl rfl rfl rfl rfl rfl (Nat.le_of_ble_eq_true rfl) (Nat.le_of_ble_eq_true rfl) (by omega) (m_good0 (by omega) (by omega : (H73.1 1826 35) ≠ 0)) ?_
    rintro _ _ ⟨rfl, rfl⟩
    refine h_run 0 (pc' := 59) (l' := [(0, .inr (.inr 1826))]) (st' := [.inl 0]) rfl ?_
    refine h_zeq (off := 17) (t := 76) rfl rfl (by decide) (fun _ => ?_) (fun c => absurd c (by decide))
    refine h_run 1 (pc' := 77) (l' := [(0, .inr (.inr 1826))]) (st' := [.inr (.inr 1826)]) rfl ?_
    refine h_cv (i := 293) (j := 158) (b := 1826) (M' := mt_158) (xs := []) (rest := []) rfl rfl rfl rfl rfl rfl (Nat.le_of_ble_eq_true rfl) (Nat.le_of_ble_eq_true rfl) (by omega) (m_good0 (by omega) (by omega : (H73.1 1826 35) ≠ 0)) ?_
    rintro _ _ ⟨rfl, rfl⟩
    refine h_run 0 (pc' := 80) (l' := [(0, .inr (.inr 1826))]) (st' := [.inl 0]) rfl ?_
    refine h_zne (off := 4) (t := 84) rfl rfl (by decide) (fun c => absurd c (by decide)) (fun _ => ?_)
    refine h_ret rfl rfl ?_
    have g299 : -2147483648 ≤ (H73.1 1826 30) ∧ (H73.1 1826 30) ≤ 2147483647 := hrg74.1 1826 13 30 _ .int rfl rfl
    have g300 : -2147483648 ≤ (H73.1 1826 32) ∧ (H73.1 1826 32) ≤ 2147483647 := hrg74.1 1826 13 32 _ .int rfl rfl
    have g301 : -2147483648 ≤ (H73.1 1826 29) ∧ (H73.1 1826 29) ≤ 2147483647 := hrg74.1 1826 13 29 _ .int rfl rfl
    have e302 : (H73.1 1826 29) = (H.1 1826 29) := hx73f.2.2 29 (by decide)
    have g303 : -2147483648 ≤ (H73.1 1826 1) ∧ (H73.1 1826 1) ≤ 2147483647 := hrg74.1 1826 13 1 _ .int rfl rfl
    have e304 : (H73.1 1826 1) = (H.1 1826 1) := hx73f.2.2 1 (by decide)
    have g305 : -2147483648 ≤ (H73.1 1826 3) ∧ (H73.1 1826 3) ≤ 2147483647 := hrg74.1 1826 13 3 _ .int rfl rfl
    have e306 : (H73.1 1826 3) = (H.1 1826 3) := hx73f.2.2 3 (by decide)
    have g307 : -2147483648 ≤ (H73.1 1826 8) ∧ (H73.1 1826 8) ≤ 2147483647 := hrg74.1 1826 13 8 _ .int rfl rfl
    have e308 : (H73.1 1826 8) = (H.1 1826 8) := hx73f.2.2 8 (by decide)
    have g309 : -2147483648 ≤ (H73.1 1826 13) ∧ (H73.1 1826 13) ≤ 2147483647 := hrg74.1 1826 13 13 _ .int rfl rfl
    have e310 : (H73.1 1826 13) = (H.1 1826 13) := hx73f.2.2 13 (by decide)
    have g311 : -2147483648 ≤ (H73.1 1826 19) ∧ (H73.1 1826 19) ≤ 2147483647 := hrg74.1 1826 13 19 _ .int rfl rfl
    have e312 : (H73.1 1826 19) = (H.1 1826 19) := hx73f.2.2 19 (by decide)
    exact ⟨rfl, (Or.inr ⟨(by omega : (H73.1 1826 35) ≠ 0), GB_b hx73n (by omega)⟩), hf75, (by omega : (H.1 1826 30) ≤ (H73.1 1826 30) ∧ (H73.1 1826 30) ≤ (H.1 1826 29)), (by omega : 0 ≤ (H73.1 1826 35) ∧ (H73.1 1826 35) ≤ 5), (by omega : (H.1 1826 35) ≠ 0 → (H73.1 1826 35) ≠ 0), (by omega : 0 ≤ (H73.1 1826 32) ∧ (H73.1 1826 32) ≤ 1000), ha76, (fun (q : (H73.1 1826 35) = 0) => absurd q (by omega))⟩

/-! function -/
set_option maxRecDepth 100000 in
theorem n_function_cut {zC : Nat → Option zsh} {d : Nat} (hd : 5 ≤ d) {H : hp}  {Y : yx} {m : Int} {c0 : cf} {K : List tq} {X : rx} {nn : Int} (h0 : 0 ≤ (H.1 1826 30) ∧ (H.1 1826 30) ≤ (H.1 1826 29) ∧ (H.1 1826 29) ≤ 1000) (hw : 0 ≤ (H.1 1826 35) ∧ (H.1 1826 35) ≤ 5) (hst : 0 ≤ (H.1 1826 32) ∧ (H.1 1826 32) ≤ 1000) (hP : PWc H) (hw0 : (H.1 1826 35) = 0) (hR : RK Y m H X) (hmf : (H.1 1826 8) = m) (hq : rch Y c0 ((6, nn, 0, 0) :: K, X)) (htk : tk Y (xi X) = 5) : ∀ w : Nat, (∀ (H1 : hp) (c : Nat) (t : Int), (fr [30, 31, 32, 33, 35, 36, 8] [1832, 1833, 1834, 1835] H H1) → ((H.1 1826 30) ≤ (H1.1 1826 30) ∧ (H1.1 1826 30) ≤ (H.1 1826 29)) → (0 ≤ (H1.1 1826 35) ∧ (H1.1 1826 35) ≤ 5) → (0 ≤ (H1.1 1826 32) ∧ (H1.1 1826 32) ≤ 1000) → (agp H H1) → ((c : Int) = (H.1 1826 8) ∧ (H.1 1826 8) ≤ 15) → ((H1.1 1826 8) = (H.1 1826 8) + 1) → (-1 ≤ t ∧ t ≤ 6) → ((H1.1 1826 35) = 0 → 0 ≤ t ∧ t < (H1.1 1826 1)) → ((H1.1 1826 35) = 0 → (0 ≤ (H1.1 1833) c ∧ (H1.1 1833) c ≤ 4) ∧ ∀ i : Nat, (i : Int) < (H1.1 1833) c → 0 ≤ (H1.1 1834) (4 * c + i) ∧ (H1.1 1834) (4 * c + i) < (H1.1 1826 1)) → (FL Y m c0 ((1, 59, 0, 0) :: (6, nn + 1, 0, 0) :: K) c t H1) → mu (H1.1 1826 35) (H1.1 1826 31) (H1.1 1826 30) (H.1 1826 29) < w → hG (zs zC) d mt_173 142 [(0, .inr (.inr 1826)), (1, .inl (c : Int)), (2, .inl t)] [] H1 (fun r H2 => r = none ∧ GB Y m c0 H2 (∃ X2 : rx, rch Y c0 (((1, 59, 0, 0) :: (6, nn + 1, 0, 0) :: K), X2) ∧ RK Y (m + 1) H2 X2 ∧ (H2.1 1826 8) = m + 1) ∧ fr [30, 31, 32, 33, 35, 36, 8] [1832, 1833, 1834, 1835] H H2 ∧ ((H.1 1826 30) ≤ (H2.1 1826 30) ∧ (H2.1 1826 30) ≤ (H.1 1826 29)) ∧ (0 ≤ (H2.1 1826 35) ∧ (H2.1 1826 35) ≤ 5) ∧ ((H.1 1826 35) ≠ 0 → (H2.1 1826 35) ≠ 0) ∧ (0 ≤ (H2.1 1826 32) ∧ (H2.1 1826 32) ≤ 1000) ∧ agp H H2 ∧ ((H2.1 1826 35) = 0 → PWc H2))) := by
  intro w
  induction w with
  | zero => exact fun _ _ _ _ _ _ _ _ _ _ _ _ _ _ h => absurd h (Nat.not_lt_zero _)
  | succ w ih =>
    intro H1 c t hf ha hk hst1 hag hc hcn ht htg hfa hFL hw
    refine h_rng (fun hrg1 => ?_)
    obtain ⟨⟨pb1, pb2, pb3, pb4, pb5⟩, pw1, pw2, pw3, pw4⟩ := (id hP : PW H (H.1 1826 1) (H.1 1826 3) (H.1 1826 8) (H.1 1826 13) (H.1 1826 19))
    refine h_run 1 (pc' := 143) (l' := [(0, .inr (.inr 1826)), (1, .inl (c : Int)), (2, .inl t)]) (st' := [.inr (.inr 1826)]) rfl ?_
    have g2 : -2147483648 ≤ (H1.1 1826 35) ∧ (H1.1 1826 35) ≤ 2147483647 := hrg1.1 1826 13 35 _ .int rfl rfl
    refine h_cv (i := 293) (j := 158) (b := 1826) (M' := mt_158) (xs := []) (rest := []) rfl rfl rfl rfl rfl rfl (Nat.le_of_ble_eq_true rfl) (Nat.le_of_ble_eq_true rfl) (by omega) (m_good (by omega)) ?_
    rintro _ _ ⟨⟨rfl, b3⟩ | ⟨rfl, b3⟩, rfl⟩
    · have b3x : (H1.1 1826 35) = 0 := b3
      refine h_run 0 (pc' := 146) (l' := [(0, .inr (.inr 1826)), (1, .inl (c : Int)), (2, .inl t)]) (st' := [.inl 1]) rfl ?_
      refine h_zeq (off := 77) (t := 223) rfl rfl (by decide) (fun c => absurd c (by decide)) (fun _ => ?_)
      refine h_run 2 (pc' := 153) (l' := [(0, .inr (.inr 1826)), (1, .inl (c : Int)), (2, .inl t)]) (st' := [.inl (H1.1 1826 31)]) rfl ?_
      have g4 : -2147483648 ≤ (H1.1 1826 31) ∧ (H1.1 1826 31) ≤ 2147483647 := hrg1.1 1826 13 31 _ .int rfl rfl
      refine h_run 1 (pc' := 155) (l' := [(0, .inr (.inr 1826)), (1, .inl (c : Int)), (2, .inl t)]) (st' := [.inl 62, .inl (H1.1 1826 31)]) rfl ?_
      refine h_ine (off := 68) (t := 223) rfl rfl (by omega) (by decide) (fun c5 => ?_) (fun c5 => ?_)
      · refine h_run 4 (pc' := 229) (l' := [(0, .inr (.inr 1826)), (1, .inl (c : Int)), (2, .inl t)]) (st' := [.inl t, .inl (c : Int), .inr (.inr 1835)]) rfl ?_
        refine h_ist (c := 1835) (j := c) (i := (c : Int)) (x := t) rfl rfl (by decide) (by decide) rfl (by omega) (by omega) ?_
        refine h_ret rfl rfl ?_
        have g6 : -2147483648 ≤ (H1.1 1826 30) ∧ (H1.1 1826 30) ≤ 2147483647 := hrg1.1 1826 13 30 _ .int rfl rfl
        have g7 : -2147483648 ≤ (H1.1 1826 32) ∧ (H1.1 1826 32) ≤ 2147483647 := hrg1.1 1826 13 32 _ .int rfl rfl
        have g8 : -2147483648 ≤ (H1.1 1826 29) ∧ (H1.1 1826 29) ≤ 2147483647 := hrg1.1 1826 13 29 _ .int rfl rfl
        have e9 : (H1.1 1826 29) = (H.1 1826 29) := hf.2.2 29 (by decide)
        have g10 : -2147483648 ≤ (H1.1 1826 1) ∧ (H1.1 1826 1) ≤ 2147483647 := hrg1.1 1826 13 1 _ .int rfl rfl
        have e11 : (H1.1 1826 1) = (H.1 1826 1) := hf.2.2 1 (by decide)
        have g12 : -2147483648 ≤ (H1.1 1826 3) ∧ (H1.1 1826 3) ≤ 2147483647 := hrg1.1 1826 13 3 _ .int rfl rfl
        have e13 : (H1.1 1826 3) = (H.1 1826 3) := hf.2.2 3 (by decide)
        have g14 : -2147483648 ≤ (H1.1 1826 8) ∧ (H1.1 1826 8) ≤ 2147483647 := hrg1.1 1826 13 8 _ .int rfl rfl
        have g15 : -2147483648 ≤ (H1.1 1826 13) ∧ (H1.1 1826 13) ≤ 2147483647 := hrg1.1 1826 13 13 _ .int rfl rfl
        have e16 : (H1.1 1826 13) = (H.1 1826 13) := hf.2.2 13 (by decide)
        have g17 : -2147483648 ≤ (H1.1 1826 19) ∧ (H1.1 1826 19) ≤ 2147483647 := hrg1.1 1826 13 19 _ .int rfl rfl
        have e18 : (H1.1 1826 19) = (H.1 1826 19) := hf.2.2 19 (by decide)
        exact ⟨rfl, ((GB_g hFL (by omega)).elim (fun X1 g => Or.inl ⟨(by omega : (H1.1 1826 35) = 0), X1, rch_st g.1 (by have htk1 := RK_t g.2.1; show (if tk Y (xi X1) = 62 then (if X1 8 c = 4 then fl Y X1 5 else ((10, (c : Int), 0, 0) :: (11, (c : Int), X1 8 c + 1, 0) :: ((1, 59, 0, 0) :: (6, nn + 1, 0, 0) :: K), xfar X1 c)) else (((1, 59, 0, 0) :: (6, nn + 1, 0, 0) :: K), X1)) = _; (repeat (first | rw [if_pos (by omega)] | rw [if_neg (by omega)])); try rfl), RK_ft g.2.1 (by omega) g.2.2, (by omega : (H1.1 1826 8) = m + 1)⟩)), (fr_a hf (by decide)), (by omega : (H.1 1826 30) ≤ (H1.1 1826 30) ∧ (H1.1 1826 30) ≤ (H.1 1826 29)), (by omega : 0 ≤ (H1.1 1826 35) ∧ (H1.1 1826 35) ≤ 5), (by omega : (H.1 1826 35) ≠ 0 → (H1.1 1826 35) ≠ 0), (by omega : 0 ≤ (H1.1 1826 32) ∧ (H1.1 1826 32) ≤ 1000), (agp_1835 hag (by omega : (H.1 1826 8) ≤ ((c : Nat) : Int))), (fun (q : (H1.1 1826 35) = 0) => PW_more hP (agp_1835 hag (by omega : (H.1 1826 8) ≤ ((c : Nat) : Int))) ⟨(by omega : (H1.1 1826 1) ≤ 6), (by omega : (H1.1 1826 3) ≤ 16), (by omega : (H1.1 1826 8) ≤ 16)⟩ (m_con_agp pw1 (agp_1835 hag (by omega : (H.1 1826 8) ≤ ((c : Nat) : Int))) (by omega : (H1.1 1826 3) = (H.1 1826 3))) (by show m_fun (H1.1 1826 1) (H1.1 1826 8) (H1.1 1833) (H1.1 1834) (up (H1.1 1835) c t); rw [show (H1.1 1826 8) = (H.1 1826 8) + 1 from hcn]; exact m_fun_fin pw2 hag.2.2.1 hag.1.1 (by omega) (hfa q).1 (hfa q).2 (htg q)) (by omega : (H1.1 1826 13) = (H.1 1826 13)) (by omega : (H1.1 1826 19) = (H.1 1826 19)))⟩
      · obtain ⟨hc1, hc3⟩ := hfa (by omega)
        obtain ⟨X1, hq1, hR1, h71⟩ := GB_g hFL (by omega)
        have htk1 := RK_t hR1
        have hy5 := hR1.2.2.2.2.2.2.1.1
        have hca : (H1.1 1833) c = X1 8 c := (hR1.2.2.2.2.2.2.1.2 c (by omega)).2.1
        have hfl : ∀ k : Nat, (k : Int) < (H1.1 1826 8) → 0 ≤ (H1.1 1833) k ∧ (H1.1 1833) k ≤ 4 := fun k hk => by by_cases e9 : k = c; · rw [e9]; exact hc1; · rw [hag.2.2.1 k (by omega) |>.1]; exact (pw2 k (by omega)).1
        refine h_run 3 (pc' := 163) (l' := [(0, .inr (.inr 1826)), (1, .inl (c : Int)), (2, .inl t)]) (st' := [.inl (c : Int), .inr (.inr 1833)]) rfl ?_
        refine h_ild (c := 1833) (j := c) (i := (c : Int)) rfl rfl (by decide) rfl (by omega) ?_
        have g19 : -2147483648 ≤ (H1.1 1833 c) ∧ (H1.1 1833 c) ≤ 2147483647 := hrg1.2 1833 c 16 .int rfl (by omega)
        refine h_run 0 (pc' := 164) (l' := [(0, .inr (.inr 1826)), (1, .inl (c : Int)), (2, .inl t)]) (st' := [.inl (H1.1 1833 c)]) rfl ?_
        refine h_run 1 (pc' := 165) (l' := [(0, .inr (.inr 1826)), (1, .inl (c : Int)), (2, .inl t)]) (st' := [.inl 4, .inl (H1.1 1833 c)]) rfl ?_
        refine h_ine (off := 9) (t := 174) rfl rfl (by omega) (by decide) (fun c20 => ?_) (fun c20 => ?_)
        · refine h_run 8 (pc' := 186) (l' := [(0, .inr (.inr 1826)), (1, .inl (c : Int)), (2, .inl t)]) (st' := [.inl (c : Int), .inr (.inr 1833), .inl (4 * (c : Int)), .inr (.inr 1834)]) rfl ?_
          refine h_ild (c := 1833) (j := c) (i := (c : Int)) rfl rfl (by decide) rfl (by omega) ?_
          refine h_run 0 (pc' := 187) (l' := [(0, .inr (.inr 1826)), (1, .inl (c : Int)), (2, .inl t)]) (st' := [.inl (H1.1 1833 c), .inl (4 * (c : Int)), .inr (.inr 1834)]) rfl ?_
          refine h_run 2 (pc' := 189) (l' := [(0, .inr (.inr 1826)), (1, .inl (c : Int)), (2, .inl t)]) (st' := [.inl t, .inl ((4 * (c : Int)) + (H1.1 1833 c)), .inr (.inr 1834)]) rfl ?_
          refine h_ist (c := 1834) (j := (((4 * (c : Int)) + (H1.1 1833 c))).toNat) (i := ((4 * (c : Int)) + (H1.1 1833 c))) (x := t) rfl rfl (by decide) (by decide) (by omega) (by omega) (by omega) ?_
          refine h_run 4 (pc' := 196) (l' := [(0, .inr (.inr 1826)), (1, .inl (c : Int)), (2, .inl t)]) (st' := [.inl (c : Int), .inr (.inr 1833), .inl (c : Int), .inr (.inr 1833)]) rfl ?_
          refine h_ild (c := 1833) (j := c) (i := (c : Int)) rfl rfl (by decide) rfl (by omega) ?_
          refine h_run 0 (pc' := 197) (l' := [(0, .inr (.inr 1826)), (1, .inl (c : Int)), (2, .inl t)]) (st' := [.inl (H1.1 1833 c), .inl (c : Int), .inr (.inr 1833)]) rfl ?_
          refine h_run 2 (pc' := 199) (l' := [(0, .inr (.inr 1826)), (1, .inl (c : Int)), (2, .inl t)]) (st' := [.inl ((H1.1 1833 c) + 1), .inl (c : Int), .inr (.inr 1833)]) rfl ?_
          refine h_ist (c := 1833) (j := c) (i := (c : Int)) (x := ((H1.1 1833 c) + 1)) rfl rfl (by decide) (by decide) rfl (by omega) (by omega) ?_
          have hq6 : rch Y c0 ((10, (c : Int), 0, 0) :: (11, (c : Int), X1 8 c + 1, 0) :: ((1, 59, 0, 0) :: (6, nn + 1, 0, 0) :: K), xfar X1 c) := (rch_st hq1 (by show (if tk Y (xi X1) = 62 then (if X1 8 c = 4 then fl Y X1 5 else ((10, (c : Int), 0, 0) :: (11, (c : Int), X1 8 c + 1, 0) :: ((1, 59, 0, 0) :: (6, nn + 1, 0, 0) :: K), xfar X1 c)) else (((1, 59, 0, 0) :: (6, nn + 1, 0, 0) :: K), X1)) = _; unfold miss; (repeat (first | rw [if_pos (by omega)] | rw [if_neg (by omega)])); try rfl))
          refine h_run 1 (pc' := 201) (l' := [(0, .inr (.inr 1826)), (1, .inl (c : Int)), (2, .inl t)]) (st' := [.inr (.inr 1826)]) rfl ?_
          have g21 : -2147483648 ≤ (H1.1 1826 30) ∧ (H1.1 1826 30) ≤ 2147483647 := hrg1.1 1826 13 30 _ .int rfl rfl
          have g22 : -2147483648 ≤ (H1.1 1826 29) ∧ (H1.1 1826 29) ≤ 2147483647 := hrg1.1 1826 13 29 _ .int rfl rfl
          have e23 : (H1.1 1826 29) = (H.1 1826 29) := hf.2.2 29 (by decide)
          have g24 : -2147483648 ≤ (H1.1 1826 32) ∧ (H1.1 1826 32) ≤ 2147483647 := hrg1.1 1826 13 32 _ .int rfl rfl
          refine h_cv (i := 297) (j := 165) (b := 1826) (M' := mt_165) (xs := []) (rest := []) rfl rfl rfl rfl rfl rfl (Nat.le_of_ble_eq_true rfl) (Nat.le_of_ble_eq_true rfl) (by omega) (n_nx (by omega) (by omega : 0 ≤ (H1.1 1826 30) ∧ (H1.1 1826 30) ≤ (H1.1 1826 29) ∧ (H1.1 1826 29) ≤ 1000) (by omega : 0 ≤ (H1.1 1826 35) ∧ (H1.1 1826 35) ≤ 5) (by omega : 0 ≤ (H1.1 1826 32) ∧ (H1.1 1826 32) ≤ 1000) (by omega : (H1.1 1826 35) = 0) (X := (xfar X1 c)) (RN_mk hR1 (fr_a (fr_a (fr_rf [] [1833, 1834] H1) (by decide)) (by decide)) (by decide) (by decide) (xfar_s _ _).1 (TA_far (c := c) (j := (((4 * (c : Int)) + (H1.1 1833 c))).toNat) hR1.2.2.2.2 (fr_a (fr_a (fr_rf [] [1833, 1834] H1) (by decide)) (by decide)) (by decide) (by decide) (by omega) hfl (by omega) (by omega) h71 rfl rfl)) hq6 (lk_n (by decide))) ?_
          rintro _ H25 ⟨rfl, hx25n, hx25f, hx25a, hx25b, hx25c, -, hx25e, hx25g⟩
          refine h_rng (fun hrg26 => ?_)
          have hf27 : fr [30, 31, 32, 33, 35, 36, 8] [1832, 1833, 1834, 1835] H H25 := fr_t (fr_a (fr_a hf (by decide)) (by decide)) hx25f (by decide) (by decide)
          have ha28 : agp H H25 := agp_tr (agp_1833 (agp_1834 hag (by omega : 4 * (H.1 1826 8) ≤ (((((4 * (c : Int)) + (H1.1 1833 c))).toNat : Nat) : Int))) (by omega : (H.1 1826 8) ≤ ((c : Nat) : Int))) (agp_fr hx25f (by decide) (by decide))
          replace hx25a : (H1.1 1826 30) ≤ (H25.1 1826 30) := hx25a
          replace hx25b : (H25.1 1826 30) ≤ (H1.1 1826 29) := hx25b
          replace hx25g : (H25.1 1826 35) = 0 → ((H25.1 1826 31) = 0 ∨ (H1.1 1826 30) < (H25.1 1826 30)) := hx25g
          refine h_run 0 (pc' := 204) (l' := [(0, .inr (.inr 1826)), (1, .inl (c : Int)), (2, .inl t)]) (st' := []) rfl ?_
          refine h_run 1 (pc' := 205) (l' := [(0, .inr (.inr 1826)), (1, .inl (c : Int)), (2, .inl t)]) (st' := [.inr (.inr 1826)]) rfl ?_
          have g29 : -2147483648 ≤ (H25.1 1826 35) ∧ (H25.1 1826 35) ≤ 2147483647 := hrg26.1 1826 13 35 _ .int rfl rfl
          by_cases b30 : (H25.1 1826 35) = 0
          · have g31 : -2147483648 ≤ (H25.1 1826 1) ∧ (H25.1 1826 1) ≤ 2147483647 := hrg26.1 1826 13 1 _ .int rfl rfl
            have e32 : (H25.1 1826 1) = (H1.1 1826 1) := hx25f.2.2 1 (by decide)
            have e33 : (H1.1 1826 1) = (H.1 1826 1) := hf.2.2 1 (by decide)
            have g34 : -2147483648 ≤ (H25.1 1826 31) ∧ (H25.1 1826 31) ≤ 2147483647 := hrg26.1 1826 13 31 _ .int rfl rfl
            have hR7 := GB_g hx25n (by omega)
            have htk7 := RK_t hR7
            have htf7 := fnd_b (xfar X1 c 1) (xfar X1 c 0 3) (tn Y (xi (xfar X1 c)))
            refine h_cv (i := 322) (j := 172) (b := 1826) (M' := mt_172) (xs := []) (rest := []) rfl rfl rfl rfl rfl rfl (Nat.le_of_ble_eq_true rfl) (Nat.le_of_ble_eq_true rfl) (by omega) (n_type (by omega) (by omega : (H25.1 1826 35) = 0) (by omega : 0 ≤ (H25.1 1826 1) ∧ (H25.1 1826 1) ≤ 6) (z := tfd Y (xfar X1 c)) (fun q9 => RK_tf hR7 (Or.inr q9))) ?_
            rintro _ _ (⟨ht35k, rfl, ht35a, ht35b, ht35c, rfl⟩ | ⟨rfl, ht35a, rfl⟩ | ⟨rfl, ht35a, ht35c, rfl⟩)
            · replace ht35a : (H25.1 1826 31) = 2 := ht35a
              replace ht35b : (ht35k : Int) < (H25.1 1826 1) := ht35b
              refine h_run 0 (pc' := 208) (l' := [(0, .inr (.inr 1826)), (1, .inl (c : Int)), (2, .inl t)]) (st' := [.inl (ht35k : Int)]) rfl ?_
              refine h_run 2 (pc' := 210) (l' := [(0, .inr (.inr 1826)), (1, .inl (c : Int)), (2, .inl (ht35k : Int))]) (st' := [.inr (.inr 1826)]) rfl ?_
              refine h_cv (i := 293) (j := 158) (b := 1826) (M' := mt_158) (xs := []) (rest := []) rfl rfl rfl rfl rfl rfl (Nat.le_of_ble_eq_true rfl) (Nat.le_of_ble_eq_true rfl) (by omega) (m_good1 (by omega) (by omega : (H25.1 1826 35) = 0)) ?_
              rintro _ _ ⟨rfl, rfl⟩
              refine h_run 0 (pc' := 213) (l' := [(0, .inr (.inr 1826)), (1, .inl (c : Int)), (2, .inl (ht35k : Int))]) (st' := [.inl 1]) rfl ?_
              refine h_zeq (off := -71) (t := 142) rfl rfl (by decide) (fun c => absurd c (by decide)) (fun _ => ?_)
              have hq8 : rch Y c0 ((11, (c : Int), X1 8 c + 1, 0) :: ((1, 59, 0, 0) :: (6, nn + 1, 0, 0) :: K), adv (xu (xfar X1 c) 7 c (tfd Y (xfar X1 c)))) := rch_st hq6 (by show (if tk Y (xi (xfar X1 c)) ≠ 3 then miss Y (xfar X1 c) else if tfd Y (xfar X1 c) < 0 then fl Y (xfar X1 c) 3 else _) = _; (repeat (first | rw [if_pos (by omega)] | rw [if_neg (by omega)])); try rfl)
              refine h_run 1 (pc' := 217) (l' := [(0, .inr (.inr 1826)), (1, .inl (c : Int)), (2, .inl (ht35k : Int))]) (st' := [.inr (.inr 1826)]) rfl ?_
              have g36 : -2147483648 ≤ (H25.1 1826 30) ∧ (H25.1 1826 30) ≤ 2147483647 := hrg26.1 1826 13 30 _ .int rfl rfl
              have g37 : -2147483648 ≤ (H25.1 1826 29) ∧ (H25.1 1826 29) ≤ 2147483647 := hrg26.1 1826 13 29 _ .int rfl rfl
              have e38 : (H25.1 1826 29) = (H1.1 1826 29) := hx25f.2.2 29 (by decide)
              have g39 : -2147483648 ≤ (H25.1 1826 32) ∧ (H25.1 1826 32) ≤ 2147483647 := hrg26.1 1826 13 32 _ .int rfl rfl
              refine h_cv (i := 297) (j := 165) (b := 1826) (M' := mt_165) (xs := []) (rest := []) rfl rfl rfl rfl rfl rfl (Nat.le_of_ble_eq_true rfl) (Nat.le_of_ble_eq_true rfl) (by omega) (n_nx (by omega) (by omega : 0 ≤ (H25.1 1826 30) ∧ (H25.1 1826 30) ≤ (H25.1 1826 29) ∧ (H25.1 1826 29) ≤ 1000) (by omega : 0 ≤ (H25.1 1826 35) ∧ (H25.1 1826 35) ≤ 5) (by omega : 0 ≤ (H25.1 1826 32) ∧ (H25.1 1826 32) ≤ 1000) (by omega : (H25.1 1826 35) = 0) (X := (adv (xu (xfar X1 c) 7 c (tfd Y (xfar X1 c))))) (RN_mk hR7 (fr_rf [] [] _) (by decide) (by decide) adv7_0 (TA_7 hR7.2.2.2.2 (by omega))) hq8 (lk_c (lk_1 (by decide)) (by decide : (11 : Nat) ≠ 0) (fun q => absurd q (by decide : (11 : Nat) ≠ 1)))) ?_
              rintro _ H40 ⟨rfl, hx40n, hx40f, hx40a, hx40b, hx40c, -, hx40e, hx40g⟩
              refine h_rng (fun hrg41 => ?_)
              have hf42 : fr [30, 31, 32, 33, 35, 36, 8] [1832, 1833, 1834, 1835] H H40 := fr_t hf27 hx40f (by decide) (by decide)
              have ha43 : agp H H40 := agp_tr ha28 (agp_fr hx40f (by decide) (by decide))
              replace hx40a : (H25.1 1826 30) ≤ (H40.1 1826 30) := hx40a
              replace hx40b : (H40.1 1826 30) ≤ (H25.1 1826 29) := hx40b
              replace hx40g : (H40.1 1826 35) = 0 → ((H40.1 1826 31) = 0 ∨ (H25.1 1826 30) < (H40.1 1826 30)) := hx40g
              refine h_run 0 (pc' := 220) (l' := [(0, .inr (.inr 1826)), (1, .inl (c : Int)), (2, .inl (ht35k : Int))]) (st' := []) rfl ?_
              refine h_run 1 (pc' := 142) (l' := [(0, .inr (.inr 1826)), (1, .inl (c : Int)), (2, .inl (ht35k : Int))]) (st' := []) rfl ?_
              have g44 : -2147483648 ≤ (H40.1 1826 30) ∧ (H40.1 1826 30) ≤ 2147483647 := hrg41.1 1826 13 30 _ .int rfl rfl
              have g45 : -2147483648 ≤ (H40.1 1826 35) ∧ (H40.1 1826 35) ≤ 2147483647 := hrg41.1 1826 13 35 _ .int rfl rfl
              have g46 : -2147483648 ≤ (H40.1 1826 32) ∧ (H40.1 1826 32) ≤ 2147483647 := hrg41.1 1826 13 32 _ .int rfl rfl
              have g47 : -2147483648 ≤ (H40.1 1826 31) ∧ (H40.1 1826 31) ≤ 2147483647 := hrg41.1 1826 13 31 _ .int rfl rfl
              have g48 : -2147483648 ≤ (H40.1 1826 3) ∧ (H40.1 1826 3) ≤ 2147483647 := hrg41.1 1826 13 3 _ .int rfl rfl
              have e49 : (H40.1 1826 3) = (H25.1 1826 3) := hx40f.2.2 3 (by decide)
              have e50 : (H25.1 1826 3) = (H1.1 1826 3) := hx25f.2.2 3 (by decide)
              have e51 : (H1.1 1826 3) = (H.1 1826 3) := hf.2.2 3 (by decide)
              have g52 : -2147483648 ≤ (H40.1 1826 29) ∧ (H40.1 1826 29) ≤ 2147483647 := hrg41.1 1826 13 29 _ .int rfl rfl
              have e53 : (H40.1 1826 29) = (H25.1 1826 29) := hx40f.2.2 29 (by decide)
              have g54 : -2147483648 ≤ (H40.1 1826 1) ∧ (H40.1 1826 1) ≤ 2147483647 := hrg41.1 1826 13 1 _ .int rfl rfl
              have e55 : (H40.1 1826 1) = (H25.1 1826 1) := hx40f.2.2 1 (by decide)
              have g56 : -2147483648 ≤ (H40.1 1826 8) ∧ (H40.1 1826 8) ≤ 2147483647 := hrg41.1 1826 13 8 _ .int rfl rfl
              have e57 : (H40.1 1826 8) = (H25.1 1826 8) := hx40f.2.2 8 (by decide)
              have e58 : (H25.1 1826 8) = (H1.1 1826 8) := hx25f.2.2 8 (by decide)
              exact ih _ c (ht35k : Int) hf42 (by omega : (H.1 1826 30) ≤ (H40.1 1826 30) ∧ (H40.1 1826 30) ≤ (H.1 1826 29)) (by omega : 0 ≤ (H40.1 1826 35) ∧ (H40.1 1826 35) ≤ 5) (by omega : 0 ≤ (H40.1 1826 32) ∧ (H40.1 1826 32) ≤ 1000) ha43 (by omega : (c : Int) = (H.1 1826 8) ∧ (H.1 1826 8) ≤ 15) (by omega : (H40.1 1826 8) = (H.1 1826 8) + 1) (by omega : -1 ≤ (ht35k : Int) ∧ (ht35k : Int) ≤ 6) (by omega : (H40.1 1826 35) = 0 → 0 ≤ (ht35k : Int) ∧ (ht35k : Int) < (H40.1 1826 1)) (fun q => by rw [show (H40.1 1833) = up (H1.1 1833) c ((H1.1 1833) c + 1) from ((hx40f.2.1 1833 (by decide) (by decide)).trans (hx25f.2.1 1833 (by decide) (by decide))), show (H40.1 1834) = up (H1.1 1834) (((4 * (c : Int)) + (H1.1 1833 c))).toNat t from ((hx40f.2.1 1834 (by decide) (by decide)).trans (hx25f.2.1 1834 (by decide) (by decide))), show (H40.1 1826 1) = (H1.1 1826 1) from (by omega), up_eq]; exact ⟨by omega, m_garg (hfa (by omega)).2 (by omega) (by omega)⟩) (GB_i hx40n (fun q => ⟨_, (fl_q hq8 xfar_8).1, q, (fl_q hq8 xfar_8).2.trans (by omega)⟩)) (mu_lt hw (by omega) (by omega : (H40.1 1826 35) ≠ 0 ∨ ((H1.1 1826 30) ≤ (H40.1 1826 30) ∧ (H40.1 1826 30) ≤ (H.1 1826 29) ∧ (((H40.1 1826 31) = 0 ∧ (H1.1 1826 31) ≠ 0) ∨ (H1.1 1826 30) < (H40.1 1826 30)))))
            · replace ht35a : (H25.1 1826 31) ≠ 2 := ht35a
              refine h_run 0 (pc' := 208) (l' := [(0, .inr (.inr 1826)), (1, .inl (c : Int)), (2, .inl t)]) (st' := [.inl (-1)]) rfl ?_
              refine h_run 2 (pc' := 210) (l' := [(0, .inr (.inr 1826)), (1, .inl (c : Int)), (2, .inl (-1))]) (st' := [.inr (.inr 1826)]) rfl ?_
              refine h_cv (i := 293) (j := 158) (b := 1826) (M' := mt_158) (xs := []) (rest := []) rfl rfl rfl rfl rfl rfl (Nat.le_of_ble_eq_true rfl) (Nat.le_of_ble_eq_true rfl) (by omega) (m_good0 (by omega) (by omega : (2 : Int) ≠ 0)) ?_
              rintro _ _ ⟨rfl, rfl⟩
              refine h_run 0 (pc' := 213) (l' := [(0, .inr (.inr 1826)), (1, .inl (c : Int)), (2, .inl (-1))]) (st' := [.inl 0]) rfl ?_
              refine h_zeq (off := -71) (t := 142) rfl rfl (by decide) (fun _ => ?_) (fun c => absurd c (by decide))
              have g59 : -2147483648 ≤ (H25.1 1826 30) ∧ (H25.1 1826 30) ≤ 2147483647 := hrg26.1 1826 13 30 _ .int rfl rfl
              have g60 : -2147483648 ≤ (H25.1 1826 32) ∧ (H25.1 1826 32) ≤ 2147483647 := hrg26.1 1826 13 32 _ .int rfl rfl
              have g61 : -2147483648 ≤ (H25.1 1826 3) ∧ (H25.1 1826 3) ≤ 2147483647 := hrg26.1 1826 13 3 _ .int rfl rfl
              have e62 : (H25.1 1826 3) = (H1.1 1826 3) := hx25f.2.2 3 (by decide)
              have e63 : (H1.1 1826 3) = (H.1 1826 3) := hf.2.2 3 (by decide)
              have g64 : -2147483648 ≤ (H25.1 1826 29) ∧ (H25.1 1826 29) ≤ 2147483647 := hrg26.1 1826 13 29 _ .int rfl rfl
              have e65 : (H25.1 1826 29) = (H1.1 1826 29) := hx25f.2.2 29 (by decide)
              have g66 : -2147483648 ≤ (H25.1 1826 8) ∧ (H25.1 1826 8) ≤ 2147483647 := hrg26.1 1826 13 8 _ .int rfl rfl
              have e67 : (H25.1 1826 8) = (H1.1 1826 8) := hx25f.2.2 8 (by decide)
              exact ih _ c (-1 : Int) (fr_o (fr_o hf27 (by decide)) (by decide)) (by omega : (H.1 1826 30) ≤ (H25.1 1826 30) ∧ (H25.1 1826 30) ≤ (H.1 1826 29)) (by omega : 0 ≤ (2 : Int) ∧ (2 : Int) ≤ 5) (by omega : 0 ≤ (H25.1 1826 32) ∧ (H25.1 1826 32) ≤ 1000) (agp_o (agp_o ha28 (by decide)) (by decide)) (by omega : (c : Int) = (H.1 1826 8) ∧ (H.1 1826 8) ≤ 15) (by omega : (H25.1 1826 8) = (H.1 1826 8) + 1) (by omega : -1 ≤ (-1 : Int) ∧ (-1 : Int) ≤ 6) (by omega : (2 : Int) = 0 → 0 ≤ (-1 : Int) ∧ (-1 : Int) < (H25.1 1826 1)) (fun (q : (2 : Int) = 0) => absurd q (by omega)) (Or.inr ⟨(by omega : (2 : Int) ≠ 0), (BD_mk hR7 (fr_o (fr_o (fr_rf [35, 36] [] H25) (by decide)) (by decide)) (by decide) (by decide) (by decide : (2 : Int) ≠ 0) rfl rfl (rch_st hq6 (by show (if tk Y (xi (xfar X1 c)) ≠ 3 then miss Y (xfar X1 c) else if tfd Y (xfar X1 c) < 0 then fl Y (xfar X1 c) 3 else _) = _; unfold miss; (repeat (first | rw [if_pos (by omega)] | rw [if_neg (by omega)])); try rfl)))⟩) (mu_lt hw (by omega) (by omega : (2 : Int) ≠ 0 ∨ ((H1.1 1826 30) ≤ (H25.1 1826 30) ∧ (H25.1 1826 30) ≤ (H.1 1826 29) ∧ (((H25.1 1826 31) = 0 ∧ (H1.1 1826 31) ≠ 0) ∨ (H1.1 1826 30) < (H25.1 1826 30)))))
            · replace ht35a : (H25.1 1826 31) = 2 := ht35a
              refine h_run 0 (pc' := 208) (l' := [(0, .inr (.inr 1826)), (1, .inl (c : Int)), (2, .inl t)]) (st' := [.inl (-1)]) rfl ?_
              refine h_run 2 (pc' := 210) (l' := [(0, .inr (.inr 1826)), (1, .inl (c : Int)), (2, .inl (-1))]) (st' := [.inr (.inr 1826)]) rfl ?_
              refine h_cv (i := 293) (j := 158) (b := 1826) (M' := mt_158) (xs := []) (rest := []) rfl rfl rfl rfl rfl rfl (Nat.le_of_ble_eq_true rfl) (Nat.le_of_ble_eq_true rfl) (by omega) (m_good0 (by omega) (by omega : (3 : Int) ≠ 0)) ?_
              rintro _ _ ⟨rfl, rfl⟩
              refine h_run 0 (pc' := 213) (l' := [(0, .inr (.inr 1826)), (1, .inl (c : Int)), (2, .inl (-1))]) (st' := [.inl 0]) rfl ?_
              refine h_zeq (off := -71) (t := 142) rfl rfl (by decide) (fun _ => ?_) (fun c => absurd c (by decide))
              have g68 : -2147483648 ≤ (H25.1 1826 30) ∧ (H25.1 1826 30) ≤ 2147483647 := hrg26.1 1826 13 30 _ .int rfl rfl
              have g69 : -2147483648 ≤ (H25.1 1826 32) ∧ (H25.1 1826 32) ≤ 2147483647 := hrg26.1 1826 13 32 _ .int rfl rfl
              have g70 : -2147483648 ≤ (H25.1 1826 3) ∧ (H25.1 1826 3) ≤ 2147483647 := hrg26.1 1826 13 3 _ .int rfl rfl
              have e71 : (H25.1 1826 3) = (H1.1 1826 3) := hx25f.2.2 3 (by decide)
              have e72 : (H1.1 1826 3) = (H.1 1826 3) := hf.2.2 3 (by decide)
              have g73 : -2147483648 ≤ (H25.1 1826 29) ∧ (H25.1 1826 29) ≤ 2147483647 := hrg26.1 1826 13 29 _ .int rfl rfl
              have e74 : (H25.1 1826 29) = (H1.1 1826 29) := hx25f.2.2 29 (by decide)
              have g75 : -2147483648 ≤ (H25.1 1826 8) ∧ (H25.1 1826 8) ≤ 2147483647 := hrg26.1 1826 13 8 _ .int rfl rfl
              have e76 : (H25.1 1826 8) = (H1.1 1826 8) := hx25f.2.2 8 (by decide)
              exact ih _ c (-1 : Int) (fr_o (fr_o hf27 (by decide)) (by decide)) (by omega : (H.1 1826 30) ≤ (H25.1 1826 30) ∧ (H25.1 1826 30) ≤ (H.1 1826 29)) (by omega : 0 ≤ (3 : Int) ∧ (3 : Int) ≤ 5) (by omega : 0 ≤ (H25.1 1826 32) ∧ (H25.1 1826 32) ≤ 1000) (agp_o (agp_o ha28 (by decide)) (by decide)) (by omega : (c : Int) = (H.1 1826 8) ∧ (H.1 1826 8) ≤ 15) (by omega : (H25.1 1826 8) = (H.1 1826 8) + 1) (by omega : -1 ≤ (-1 : Int) ∧ (-1 : Int) ≤ 6) (by omega : (3 : Int) = 0 → 0 ≤ (-1 : Int) ∧ (-1 : Int) < (H25.1 1826 1)) (fun (q : (3 : Int) = 0) => absurd q (by omega)) (Or.inr ⟨(by omega : (3 : Int) ≠ 0), (BD_mk hR7 (fr_o (fr_o (fr_rf [35, 36] [] H25) (by decide)) (by decide)) (by decide) (by decide) (by decide : (3 : Int) ≠ 0) rfl rfl (rch_st hq6 (by show (if tk Y (xi (xfar X1 c)) ≠ 3 then miss Y (xfar X1 c) else if tfd Y (xfar X1 c) < 0 then fl Y (xfar X1 c) 3 else _) = _; unfold miss; (repeat (first | rw [if_pos (by omega)] | rw [if_neg (by omega)])); try rfl)))⟩) (mu_lt hw (by omega) (by omega : (3 : Int) ≠ 0 ∨ ((H1.1 1826 30) ≤ (H25.1 1826 30) ∧ (H25.1 1826 30) ≤ (H.1 1826 29) ∧ (((H25.1 1826 31) = 0 ∧ (H1.1 1826 31) ≠ 0) ∨ (H1.1 1826 30) < (H25.1 1826 30)))))
          · refine h_cv (i := 322) (j := 172) (b := 1826) (M' := mt_172) (xs := []) (rest := []) rfl rfl rfl rfl rfl rfl (Nat.le_of_ble_eq_true rfl) (Nat.le_of_ble_eq_true rfl) (by omega) (n_type0 (by omega) (by omega : (H25.1 1826 35) ≠ 0)) ?_
            rintro _ _ ⟨rfl, rfl⟩
            refine h_run 0 (pc' := 208) (l' := [(0, .inr (.inr 1826)), (1, .inl (c : Int)), (2, .inl t)]) (st' := [.inl (-1)]) rfl ?_
            refine h_run 2 (pc' := 210) (l' := [(0, .inr (.inr 1826)), (1, .inl (c : Int)), (2, .inl (-1))]) (st' := [.inr (.inr 1826)]) rfl ?_
            refine h_cv (i := 293) (j := 158) (b := 1826) (M' := mt_158) (xs := []) (rest := []) rfl rfl rfl rfl rfl rfl (Nat.le_of_ble_eq_true rfl) (Nat.le_of_ble_eq_true rfl) (by omega) (m_good0 (by omega) (by omega : (H25.1 1826 35) ≠ 0)) ?_
            rintro _ _ ⟨rfl, rfl⟩
            refine h_run 0 (pc' := 213) (l' := [(0, .inr (.inr 1826)), (1, .inl (c : Int)), (2, .inl (-1))]) (st' := [.inl 0]) rfl ?_
            refine h_zeq (off := -71) (t := 142) rfl rfl (by decide) (fun _ => ?_) (fun c => absurd c (by decide))
            have g77 : -2147483648 ≤ (H25.1 1826 30) ∧ (H25.1 1826 30) ≤ 2147483647 := hrg26.1 1826 13 30 _ .int rfl rfl
            have g78 : -2147483648 ≤ (H25.1 1826 32) ∧ (H25.1 1826 32) ≤ 2147483647 := hrg26.1 1826 13 32 _ .int rfl rfl
            have g79 : -2147483648 ≤ (H25.1 1826 31) ∧ (H25.1 1826 31) ≤ 2147483647 := hrg26.1 1826 13 31 _ .int rfl rfl
            have g80 : -2147483648 ≤ (H25.1 1826 3) ∧ (H25.1 1826 3) ≤ 2147483647 := hrg26.1 1826 13 3 _ .int rfl rfl
            have e81 : (H25.1 1826 3) = (H1.1 1826 3) := hx25f.2.2 3 (by decide)
            have e82 : (H1.1 1826 3) = (H.1 1826 3) := hf.2.2 3 (by decide)
            have g83 : -2147483648 ≤ (H25.1 1826 29) ∧ (H25.1 1826 29) ≤ 2147483647 := hrg26.1 1826 13 29 _ .int rfl rfl
            have e84 : (H25.1 1826 29) = (H1.1 1826 29) := hx25f.2.2 29 (by decide)
            have g85 : -2147483648 ≤ (H25.1 1826 1) ∧ (H25.1 1826 1) ≤ 2147483647 := hrg26.1 1826 13 1 _ .int rfl rfl
            have e86 : (H25.1 1826 1) = (H1.1 1826 1) := hx25f.2.2 1 (by decide)
            have e87 : (H1.1 1826 1) = (H.1 1826 1) := hf.2.2 1 (by decide)
            have g88 : -2147483648 ≤ (H25.1 1826 8) ∧ (H25.1 1826 8) ≤ 2147483647 := hrg26.1 1826 13 8 _ .int rfl rfl
            have e89 : (H25.1 1826 8) = (H1.1 1826 8) := hx25f.2.2 8 (by decide)
            exact ih _ c (-1 : Int) hf27 (by omega : (H.1 1826 30) ≤ (H25.1 1826 30) ∧ (H25.1 1826 30) ≤ (H.1 1826 29)) (by omega : 0 ≤ (H25.1 1826 35) ∧ (H25.1 1826 35) ≤ 5) (by omega : 0 ≤ (H25.1 1826 32) ∧ (H25.1 1826 32) ≤ 1000) ha28 (by omega : (c : Int) = (H.1 1826 8) ∧ (H.1 1826 8) ≤ 15) (by omega : (H25.1 1826 8) = (H.1 1826 8) + 1) (by omega : -1 ≤ (-1 : Int) ∧ (-1 : Int) ≤ 6) (by omega : (H25.1 1826 35) = 0 → 0 ≤ (-1 : Int) ∧ (-1 : Int) < (H25.1 1826 1)) (fun (q : (H25.1 1826 35) = 0) => absurd q (by omega)) (Or.inr ⟨(by omega : (H25.1 1826 35) ≠ 0), GB_b hx25n (by omega)⟩) (mu_lt hw (by omega) (by omega : (H25.1 1826 35) ≠ 0 ∨ ((H1.1 1826 30) ≤ (H25.1 1826 30) ∧ (H25.1 1826 30) ≤ (H.1 1826 29) ∧ (((H25.1 1826 31) = 0 ∧ (H1.1 1826 31) ≠ 0) ∨ (H1.1 1826 30) < (H25.1 1826 30)))))
        · refine h_run 2 (pc' := 170) (l' := [(0, .inr (.inr 1826)), (1, .inl (c : Int)), (2, .inl t)]) (st' := [.inl 5, .inr (.inr 1826)]) rfl ?_
          refine h_cv (i := 278) (j := 159) (b := 1826) (M' := mt_159) (xs := [.inl 5]) (rest := []) rfl rfl rfl rfl rfl rfl (Nat.le_of_ble_eq_true rfl) (Nat.le_of_ble_eq_true rfl) (by omega) (m_bad0 (by omega) (by omega) (by omega : (H1.1 1826 35) = 0)) ?_
          rintro _ _ ⟨rfl, rfl⟩
          refine h_run 0 (pc' := 173) (l' := [(0, .inr (.inr 1826)), (1, .inl (c : Int)), (2, .inl t)]) (st' := []) rfl ?_
          refine h_ret rfl rfl ?_
          have g90 : -2147483648 ≤ (H1.1 1826 30) ∧ (H1.1 1826 30) ≤ 2147483647 := hrg1.1 1826 13 30 _ .int rfl rfl
          have g91 : -2147483648 ≤ (H1.1 1826 32) ∧ (H1.1 1826 32) ≤ 2147483647 := hrg1.1 1826 13 32 _ .int rfl rfl
          have g92 : -2147483648 ≤ (H1.1 1826 29) ∧ (H1.1 1826 29) ≤ 2147483647 := hrg1.1 1826 13 29 _ .int rfl rfl
          have e93 : (H1.1 1826 29) = (H.1 1826 29) := hf.2.2 29 (by decide)
          have g94 : -2147483648 ≤ (H1.1 1826 1) ∧ (H1.1 1826 1) ≤ 2147483647 := hrg1.1 1826 13 1 _ .int rfl rfl
          have e95 : (H1.1 1826 1) = (H.1 1826 1) := hf.2.2 1 (by decide)
          have g96 : -2147483648 ≤ (H1.1 1826 3) ∧ (H1.1 1826 3) ≤ 2147483647 := hrg1.1 1826 13 3 _ .int rfl rfl
          have e97 : (H1.1 1826 3) = (H.1 1826 3) := hf.2.2 3 (by decide)
          have g98 : -2147483648 ≤ (H1.1 1826 8) ∧ (H1.1 1826 8) ≤ 2147483647 := hrg1.1 1826 13 8 _ .int rfl rfl
          have g99 : -2147483648 ≤ (H1.1 1826 13) ∧ (H1.1 1826 13) ≤ 2147483647 := hrg1.1 1826 13 13 _ .int rfl rfl
          have e100 : (H1.1 1826 13) = (H.1 1826 13) := hf.2.2 13 (by decide)
          have g101 : -2147483648 ≤ (H1.1 1826 19) ∧ (H1.1 1826 19) ≤ 2147483647 := hrg1.1 1826 13 19 _ .int rfl rfl
          have e102 : (H1.1 1826 19) = (H.1 1826 19) := hf.2.2 19 (by decide)
          exact ⟨rfl, (Or.inr ⟨(by omega : (5 : Int) ≠ 0), (BD_mk hR1 (fr_o (fr_o (fr_rf [35, 36] [] H1) (by decide)) (by decide)) (by decide) (by decide) (by decide : (5 : Int) ≠ 0) rfl rfl (rch_st hq1 (by show (if tk Y (xi X1) = 62 then (if X1 8 c = 4 then fl Y X1 5 else ((10, (c : Int), 0, 0) :: (11, (c : Int), X1 8 c + 1, 0) :: ((1, 59, 0, 0) :: (6, nn + 1, 0, 0) :: K), xfar X1 c)) else (((1, 59, 0, 0) :: (6, nn + 1, 0, 0) :: K), X1)) = _; unfold miss; (repeat (first | rw [if_pos (by omega)] | rw [if_neg (by omega)])); try rfl)))⟩), (fr_o (fr_o hf (by decide)) (by decide)), (by omega : (H.1 1826 30) ≤ (H1.1 1826 30) ∧ (H1.1 1826 30) ≤ (H.1 1826 29)), (by omega : 0 ≤ (5 : Int) ∧ (5 : Int) ≤ 5), (by omega : (H.1 1826 35) ≠ 0 → (5 : Int) ≠ 0), (by omega : 0 ≤ (H1.1 1826 32) ∧ (H1.1 1826 32) ≤ 1000), (agp_o (agp_o hag (by decide)) (by decide)), (fun (q : (5 : Int) = 0) => absurd q (by omega))⟩
    · have b3x : (H1.1 1826 35) ≠ 0 := b3
      refine h_run 0 (pc' := 146) (l' := [(0, .inr (.inr 1826)), (1, .inl (c : Int)), (2, .inl t)]) (st' := [.inl 0]) rfl ?_
      refine h_zeq (off := 77) (t := 223) rfl rfl (by decide) (fun _ => ?_) (fun c => absurd c (by decide))
      refine h_run 4 (pc' := 229) (l' := [(0, .inr (.inr 1826)), (1, .inl (c : Int)), (2, .inl t)]) (st' := [.inl t, .inl (c : Int), .inr (.inr 1835)]) rfl ?_
      refine h_ist (c := 1835) (j := c) (i := (c : Int)) (x := t) rfl rfl (by decide) (by decide) rfl (by omega) (by omega) ?_
      refine h_ret rfl rfl ?_
      have g103 : -2147483648 ≤ (H1.1 1826 30) ∧ (H1.1 1826 30) ≤ 2147483647 := hrg1.1 1826 13 30 _ .int rfl rfl
      have g104 : -2147483648 ≤ (H1.1 1826 32) ∧ (H1.1 1826 32) ≤ 2147483647 := hrg1.1 1826 13 32 _ .int rfl rfl
      have g105 : -2147483648 ≤ (H1.1 1826 29) ∧ (H1.1 1826 29) ≤ 2147483647 := hrg1.1 1826 13 29 _ .int rfl rfl
      have e106 : (H1.1 1826 29) = (H.1 1826 29) := hf.2.2 29 (by decide)
      have g107 : -2147483648 ≤ (H1.1 1826 1) ∧ (H1.1 1826 1) ≤ 2147483647 := hrg1.1 1826 13 1 _ .int rfl rfl
      have e108 : (H1.1 1826 1) = (H.1 1826 1) := hf.2.2 1 (by decide)
      have g109 : -2147483648 ≤ (H1.1 1826 3) ∧ (H1.1 1826 3) ≤ 2147483647 := hrg1.1 1826 13 3 _ .int rfl rfl
      have e110 : (H1.1 1826 3) = (H.1 1826 3) := hf.2.2 3 (by decide)
      have g111 : -2147483648 ≤ (H1.1 1826 8) ∧ (H1.1 1826 8) ≤ 2147483647 := hrg1.1 1826 13 8 _ .int rfl rfl
      have g112 : -2147483648 ≤ (H1.1 1826 13) ∧ (H1.1 1826 13) ≤ 2147483647 := hrg1.1 1826 13 13 _ .int rfl rfl
      have e113 : (H1.1 1826 13) = (H.1 1826 13) := hf.2.2 13 (by decide)
      have g114 : -2147483648 ≤ (H1.1 1826 19) ∧ (H1.1 1826 19) ≤ 2147483647 := hrg1.1 1826 13 19 _ .int rfl rfl
      have e115 : (H1.1 1826 19) = (H.1 1826 19) := hf.2.2 19 (by decide)
      exact ⟨rfl, (Or.inr ⟨(by omega : (H1.1 1826 35) ≠ 0), BD_ft (GB_b hFL (by omega)) (by omega)⟩), (fr_a hf (by decide)), (by omega : (H.1 1826 30) ≤ (H1.1 1826 30) ∧ (H1.1 1826 30) ≤ (H.1 1826 29)), (by omega : 0 ≤ (H1.1 1826 35) ∧ (H1.1 1826 35) ≤ 5), (by omega : (H.1 1826 35) ≠ 0 → (H1.1 1826 35) ≠ 0), (by omega : 0 ≤ (H1.1 1826 32) ∧ (H1.1 1826 32) ≤ 1000), (agp_1835 hag (by omega : (H.1 1826 8) ≤ ((c : Nat) : Int))), (fun (q : (H1.1 1826 35) = 0) => absurd q (by omega))⟩
set_option maxRecDepth 100000 in
theorem n_function {zC : Nat → Option zsh} {d : Nat} (hd : 5 ≤ d) {H : hp}  {Y : yx} {m : Int} {c0 : cf} {K : List tq} {X : rx} {nn : Int} (h0 : 0 ≤ (H.1 1826 30) ∧ (H.1 1826 30) ≤ (H.1 1826 29) ∧ (H.1 1826 29) ≤ 1000) (hw : 0 ≤ (H.1 1826 35) ∧ (H.1 1826 35) ≤ 5) (hst : 0 ≤ (H.1 1826 32) ∧ (H.1 1826 32) ≤ 1000) (hP : PWc H) (hw0 : (H.1 1826 35) = 0) (hR : RK Y m H X) (hmf : (H.1 1826 8) = m) (hq : rch Y c0 ((6, nn, 0, 0) :: K, X)) (htk : tk Y (xi X) = 5) : hG (zs zC) d mt_173 0 (zargs 0 [.inr (.inr 1826)]) [] H (fun r H2 => r = none ∧ GB Y m c0 H2 (∃ X2 : rx, rch Y c0 (((1, 59, 0, 0) :: (6, nn + 1, 0, 0) :: K), X2) ∧ RK Y (m + 1) H2 X2 ∧ (H2.1 1826 8) = m + 1) ∧ fr [30, 31, 32, 33, 35, 36, 8] [1832, 1833, 1834, 1835] H H2 ∧ ((H.1 1826 30) ≤ (H2.1 1826 30) ∧ (H2.1 1826 30) ≤ (H.1 1826 29)) ∧ (0 ≤ (H2.1 1826 35) ∧ (H2.1 1826 35) ≤ 5) ∧ ((H.1 1826 35) ≠ 0 → (H2.1 1826 35) ≠ 0) ∧ (0 ≤ (H2.1 1826 32) ∧ (H2.1 1826 32) ≤ 1000) ∧ agp H H2 ∧ ((H2.1 1826 35) = 0 → PWc H2)) := by
  refine h_rng (fun hrg0 => ?_)
  refine h_run 0 (pc' := 0) (l' := [(0, .inr (.inr 1826))]) (st' := []) rfl ?_
  obtain ⟨⟨pb1, pb2, pb3, pb4, pb5⟩, pw1, pw2, pw3, pw4⟩ := (id hP : PW H (H.1 1826 1) (H.1 1826 3) (H.1 1826 8) (H.1 1826 13) (H.1 1826 19))
  have hx5 := hR.2.2.2.2.2.2.1.1
  have ha5 : adv X 0 5 = X 0 5 := (sT_adv X).2.2 5 (by decide) (by decide)
  refine h_run 1 (pc' := 1) (l' := [(0, .inr (.inr 1826))]) (st' := [.inr (.inr 1826)]) rfl ?_
  have g116 : -2147483648 ≤ (H.1 1826 30) ∧ (H.1 1826 30) ≤ 2147483647 := hrg0.1 1826 13 30 _ .int rfl rfl
  have g117 : -2147483648 ≤ (H.1 1826 29) ∧ (H.1 1826 29) ≤ 2147483647 := hrg0.1 1826 13 29 _ .int rfl rfl
  have g118 : -2147483648 ≤ (H.1 1826 35) ∧ (H.1 1826 35) ≤ 2147483647 := hrg0.1 1826 13 35 _ .int rfl rfl
  have g119 : -2147483648 ≤ (H.1 1826 32) ∧ (H.1 1826 32) ≤ 2147483647 := hrg0.1 1826 13 32 _ .int rfl rfl
  refine h_cv (i := 297) (j := 165) (b := 1826) (M' := mt_165) (xs := []) (rest := []) rfl rfl rfl rfl rfl rfl (Nat.le_of_ble_eq_true rfl) (Nat.le_of_ble_eq_true rfl) (by omega) (n_nx2 (by omega) (by omega : 0 ≤ (H.1 1826 30) ∧ (H.1 1826 30) ≤ (H.1 1826 29) ∧ (H.1 1826 29) ≤ 1000) (by omega : 0 ≤ (H.1 1826 35) ∧ (H.1 1826 35) ≤ 5) (by omega : 0 ≤ (H.1 1826 32) ∧ (H.1 1826 32) ≤ 1000) (by omega : (H.1 1826 35) = 0) (X := (adv X)) (RN_adv hR (fr_rf [] [] _) (by decide) (by decide)) (fun q9 => (rch_st hq (by show stDec Y nn K X = _; unfold stDec miss; (repeat (first | rw [if_pos (by omega)] | rw [if_neg (by omega)])); try rfl)))) ?_
  rintro _ H120 ⟨rfl, hx120n, hx120f, hx120a, hx120b, hx120c, -, hx120e, hx120g⟩
  refine h_rng (fun hrg121 => ?_)
  have hf122 : fr [30, 31, 32, 33, 35, 36, 8] [1832, 1833, 1834, 1835] H H120 := fr_t (fr_rf _ _ _) hx120f (by decide) (by decide)
  have ha123 : agp H H120 := agp_tr (agp_rf _) (agp_fr hx120f (by decide) (by decide))
  replace hx120a : (H.1 1826 30) ≤ (H120.1 1826 30) := hx120a
  replace hx120b : (H120.1 1826 30) ≤ (H.1 1826 29) := hx120b
  replace hx120g : (H120.1 1826 35) = 0 → ((H120.1 1826 31) = 0 ∨ (H.1 1826 30) < (H120.1 1826 30)) := hx120g
  refine h_run 0 (pc' := 4) (l' := [(0, .inr (.inr 1826))]) (st' := []) rfl ?_
  refine h_run 1 (pc' := 5) (l' := [(0, .inr (.inr 1826))]) (st' := [.inr (.inr 1826)]) rfl ?_
  have g124 : -2147483648 ≤ (H120.1 1826 35) ∧ (H120.1 1826 35) ≤ 2147483647 := hrg121.1 1826 13 35 _ .int rfl rfl
  refine h_cv (i := 293) (j := 158) (b := 1826) (M' := mt_158) (xs := []) (rest := []) rfl rfl rfl rfl rfl rfl (Nat.le_of_ble_eq_true rfl) (Nat.le_of_ble_eq_true rfl) (by omega) (m_good (by omega)) ?_
  rintro _ _ ⟨⟨rfl, b125⟩ | ⟨rfl, b125⟩, rfl⟩
  · have b125x : (H120.1 1826 35) = 0 := b125
    replace hx120g := hx120g b125x
    refine h_run 0 (pc' := 8) (l' := [(0, .inr (.inr 1826))]) (st' := [.inl 1]) rfl ?_
    refine h_zeq (off := 16) (t := 24) rfl rfl (by decide) (fun c => absurd c (by decide)) (fun _ => ?_)
    have hR1 := GB_g hx120n (by omega)
    have htk1 := RK_t hR1
    have hy5 := hR1.2.2.2.2.2.2.1.1
    refine h_run 2 (pc' := 15) (l' := [(0, .inr (.inr 1826))]) (st' := [.inl (H120.1 1826 31)]) rfl ?_
    have g126 : -2147483648 ≤ (H120.1 1826 31) ∧ (H120.1 1826 31) ≤ 2147483647 := hrg121.1 1826 13 31 _ .int rfl rfl
    refine h_run 1 (pc' := 16) (l' := [(0, .inr (.inr 1826))]) (st' := [.inl 1, .inl (H120.1 1826 31)]) rfl ?_
    refine h_ieq (off := 8) (t := 24) rfl rfl (by omega) (by decide) (fun c127 => ?_) (fun c127 => ?_)
    · refine h_run 1 (pc' := 25) (l' := [(0, .inr (.inr 1826))]) (st' := [.inr (.inr 1826)]) rfl ?_
      refine h_cv (i := 293) (j := 158) (b := 1826) (M' := mt_158) (xs := []) (rest := []) rfl rfl rfl rfl rfl rfl (Nat.le_of_ble_eq_true rfl) (Nat.le_of_ble_eq_true rfl) (by omega) (m_good1 (by omega) (by omega : (H120.1 1826 35) = 0)) ?_
      rintro _ _ ⟨rfl, rfl⟩
      refine h_run 0 (pc' := 28) (l' := [(0, .inr (.inr 1826))]) (st' := [.inl 1]) rfl ?_
      refine h_zeq (off := 27) (t := 55) rfl rfl (by decide) (fun c => absurd c (by decide)) (fun _ => ?_)
      refine h_run 4 (pc' := 39) (l' := [(0, .inr (.inr 1826))]) (st' := [.inl (H120.1 1826 8), .inr (.inr 1832)]) rfl ?_
      have g128 : -2147483648 ≤ (H120.1 1826 8) ∧ (H120.1 1826 8) ≤ 2147483647 := hrg121.1 1826 13 8 _ .int rfl rfl
      have e129 : (H120.1 1826 8) = (H.1 1826 8) := hx120f.2.2 8 (by decide)
      refine h_run 2 (pc' := 43) (l' := [(0, .inr (.inr 1826))]) (st' := [.inr (.inl (H120.1 1826 33)), .inl (H120.1 1826 8), .inr (.inr 1832)]) rfl ?_
      have g130 : -9223372036854775808 ≤ (H120.1 1826 33) ∧ (H120.1 1826 33) ≤ 9223372036854775807 := hrg121.1 1826 13 33 _ .long rfl rfl
      refine h_cs (i := 309) (j := 167) (M' := mt_167) (xs := [.inr (.inl (H120.1 1826 33)), .inl (H120.1 1826 8), .inr (.inr 1832)]) (rest := []) rfl rfl rfl rfl rfl (Nat.le_of_ble_eq_true rfl) (Nat.le_of_ble_eq_true rfl) (by omega) (n_find (by omega) (m := 16) (z := ffd Y (adv X)) rfl (by omega : 0 ≤ (H120.1 1826 8) ∧ (H120.1 1826 8) ≤ ((16 : Nat) : Int) ∧ 16 ≤ 100) (by omega) (RK_ff hR1 (Or.inl (by omega)))) ?_
      rintro _ _ ⟨⟨k131, rfl, f132, f132x⟩ | ⟨rfl, f132⟩, rfl⟩
      · refine h_run 0 (pc' := 46) (l' := [(0, .inr (.inr 1826))]) (st' := [.inl (k131 : Int)]) rfl ?_
        refine h_run 1 (pc' := 47) (l' := [(0, .inr (.inr 1826))]) (st' := [.inl (-1), .inl (k131 : Int)]) rfl ?_
        refine h_ieq (off := 8) (t := 55) rfl rfl (by omega) (by decide) (fun c133 => ?_) (fun c133 => ?_)
        · refine h_run 1 (pc' := 56) (l' := [(0, .inr (.inr 1826))]) (st' := [.inr (.inr 1826)]) rfl ?_
          refine h_cv (i := 293) (j := 158) (b := 1826) (M' := mt_158) (xs := []) (rest := []) rfl rfl rfl rfl rfl rfl (Nat.le_of_ble_eq_true rfl) (Nat.le_of_ble_eq_true rfl) (by omega) (m_good1 (by omega) (by omega : (H120.1 1826 35) = 0)) ?_
          rintro _ _ ⟨rfl, rfl⟩
          refine h_run 0 (pc' := 59) (l' := [(0, .inr (.inr 1826))]) (st' := [.inl 1]) rfl ?_
          refine h_zeq (off := 17) (t := 76) rfl rfl (by decide) (fun c => absurd c (by decide)) (fun _ => ?_)
          refine h_run 2 (pc' := 66) (l' := [(0, .inr (.inr 1826))]) (st' := [.inl (H120.1 1826 8)]) rfl ?_
          refine h_run 1 (pc' := 68) (l' := [(0, .inr (.inr 1826))]) (st' := [.inl 16, .inl (H120.1 1826 8)]) rfl ?_
          refine h_ine (off := 8) (t := 76) rfl rfl (by omega) (by decide) (fun c134 => ?_) (fun c134 => ?_)
          · refine h_run 1 (pc' := 77) (l' := [(0, .inr (.inr 1826))]) (st' := [.inr (.inr 1826)]) rfl ?_
            refine h_cv (i := 293) (j := 158) (b := 1826) (M' := mt_158) (xs := []) (rest := []) rfl rfl rfl rfl rfl rfl (Nat.le_of_ble_eq_true rfl) (Nat.le_of_ble_eq_true rfl) (by omega) (m_good1 (by omega) (by omega : (H120.1 1826 35) = 0)) ?_
            rintro _ _ ⟨rfl, rfl⟩
            refine h_run 0 (pc' := 80) (l' := [(0, .inr (.inr 1826))]) (st' := [.inl 1]) rfl ?_
            refine h_zne (off := 4) (t := 84) rfl rfl (by decide) (fun _ => ?_) (fun c => absurd c (by decide))
            refine h_run 2 (pc' := 88) (l' := [(0, .inr (.inr 1826))]) (st' := [.inl (H120.1 1826 8)]) rfl ?_
            refine h_run 1 (pc' := 89) (l' := [(0, .inr (.inr 1826)), (1, .inl (H120.1 1826 8))]) (st' := []) rfl ?_
            obtain ⟨fz, hfz⟩ : ∃ k9 : Nat, (H120.1 1826 8) = (k9 : Int) := ⟨((H120.1 1826 8)).toNat, by omega⟩
            rw [show (H120.1 1826 8) = (fz : Int) from hfz]
            refine h_run 5 (pc' := 98) (l' := [(0, .inr (.inr 1826)), (1, .inl (fz : Int))]) (st' := [.inr (.inl (H120.1 1826 33)), .inl (fz : Int), .inr (.inr 1832)]) rfl ?_
            refine h_lst (c := 1832) (j := fz) (i := (fz : Int)) (x := (H120.1 1826 33)) rfl rfl (by decide) (by decide) rfl (by omega) (by first | omega | exact z_long _) ?_
            refine h_run 4 (pc' := 105) (l' := [(0, .inr (.inr 1826)), (1, .inl (fz : Int))]) (st' := [.inl 0, .inl (fz : Int), .inr (.inr 1833)]) rfl ?_
            refine h_ist (c := 1833) (j := fz) (i := (fz : Int)) (x := 0) rfl rfl (by decide) (by decide) rfl (by omega) (by decide) ?_
            refine h_run 3 (pc' := 111) (l' := [(0, .inr (.inr 1826)), (1, .inl (fz : Int))]) (st' := [.inl (H120.1 1826 8), .inr (.inr 1826)]) rfl ?_
            refine h_run 2 (pc' := 113) (l' := [(0, .inr (.inr 1826)), (1, .inl (fz : Int))]) (st' := [.inl ((H120.1 1826 8) + 1), .inr (.inr 1826)]) rfl ?_
            refine h_puti (i := 325) (ci := 13) (k := 8) (a := 1826) (x := ((H120.1 1826 8) + 1)) rfl rfl rfl rfl rfl rfl (by decide) (by omega) ?_
            have hq3 : rch Y c0 ((1, 58, 0, 0) :: (10, (fz : Int), 0, 0) :: (11, (fz : Int), 0, 0) :: ((1, 59, 0, 0) :: (6, nn + 1, 0, 0) :: K), (xfun (adv X) (tn Y (xi (adv X))))) := by rw [show (fz : Int) = X 0 5 by omega]; exact (rch_st hq (by show stDec Y nn K X = _; unfold stDec miss; (repeat (first | rw [if_pos (by omega)] | rw [if_neg (by omega)])); try rfl))
            refine h_run 1 (pc' := 117) (l' := [(0, .inr (.inr 1826)), (1, .inl (fz : Int))]) (st' := [.inr (.inr 1826)]) rfl ?_
            have g135 : -2147483648 ≤ (H120.1 1826 30) ∧ (H120.1 1826 30) ≤ 2147483647 := hrg121.1 1826 13 30 _ .int rfl rfl
            have g136 : -2147483648 ≤ (H120.1 1826 29) ∧ (H120.1 1826 29) ≤ 2147483647 := hrg121.1 1826 13 29 _ .int rfl rfl
            have e137 : (H120.1 1826 29) = (H.1 1826 29) := hx120f.2.2 29 (by decide)
            have g138 : -2147483648 ≤ (H120.1 1826 32) ∧ (H120.1 1826 32) ≤ 2147483647 := hrg121.1 1826 13 32 _ .int rfl rfl
            refine h_cv (i := 297) (j := 165) (b := 1826) (M' := mt_165) (xs := []) (rest := []) rfl rfl rfl rfl rfl rfl (Nat.le_of_ble_eq_true rfl) (Nat.le_of_ble_eq_true rfl) (by omega) (n_nx (by omega) (by omega : 0 ≤ (H120.1 1826 30) ∧ (H120.1 1826 30) ≤ (H120.1 1826 29) ∧ (H120.1 1826 29) ≤ 1000) (by omega : 0 ≤ (H120.1 1826 35) ∧ (H120.1 1826 35) ≤ 5) (by omega : 0 ≤ (H120.1 1826 32) ∧ (H120.1 1826 32) ≤ 1000) (by omega : (H120.1 1826 35) = 0) (X := (xfun (adv X) (tn Y (xi (adv X))))) (RN_mk hR1 (fr_o (fr_a (fr_a (fr_rf [8] [1832, 1833] H120) (by decide)) (by decide)) (by decide)) (by decide) (by decide) (xfun_s _ _).1 (TA_fun (c := fz) hR1.2.2.2.2 (fr_o (fr_a (fr_a (fr_rf [8] [1832, 1833] H120) (by decide)) (by decide)) (by decide)) (by decide) (by decide) (by omega) (by omega) (by rw [← RK_n hR1 (Or.inl (by omega))]; rfl) rfl (show ((H120.1 1826 8) + 1) = _ by omega))) hq3 (lk_1 (by decide))) ?_
            rintro _ H139 ⟨rfl, hx139n, hx139f, hx139a, hx139b, hx139c, -, hx139e, hx139g⟩
            refine h_rng (fun hrg140 => ?_)
            have hf141 : fr [30, 31, 32, 33, 35, 36, 8] [1832, 1833, 1834, 1835] H H139 := fr_t (fr_o (fr_a (fr_a hf122 (by decide)) (by decide)) (by decide)) hx139f (by decide) (by decide)
            have ha142 : agp H H139 := agp_tr (agp_n8 (agp_1833 (agp_a ha123 (by decide)) (by omega : (H.1 1826 8) ≤ ((fz : Nat) : Int))) (by omega : (H.1 1826 8) ≤ ((H120.1 1826 8) + 1))) (agp_fr hx139f (by decide) (by decide))
            replace hx139a : (H120.1 1826 30) ≤ (H139.1 1826 30) := hx139a
            replace hx139b : (H139.1 1826 30) ≤ (H120.1 1826 29) := hx139b
            replace hx139g : (H139.1 1826 35) = 0 → ((H139.1 1826 31) = 0 ∨ (H120.1 1826 30) < (H139.1 1826 30)) := hx139g
            refine h_run 0 (pc' := 120) (l' := [(0, .inr (.inr 1826)), (1, .inl (fz : Int))]) (st' := []) rfl ?_
            refine h_run 2 (pc' := 123) (l' := [(0, .inr (.inr 1826)), (1, .inl (fz : Int))]) (st' := [.inl 58, .inr (.inr 1826)]) rfl ?_
            have g143 : -2147483648 ≤ (H139.1 1826 35) ∧ (H139.1 1826 35) ≤ 2147483647 := hrg140.1 1826 13 35 _ .int rfl rfl
            by_cases b144 : (H139.1 1826 35) = 0
            · have g145 : -2147483648 ≤ (H139.1 1826 30) ∧ (H139.1 1826 30) ≤ 2147483647 := hrg140.1 1826 13 30 _ .int rfl rfl
              have g146 : -2147483648 ≤ (H139.1 1826 29) ∧ (H139.1 1826 29) ≤ 2147483647 := hrg140.1 1826 13 29 _ .int rfl rfl
              have e147 : (H139.1 1826 29) = (H120.1 1826 29) := hx139f.2.2 29 (by decide)
              have g148 : -2147483648 ≤ (H139.1 1826 31) ∧ (H139.1 1826 31) ≤ 2147483647 := hrg140.1 1826 13 31 _ .int rfl rfl
              have g150 : -2147483648 ≤ (H139.1 1826 32) ∧ (H139.1 1826 32) ≤ 2147483647 := hrg140.1 1826 13 32 _ .int rfl rfl
              refine h_cv (i := 313) (j := 166) (b := 1826) (M' := mt_166) (xs := [.inl 58]) (rest := []) rfl rfl rfl rfl rfl rfl (Nat.le_of_ble_eq_true rfl) (Nat.le_of_ble_eq_true rfl) (by omega) (n_want (by omega) (by omega : 0 ≤ (H139.1 1826 30) ∧ (H139.1 1826 30) ≤ (H139.1 1826 29) ∧ (H139.1 1826 29) ≤ 1000) (by omega : 0 ≤ (H139.1 1826 35) ∧ (H139.1 1826 35) ≤ 5) (by omega : 0 ≤ (H139.1 1826 32) ∧ (H139.1 1826 32) ≤ 1000) (by omega) (by omega : (H139.1 1826 35) = 0) (GB_g hx139n (by omega)) hq3 (lk_n (by decide))) ?_
              rintro _ H149 ⟨rfl, hx149n, hx149f, hx149a, hx149b, hx149c, -, hx149e, hx149g⟩
              refine h_rng (fun hrg151 => ?_)
              have hf152 : fr [30, 31, 32, 33, 35, 36, 8] [1832, 1833, 1834, 1835] H H149 := fr_t hf141 hx149f (by decide) (by decide)
              have ha153 : agp H H149 := agp_tr ha142 (agp_fr hx149f (by decide) (by decide))
              replace hx149a : (H139.1 1826 30) ≤ (H149.1 1826 30) := hx149a
              replace hx149b : (H149.1 1826 30) ≤ (H139.1 1826 29) := hx149b
              replace hx149g : (H149.1 1826 35) = 0 → (H139.1 1826 31) = (58 : Int) ∧ ((H149.1 1826 31) = 0 ∨ (H139.1 1826 30) < (H149.1 1826 30)) := hx149g
              refine h_run 0 (pc' := 126) (l' := [(0, .inr (.inr 1826)), (1, .inl (fz : Int))]) (st' := []) rfl ?_
              refine h_run 1 (pc' := 127) (l' := [(0, .inr (.inr 1826)), (1, .inl (fz : Int))]) (st' := [.inr (.inr 1826)]) rfl ?_
              have g154 : -2147483648 ≤ (H149.1 1826 35) ∧ (H149.1 1826 35) ≤ 2147483647 := hrg151.1 1826 13 35 _ .int rfl rfl
              by_cases b155 : (H149.1 1826 35) = 0
              · have g156 : -2147483648 ≤ (H149.1 1826 1) ∧ (H149.1 1826 1) ≤ 2147483647 := hrg151.1 1826 13 1 _ .int rfl rfl
                have e157 : (H149.1 1826 1) = (H139.1 1826 1) := hx149f.2.2 1 (by decide)
                have e158 : (H139.1 1826 1) = (H120.1 1826 1) := hx139f.2.2 1 (by decide)
                have e159 : (H120.1 1826 1) = (H.1 1826 1) := hx120f.2.2 1 (by decide)
                have g160 : -2147483648 ≤ (H149.1 1826 31) ∧ (H149.1 1826 31) ≤ 2147483647 := hrg151.1 1826 13 31 _ .int rfl rfl
                obtain ⟨X4, hq4, hR4, -⟩ := GB_g hx149n (by omega)
                have htk4 := RK_t hR4
                have htf4 := fnd_b (X4 1) (X4 0 3) (tn Y (xi X4))
                refine h_cv (i := 322) (j := 172) (b := 1826) (M' := mt_172) (xs := []) (rest := []) rfl rfl rfl rfl rfl rfl (Nat.le_of_ble_eq_true rfl) (Nat.le_of_ble_eq_true rfl) (by omega) (n_type (by omega) (by omega : (H149.1 1826 35) = 0) (by omega : 0 ≤ (H149.1 1826 1) ∧ (H149.1 1826 1) ≤ 6) (z := tfd Y X4) (fun q9 => RK_tf hR4 (Or.inr q9))) ?_
                rintro _ _ (⟨ht161k, rfl, ht161a, ht161b, ht161c, rfl⟩ | ⟨rfl, ht161a, rfl⟩ | ⟨rfl, ht161a, ht161c, rfl⟩)
                · replace ht161a : (H149.1 1826 31) = 2 := ht161a
                  replace ht161b : (ht161k : Int) < (H149.1 1826 1) := ht161b
                  refine h_run 0 (pc' := 130) (l' := [(0, .inr (.inr 1826)), (1, .inl (fz : Int))]) (st' := [.inl (ht161k : Int)]) rfl ?_
                  refine h_run 2 (pc' := 132) (l' := [(0, .inr (.inr 1826)), (1, .inl (fz : Int)), (2, .inl (ht161k : Int))]) (st' := [.inr (.inr 1826)]) rfl ?_
                  refine h_cv (i := 293) (j := 158) (b := 1826) (M' := mt_158) (xs := []) (rest := []) rfl rfl rfl rfl rfl rfl (Nat.le_of_ble_eq_true rfl) (Nat.le_of_ble_eq_true rfl) (by omega) (m_good1 (by omega) (by omega : (H149.1 1826 35) = 0)) ?_
                  rintro _ _ ⟨rfl, rfl⟩
                  refine h_run 0 (pc' := 135) (l' := [(0, .inr (.inr 1826)), (1, .inl (fz : Int)), (2, .inl (ht161k : Int))]) (st' := [.inl 1]) rfl ?_
                  refine h_zeq (off := 7) (t := 142) rfl rfl (by decide) (fun c => absurd c (by decide)) (fun _ => ?_)
                  have g162 : -2147483648 ≤ (H149.1 1826 8) ∧ (H149.1 1826 8) ≤ 2147483647 := hrg151.1 1826 13 8 _ .int rfl rfl
                  have e163 : (H149.1 1826 8) = (H139.1 1826 8) := hx149f.2.2 8 (by decide)
                  have e164 : (H139.1 1826 8) = ((H120.1 1826 8) + 1) := hx139f.2.2 8 (by decide)
                  have hx8 : X4 8 fz = 0 := by rw [← (hR4.2.2.2.2.2.2.1.2 fz (by have := hR4.2.2.2.2.2.2.1.1; omega)).2.1, show (H149.1 1833) = up (H120.1 1833) fz 0 from ((hx149f.2.1 1833 (by decide) (by decide)).trans (hx139f.2.1 1833 (by decide) (by decide))), up_eq]
                  have hq5 : rch Y c0 ((11, (fz : Int), 0, 0) :: ((1, 59, 0, 0) :: (6, nn + 1, 0, 0) :: K), adv (xu X4 7 fz (tfd Y X4))) := rch_st hq4 (by show (if tk Y (xi X4) ≠ 3 then miss Y X4 else if tfd Y X4 < 0 then fl Y X4 3 else _) = _; (repeat (first | rw [if_pos (by omega)] | rw [if_neg (by omega)])); try rfl)
                  refine h_run 1 (pc' := 139) (l' := [(0, .inr (.inr 1826)), (1, .inl (fz : Int)), (2, .inl (ht161k : Int))]) (st' := [.inr (.inr 1826)]) rfl ?_
                  have g165 : -2147483648 ≤ (H149.1 1826 30) ∧ (H149.1 1826 30) ≤ 2147483647 := hrg151.1 1826 13 30 _ .int rfl rfl
                  have g166 : -2147483648 ≤ (H149.1 1826 29) ∧ (H149.1 1826 29) ≤ 2147483647 := hrg151.1 1826 13 29 _ .int rfl rfl
                  have e167 : (H149.1 1826 29) = (H139.1 1826 29) := hx149f.2.2 29 (by decide)
                  have g168 : -2147483648 ≤ (H149.1 1826 32) ∧ (H149.1 1826 32) ≤ 2147483647 := hrg151.1 1826 13 32 _ .int rfl rfl
                  refine h_cv (i := 297) (j := 165) (b := 1826) (M' := mt_165) (xs := []) (rest := []) rfl rfl rfl rfl rfl rfl (Nat.le_of_ble_eq_true rfl) (Nat.le_of_ble_eq_true rfl) (by omega) (n_nx (by omega) (by omega : 0 ≤ (H149.1 1826 30) ∧ (H149.1 1826 30) ≤ (H149.1 1826 29) ∧ (H149.1 1826 29) ≤ 1000) (by omega : 0 ≤ (H149.1 1826 35) ∧ (H149.1 1826 35) ≤ 5) (by omega : 0 ≤ (H149.1 1826 32) ∧ (H149.1 1826 32) ≤ 1000) (by omega : (H149.1 1826 35) = 0) (X := (adv (xu X4 7 fz (tfd Y X4)))) (RN_mk hR4 (fr_rf [] [] _) (by decide) (by decide) adv7_0 (TA_7 hR4.2.2.2.2 (by omega))) hq5 (lk_c (lk_1 (by decide)) (by decide : (11 : Nat) ≠ 0) (fun q => absurd q (by decide : (11 : Nat) ≠ 1)))) ?_
                  rintro _ H169 ⟨rfl, hx169n, hx169f, hx169a, hx169b, hx169c, -, hx169e, hx169g⟩
                  refine h_rng (fun hrg170 => ?_)
                  have hf171 : fr [30, 31, 32, 33, 35, 36, 8] [1832, 1833, 1834, 1835] H H169 := fr_t hf152 hx169f (by decide) (by decide)
                  have ha172 : agp H H169 := agp_tr ha153 (agp_fr hx169f (by decide) (by decide))
                  replace hx169a : (H149.1 1826 30) ≤ (H169.1 1826 30) := hx169a
                  replace hx169b : (H169.1 1826 30) ≤ (H149.1 1826 29) := hx169b
                  replace hx169g : (H169.1 1826 35) = 0 → ((H169.1 1826 31) = 0 ∨ (H149.1 1826 30) < (H169.1 1826 30)) := hx169g
                  refine h_run 0 (pc' := 142) (l' := [(0, .inr (.inr 1826)), (1, .inl (fz : Int)), (2, .inl (ht161k : Int))]) (st' := []) rfl ?_
                  have g173 : -2147483648 ≤ (H169.1 1826 30) ∧ (H169.1 1826 30) ≤ 2147483647 := hrg170.1 1826 13 30 _ .int rfl rfl
                  have g174 : -2147483648 ≤ (H169.1 1826 35) ∧ (H169.1 1826 35) ≤ 2147483647 := hrg170.1 1826 13 35 _ .int rfl rfl
                  have g175 : -2147483648 ≤ (H169.1 1826 32) ∧ (H169.1 1826 32) ≤ 2147483647 := hrg170.1 1826 13 32 _ .int rfl rfl
                  have g176 : -2147483648 ≤ (H169.1 1826 31) ∧ (H169.1 1826 31) ≤ 2147483647 := hrg170.1 1826 13 31 _ .int rfl rfl
                  have g177 : -2147483648 ≤ (H169.1 1826 3) ∧ (H169.1 1826 3) ≤ 2147483647 := hrg170.1 1826 13 3 _ .int rfl rfl
                  have e178 : (H169.1 1826 3) = (H149.1 1826 3) := hx169f.2.2 3 (by decide)
                  have e179 : (H149.1 1826 3) = (H139.1 1826 3) := hx149f.2.2 3 (by decide)
                  have e180 : (H139.1 1826 3) = (H120.1 1826 3) := hx139f.2.2 3 (by decide)
                  have e181 : (H120.1 1826 3) = (H.1 1826 3) := hx120f.2.2 3 (by decide)
                  have g182 : -2147483648 ≤ (H169.1 1826 29) ∧ (H169.1 1826 29) ≤ 2147483647 := hrg170.1 1826 13 29 _ .int rfl rfl
                  have e183 : (H169.1 1826 29) = (H149.1 1826 29) := hx169f.2.2 29 (by decide)
                  have g184 : -2147483648 ≤ (H169.1 1826 1) ∧ (H169.1 1826 1) ≤ 2147483647 := hrg170.1 1826 13 1 _ .int rfl rfl
                  have e185 : (H169.1 1826 1) = (H149.1 1826 1) := hx169f.2.2 1 (by decide)
                  have g186 : -2147483648 ≤ (H169.1 1826 8) ∧ (H169.1 1826 8) ≤ 2147483647 := hrg170.1 1826 13 8 _ .int rfl rfl
                  have e187 : (H169.1 1826 8) = (H149.1 1826 8) := hx169f.2.2 8 (by decide)
                  exact (n_function_cut hd h0 hw hst hP hw0 hR hmf hq htk _) _ fz (ht161k : Int) hf171 (by omega : (H.1 1826 30) ≤ (H169.1 1826 30) ∧ (H169.1 1826 30) ≤ (H.1 1826 29)) (by omega : 0 ≤ (H169.1 1826 35) ∧ (H169.1 1826 35) ≤ 5) (by omega : 0 ≤ (H169.1 1826 32) ∧ (H169.1 1826 32) ≤ 1000) ha172 (by omega : (fz : Int) = (H.1 1826 8) ∧ (H.1 1826 8) ≤ 15) (by omega : (H169.1 1826 8) = (H.1 1826 8) + 1) (by omega : -1 ≤ (ht161k : Int) ∧ (ht161k : Int) ≤ 6) (by omega : (H169.1 1826 35) = 0 → 0 ≤ (ht161k : Int) ∧ (ht161k : Int) < (H169.1 1826 1)) (fun _ => by rw [show (H169.1 1833) = up (H120.1 1833) fz 0 from (((hx169f.2.1 1833 (by decide) (by decide)).trans (hx149f.2.1 1833 (by decide) (by decide))).trans (hx139f.2.1 1833 (by decide) (by decide))), up_eq]; exact ⟨by omega, fun i hi => absurd hi (by omega)⟩) (GB_i hx169n (fun q => ⟨_, (fl_q hq5 hx8).1, q, (fl_q hq5 hx8).2.trans (by omega)⟩)) (Nat.lt_succ_self _)
                · replace ht161a : (H149.1 1826 31) ≠ 2 := ht161a
                  refine h_run 0 (pc' := 130) (l' := [(0, .inr (.inr 1826)), (1, .inl (fz : Int))]) (st' := [.inl (-1)]) rfl ?_
                  refine h_run 2 (pc' := 132) (l' := [(0, .inr (.inr 1826)), (1, .inl (fz : Int)), (2, .inl (-1))]) (st' := [.inr (.inr 1826)]) rfl ?_
                  refine h_cv (i := 293) (j := 158) (b := 1826) (M' := mt_158) (xs := []) (rest := []) rfl rfl rfl rfl rfl rfl (Nat.le_of_ble_eq_true rfl) (Nat.le_of_ble_eq_true rfl) (by omega) (m_good0 (by omega) (by omega : (2 : Int) ≠ 0)) ?_
                  rintro _ _ ⟨rfl, rfl⟩
                  refine h_run 0 (pc' := 135) (l' := [(0, .inr (.inr 1826)), (1, .inl (fz : Int)), (2, .inl (-1))]) (st' := [.inl 0]) rfl ?_
                  refine h_zeq (off := 7) (t := 142) rfl rfl (by decide) (fun _ => ?_) (fun c => absurd c (by decide))
                  have g188 : -2147483648 ≤ (H149.1 1826 30) ∧ (H149.1 1826 30) ≤ 2147483647 := hrg151.1 1826 13 30 _ .int rfl rfl
                  have g189 : -2147483648 ≤ (H149.1 1826 32) ∧ (H149.1 1826 32) ≤ 2147483647 := hrg151.1 1826 13 32 _ .int rfl rfl
                  have g190 : -2147483648 ≤ (H149.1 1826 3) ∧ (H149.1 1826 3) ≤ 2147483647 := hrg151.1 1826 13 3 _ .int rfl rfl
                  have e191 : (H149.1 1826 3) = (H139.1 1826 3) := hx149f.2.2 3 (by decide)
                  have e192 : (H139.1 1826 3) = (H120.1 1826 3) := hx139f.2.2 3 (by decide)
                  have e193 : (H120.1 1826 3) = (H.1 1826 3) := hx120f.2.2 3 (by decide)
                  have g194 : -2147483648 ≤ (H149.1 1826 29) ∧ (H149.1 1826 29) ≤ 2147483647 := hrg151.1 1826 13 29 _ .int rfl rfl
                  have e195 : (H149.1 1826 29) = (H139.1 1826 29) := hx149f.2.2 29 (by decide)
                  have g196 : -2147483648 ≤ (H149.1 1826 8) ∧ (H149.1 1826 8) ≤ 2147483647 := hrg151.1 1826 13 8 _ .int rfl rfl
                  have e197 : (H149.1 1826 8) = (H139.1 1826 8) := hx149f.2.2 8 (by decide)
                  have e198 : (H139.1 1826 8) = ((H120.1 1826 8) + 1) := hx139f.2.2 8 (by decide)
                  exact (n_function_cut hd h0 hw hst hP hw0 hR hmf hq htk _) _ fz (-1 : Int) (fr_o (fr_o hf152 (by decide)) (by decide)) (by omega : (H.1 1826 30) ≤ (H149.1 1826 30) ∧ (H149.1 1826 30) ≤ (H.1 1826 29)) (by omega : 0 ≤ (2 : Int) ∧ (2 : Int) ≤ 5) (by omega : 0 ≤ (H149.1 1826 32) ∧ (H149.1 1826 32) ≤ 1000) (agp_o (agp_o ha153 (by decide)) (by decide)) (by omega : (fz : Int) = (H.1 1826 8) ∧ (H.1 1826 8) ≤ 15) (by omega : (H149.1 1826 8) = (H.1 1826 8) + 1) (by omega : -1 ≤ (-1 : Int) ∧ (-1 : Int) ≤ 6) (by omega : (2 : Int) = 0 → 0 ≤ (-1 : Int) ∧ (-1 : Int) < (H149.1 1826 1)) (fun (q : (2 : Int) = 0) => absurd q (by omega)) (Or.inr ⟨(by omega : (2 : Int) ≠ 0), (BD_mk hR4 (fr_o (fr_o (fr_rf [35, 36] [] H149) (by decide)) (by decide)) (by decide) (by decide) (by decide : (2 : Int) ≠ 0) rfl rfl (rch_st hq4 (by show (if tk Y (xi X4) ≠ 3 then miss Y X4 else if tfd Y X4 < 0 then fl Y X4 3 else _) = _; unfold miss; (repeat (first | rw [if_pos (by omega)] | rw [if_neg (by omega)])); try rfl)))⟩) (Nat.lt_succ_self _)
                · replace ht161a : (H149.1 1826 31) = 2 := ht161a
                  refine h_run 0 (pc' := 130) (l' := [(0, .inr (.inr 1826)), (1, .inl (fz : Int))]) (st' := [.inl (-1)]) rfl ?_
                  refine h_run 2 (pc' := 132) (l' := [(0, .inr (.inr 1826)), (1, .inl (fz : Int)), (2, .inl (-1))]) (st' := [.inr (.inr 1826)]) rfl ?_
                  refine h_cv (i := 293) (j := 158) (b := 1826) (M' := mt_158) (xs := []) (rest := []) rfl rfl rfl rfl rfl rfl (Nat.le_of_ble_eq_true rfl) (Nat.le_of_ble_eq_true rfl) (by omega) (m_good0 (by omega) (by omega : (3 : Int) ≠ 0)) ?_
                  rintro _ _ ⟨rfl, rfl⟩
                  refine h_run 0 (pc' := 135) (l' := [(0, .inr (.inr 1826)), (1, .inl (fz : Int)), (2, .inl (-1))]) (st' := [.inl 0]) rfl ?_
                  refine h_zeq (off := 7) (t := 142) rfl rfl (by decide) (fun _ => ?_) (fun c => absurd c (by decide))
                  have g199 : -2147483648 ≤ (H149.1 1826 30) ∧ (H149.1 1826 30) ≤ 2147483647 := hrg151.1 1826 13 30 _ .int rfl rfl
                  have g200 : -2147483648 ≤ (H149.1 1826 32) ∧ (H149.1 1826 32) ≤ 2147483647 := hrg151.1 1826 13 32 _ .int rfl rfl
                  have g201 : -2147483648 ≤ (H149.1 1826 3) ∧ (H149.1 1826 3) ≤ 2147483647 := hrg151.1 1826 13 3 _ .int rfl rfl
                  have e202 : (H149.1 1826 3) = (H139.1 1826 3) := hx149f.2.2 3 (by decide)
                  have e203 : (H139.1 1826 3) = (H120.1 1826 3) := hx139f.2.2 3 (by decide)
                  have e204 : (H120.1 1826 3) = (H.1 1826 3) := hx120f.2.2 3 (by decide)
                  have g205 : -2147483648 ≤ (H149.1 1826 29) ∧ (H149.1 1826 29) ≤ 2147483647 := hrg151.1 1826 13 29 _ .int rfl rfl
                  have e206 : (H149.1 1826 29) = (H139.1 1826 29) := hx149f.2.2 29 (by decide)
                  have g207 : -2147483648 ≤ (H149.1 1826 8) ∧ (H149.1 1826 8) ≤ 2147483647 := hrg151.1 1826 13 8 _ .int rfl rfl
                  have e208 : (H149.1 1826 8) = (H139.1 1826 8) := hx149f.2.2 8 (by decide)
                  have e209 : (H139.1 1826 8) = ((H120.1 1826 8) + 1) := hx139f.2.2 8 (by decide)
                  exact (n_function_cut hd h0 hw hst hP hw0 hR hmf hq htk _) _ fz (-1 : Int) (fr_o (fr_o hf152 (by decide)) (by decide)) (by omega : (H.1 1826 30) ≤ (H149.1 1826 30) ∧ (H149.1 1826 30) ≤ (H.1 1826 29)) (by omega : 0 ≤ (3 : Int) ∧ (3 : Int) ≤ 5) (by omega : 0 ≤ (H149.1 1826 32) ∧ (H149.1 1826 32) ≤ 1000) (agp_o (agp_o ha153 (by decide)) (by decide)) (by omega : (fz : Int) = (H.1 1826 8) ∧ (H.1 1826 8) ≤ 15) (by omega : (H149.1 1826 8) = (H.1 1826 8) + 1) (by omega : -1 ≤ (-1 : Int) ∧ (-1 : Int) ≤ 6) (by omega : (3 : Int) = 0 → 0 ≤ (-1 : Int) ∧ (-1 : Int) < (H149.1 1826 1)) (fun (q : (3 : Int) = 0) => absurd q (by omega)) (Or.inr ⟨(by omega : (3 : Int) ≠ 0), (BD_mk hR4 (fr_o (fr_o (fr_rf [35, 36] [] H149) (by decide)) (by decide)) (by decide) (by decide) (by decide : (3 : Int) ≠ 0) rfl rfl (rch_st hq4 (by show (if tk Y (xi X4) ≠ 3 then miss Y X4 else if tfd Y X4 < 0 then fl Y X4 3 else _) = _; unfold miss; (repeat (first | rw [if_pos (by omega)] | rw [if_neg (by omega)])); try rfl)))⟩) (Nat.lt_succ_self _)
              · refine h_cv (i := 322) (j := 172) (b := 1826) (M' := mt_172) (xs := []) (rest := []) rfl rfl rfl rfl rfl rfl (Nat.le_of_ble_eq_true rfl) (Nat.le_of_ble_eq_true rfl) (by omega) (n_type0 (by omega) (by omega : (H149.1 1826 35) ≠ 0)) ?_
                rintro _ _ ⟨rfl, rfl⟩
                refine h_run 0 (pc' := 130) (l' := [(0, .inr (.inr 1826)), (1, .inl (fz : Int))]) (st' := [.inl (-1)]) rfl ?_
                refine h_run 2 (pc' := 132) (l' := [(0, .inr (.inr 1826)), (1, .inl (fz : Int)), (2, .inl (-1))]) (st' := [.inr (.inr 1826)]) rfl ?_
                refine h_cv (i := 293) (j := 158) (b := 1826) (M' := mt_158) (xs := []) (rest := []) rfl rfl rfl rfl rfl rfl (Nat.le_of_ble_eq_true rfl) (Nat.le_of_ble_eq_true rfl) (by omega) (m_good0 (by omega) (by omega : (H149.1 1826 35) ≠ 0)) ?_
                rintro _ _ ⟨rfl, rfl⟩
                refine h_run 0 (pc' := 135) (l' := [(0, .inr (.inr 1826)), (1, .inl (fz : Int)), (2, .inl (-1))]) (st' := [.inl 0]) rfl ?_
                refine h_zeq (off := 7) (t := 142) rfl rfl (by decide) (fun _ => ?_) (fun c => absurd c (by decide))
                have g210 : -2147483648 ≤ (H149.1 1826 30) ∧ (H149.1 1826 30) ≤ 2147483647 := hrg151.1 1826 13 30 _ .int rfl rfl
                have g211 : -2147483648 ≤ (H149.1 1826 32) ∧ (H149.1 1826 32) ≤ 2147483647 := hrg151.1 1826 13 32 _ .int rfl rfl
                have g212 : -2147483648 ≤ (H149.1 1826 31) ∧ (H149.1 1826 31) ≤ 2147483647 := hrg151.1 1826 13 31 _ .int rfl rfl
                have g213 : -2147483648 ≤ (H149.1 1826 3) ∧ (H149.1 1826 3) ≤ 2147483647 := hrg151.1 1826 13 3 _ .int rfl rfl
                have e214 : (H149.1 1826 3) = (H139.1 1826 3) := hx149f.2.2 3 (by decide)
                have e215 : (H139.1 1826 3) = (H120.1 1826 3) := hx139f.2.2 3 (by decide)
                have e216 : (H120.1 1826 3) = (H.1 1826 3) := hx120f.2.2 3 (by decide)
                have g217 : -2147483648 ≤ (H149.1 1826 29) ∧ (H149.1 1826 29) ≤ 2147483647 := hrg151.1 1826 13 29 _ .int rfl rfl
                have e218 : (H149.1 1826 29) = (H139.1 1826 29) := hx149f.2.2 29 (by decide)
                have g219 : -2147483648 ≤ (H149.1 1826 1) ∧ (H149.1 1826 1) ≤ 2147483647 := hrg151.1 1826 13 1 _ .int rfl rfl
                have e220 : (H149.1 1826 1) = (H139.1 1826 1) := hx149f.2.2 1 (by decide)
                have e221 : (H139.1 1826 1) = (H120.1 1826 1) := hx139f.2.2 1 (by decide)
                have e222 : (H120.1 1826 1) = (H.1 1826 1) := hx120f.2.2 1 (by decide)
                have g223 : -2147483648 ≤ (H149.1 1826 8) ∧ (H149.1 1826 8) ≤ 2147483647 := hrg151.1 1826 13 8 _ .int rfl rfl
                have e224 : (H149.1 1826 8) = (H139.1 1826 8) := hx149f.2.2 8 (by decide)
                have e225 : (H139.1 1826 8) = ((H120.1 1826 8) + 1) := hx139f.2.2 8 (by decide)
                exact (n_function_cut hd h0 hw hst hP hw0 hR hmf hq htk _) _ fz (-1 : Int) hf152 (by omega : (H.1 1826 30) ≤ (H149.1 1826 30) ∧ (H149.1 1826 30) ≤ (H.1 1826 29)) (by omega : 0 ≤ (H149.1 1826 35) ∧ (H149.1 1826 35) ≤ 5) (by omega : 0 ≤ (H149.1 1826 32) ∧ (H149.1 1826 32) ≤ 1000) ha153 (by omega : (fz : Int) = (H.1 1826 8) ∧ (H.1 1826 8) ≤ 15) (by omega : (H149.1 1826 8) = (H.1 1826 8) + 1) (by omega : -1 ≤ (-1 : Int) ∧ (-1 : Int) ≤ 6) (by omega : (H149.1 1826 35) = 0 → 0 ≤ (-1 : Int) ∧ (-1 : Int) < (H149.1 1826 1)) (fun (q : (H149.1 1826 35) = 0) => absurd q (by omega)) (Or.inr ⟨(by omega : (H149.1 1826 35) ≠ 0), GB_b hx149n (by omega)⟩) (Nat.lt_succ_self _)
            · refine h_cv (i := 313) (j := 166) (b := 1826) (M' := mt_166) (xs := [.inl 58]) (rest := []) rfl rfl rfl rfl rfl rfl (Nat.le_of_ble_eq_true rfl) (Nat.le_of_ble_eq_true rfl) (by omega) (n_want0 (by omega) (by omega : (H139.1 1826 35) ≠ 0)) ?_
              rintro _ _ ⟨rfl, rfl⟩
              refine h_run 0 (pc' := 126) (l' := [(0, .inr (.inr 1826)), (1, .inl (fz : Int))]) (st' := []) rfl ?_
              refine h_run 1 (pc' := 127) (l' := [(0, .inr (.inr 1826)), (1, .inl (fz : Int))]) (st' := [.inr (.inr 1826)]) rfl ?_
              refine h_cv (i := 322) (j := 172) (b := 1826) (M' := mt_172) (xs := []) (rest := []) rfl rfl rfl rfl rfl rfl (Nat.le_of_ble_eq_true rfl) (Nat.le_of_ble_eq_true rfl) (by omega) (n_type0 (by omega) (by omega : (H139.1 1826 35) ≠ 0)) ?_
              rintro _ _ ⟨rfl, rfl⟩
              refine h_run 0 (pc' := 130) (l' := [(0, .inr (.inr 1826)), (1, .inl (fz : Int))]) (st' := [.inl (-1)]) rfl ?_
              refine h_run 2 (pc' := 132) (l' := [(0, .inr (.inr 1826)), (1, .inl (fz : Int)), (2, .inl (-1))]) (st' := [.inr (.inr 1826)]) rfl ?_
              refine h_cv (i := 293) (j := 158) (b := 1826) (M' := mt_158) (xs := []) (rest := []) rfl rfl rfl rfl rfl rfl (Nat.le_of_ble_eq_true rfl) (Nat.le_of_ble_eq_true rfl) (by omega) (m_good0 (by omega) (by omega : (H139.1 1826 35) ≠ 0)) ?_
              rintro _ _ ⟨rfl, rfl⟩
              refine h_run 0 (pc' := 135) (l' := [(0, .inr (.inr 1826)), (1, .inl (fz : Int)), (2, .inl (-1))]) (st' := [.inl 0]) rfl ?_
              refine h_zeq (off := 7) (t := 142) rfl rfl (by decide) (fun _ => ?_) (fun c => absurd c (by decide))
              have g226 : -2147483648 ≤ (H139.1 1826 30) ∧ (H139.1 1826 30) ≤ 2147483647 := hrg140.1 1826 13 30 _ .int rfl rfl
              have g227 : -2147483648 ≤ (H139.1 1826 32) ∧ (H139.1 1826 32) ≤ 2147483647 := hrg140.1 1826 13 32 _ .int rfl rfl
              have g228 : -2147483648 ≤ (H139.1 1826 31) ∧ (H139.1 1826 31) ≤ 2147483647 := hrg140.1 1826 13 31 _ .int rfl rfl
              have g229 : -2147483648 ≤ (H139.1 1826 3) ∧ (H139.1 1826 3) ≤ 2147483647 := hrg140.1 1826 13 3 _ .int rfl rfl
              have e230 : (H139.1 1826 3) = (H120.1 1826 3) := hx139f.2.2 3 (by decide)
              have e231 : (H120.1 1826 3) = (H.1 1826 3) := hx120f.2.2 3 (by decide)
              have g232 : -2147483648 ≤ (H139.1 1826 29) ∧ (H139.1 1826 29) ≤ 2147483647 := hrg140.1 1826 13 29 _ .int rfl rfl
              have e233 : (H139.1 1826 29) = (H120.1 1826 29) := hx139f.2.2 29 (by decide)
              have g234 : -2147483648 ≤ (H139.1 1826 1) ∧ (H139.1 1826 1) ≤ 2147483647 := hrg140.1 1826 13 1 _ .int rfl rfl
              have e235 : (H139.1 1826 1) = (H120.1 1826 1) := hx139f.2.2 1 (by decide)
              have e236 : (H120.1 1826 1) = (H.1 1826 1) := hx120f.2.2 1 (by decide)
              have g237 : -2147483648 ≤ (H139.1 1826 8) ∧ (H139.1 1826 8) ≤ 2147483647 := hrg140.1 1826 13 8 _ .int rfl rfl
              have e238 : (H139.1 1826 8) = ((H120.1 1826 8) + 1) := hx139f.2.2 8 (by decide)
              exact (n_function_cut hd h0 hw hst hP hw0 hR hmf hq htk _) _ fz (-1 : Int) hf141 (by omega : (H.1 1826 30) ≤ (H139.1 1826 30) ∧ (H139.1 1826 30) ≤ (H.1 1826 29)) (by omega : 0 ≤ (H139.1 1826 35) ∧ (H139.1 1826 35) ≤ 5) (by omega : 0 ≤ (H139.1 1826 32) ∧ (H139.1 1826 32) ≤ 1000) ha142 (by omega : (fz : Int) = (H.1 1826 8) ∧ (H.1 1826 8) ≤ 15) (by omega : (H139.1 1826 8) = (H.1 1826 8) + 1) (by omega : -1 ≤ (-1 : Int) ∧ (-1 : Int) ≤ 6) (by omega : (H139.1 1826 35) = 0 → 0 ≤ (-1 : Int) ∧ (-1 : Int) < (H139.1 1826 1)) (fun (q : (H139.1 1826 35) = 0) => absurd q (by omega)) (Or.inr ⟨(by omega : (H139.1 1826 35) ≠ 0), GB_b hx139n (by omega)⟩) (Nat.lt_succ_self _)
          · refine h_run 2 (pc' := 73) (l' := [(0, .inr (.inr 1826))]) (st' := [.inl 5, .inr (.inr 1826)]) rfl ?_
            refine h_cv (i := 278) (j := 159) (b := 1826) (M' := mt_159) (xs := [.inl 5]) (rest := []) rfl rfl rfl rfl rfl rfl (Nat.le_of_ble_eq_true rfl) (Nat.le_of_ble_eq_true rfl) (by omega) (m_bad0 (by omega) (by omega) (by omega : (H120.1 1826 35) = 0)) ?_
            rintro _ _ ⟨rfl, rfl⟩
            refine h_run 0 (pc' := 76) (l' := [(0, .inr (.inr 1826))]) (st' := []) rfl ?_
            refine h_run 1 (pc' := 77) (l' := [(0, .inr (.inr 1826))]) (st' := [.inr (.inr 1826)]) rfl ?_
            refine h_cv (i := 293) (j := 158) (b := 1826) (M' := mt_158) (xs := []) (rest := []) rfl rfl rfl rfl rfl rfl (Nat.le_of_ble_eq_true rfl) (Nat.le_of_ble_eq_true rfl) (by omega) (m_good0 (by omega) (by omega : (5 : Int) ≠ 0)) ?_
            rintro _ _ ⟨rfl, rfl⟩
            refine h_run 0 (pc' := 80) (l' := [(0, .inr (.inr 1826))]) (st' := [.inl 0]) rfl ?_
            refine h_zne (off := 4) (t := 84) rfl rfl (by decide) (fun c => absurd c (by decide)) (fun _ => ?_)
            refine h_ret rfl rfl ?_
            have g239 : -2147483648 ≤ (H120.1 1826 30) ∧ (H120.1 1826 30) ≤ 2147483647 := hrg121.1 1826 13 30 _ .int rfl rfl
            have g240 : -2147483648 ≤ (H120.1 1826 32) ∧ (H120.1 1826 32) ≤ 2147483647 := hrg121.1 1826 13 32 _ .int rfl rfl
            have g241 : -2147483648 ≤ (H120.1 1826 29) ∧ (H120.1 1826 29) ≤ 2147483647 := hrg121.1 1826 13 29 _ .int rfl rfl
            have e242 : (H120.1 1826 29) = (H.1 1826 29) := hx120f.2.2 29 (by decide)
            have g243 : -2147483648 ≤ (H120.1 1826 1) ∧ (H120.1 1826 1) ≤ 2147483647 := hrg121.1 1826 13 1 _ .int rfl rfl
            have e244 : (H120.1 1826 1) = (H.1 1826 1) := hx120f.2.2 1 (by decide)
            have g245 : -2147483648 ≤ (H120.1 1826 3) ∧ (H120.1 1826 3) ≤ 2147483647 := hrg121.1 1826 13 3 _ .int rfl rfl
            have e246 : (H120.1 1826 3) = (H.1 1826 3) := hx120f.2.2 3 (by decide)
            have g247 : -2147483648 ≤ (H120.1 1826 13) ∧ (H120.1 1826 13) ≤ 2147483647 := hrg121.1 1826 13 13 _ .int rfl rfl
            have e248 : (H120.1 1826 13) = (H.1 1826 13) := hx120f.2.2 13 (by decide)
            have g249 : -2147483648 ≤ (H120.1 1826 19) ∧ (H120.1 1826 19) ≤ 2147483647 := hrg121.1 1826 13 19 _ .int rfl rfl
            have e250 : (H120.1 1826 19) = (H.1 1826 19) := hx120f.2.2 19 (by decide)
            exact ⟨rfl, (Or.inr ⟨(by omega : (5 : Int) ≠ 0), (BD_mk hR1 (fr_o (fr_o (fr_rf [35, 36] [] H120) (by decide)) (by decide)) (by decide) (by decide) (by decide : (5 : Int) ≠ 0) rfl rfl (rch_st hq (by show stDec Y nn K X = _; unfold stDec miss; (repeat (first | rw [if_pos (by omega)] | rw [if_neg (by omega)])); try rfl)))⟩), (fr_o (fr_o hf122 (by decide)) (by decide)), (by omega : (H.1 1826 30) ≤ (H120.1 1826 30) ∧ (H120.1 1826 30) ≤ (H.1 1826 29)), (by omega : 0 ≤ (5 : Int) ∧ (5 : Int) ≤ 5), (by omega : (H.1 1826 35) ≠ 0 → (5 : Int) ≠ 0), (by omega : 0 ≤ (H120.1 1826 32) ∧ (H120.1 1826 32) ≤ 1000), (agp_o (agp_o ha123 (by decide)) (by decide)), (fun (q : (5 : Int) = 0) => absurd q (by omega))⟩
        · refine h_run 2 (pc' := 52) (l' := [(0, .inr (.inr 1826))]) (st' := [.inl 3, .inr (.inr 1826)]) rfl ?_
          refine h_cv (i := 278) (j := 159) (b := 1826) (M' := mt_159) (xs := [.inl 3]) (rest := []) rfl rfl rfl rfl rfl rfl (Nat.le_of_ble_eq_true rfl) (Nat.le_of_ble_eq_true rfl) (by omega) (m_bad0 (by omega) (by omega) (by omega : (H120.1 1826 35) = 0)) ?_
          rintro _ _ ⟨rfl, rfl⟩
          refine h_run 0 (pc' := 55) (l' := [(0, .inr (.inr 1826))]) (st' := []) rfl ?_
          refine h_run 1 (pc' := 56) (l' := [(0, .inr (.inr 1826))]) (st' := [.inr (.inr 1826)]) rfl ?_
          refine h_cv (i := 293) (j := 158) (b := 1826) (M' := mt_158) (xs := []) (rest := []) rfl rfl rfl rfl rfl rfl (Nat.le_of_ble_eq_true rfl) (Nat.le_of_ble_eq_true rfl) (by omega) (m_good0 (by omega) (by omega : (3 : Int) ≠ 0)) ?_
          rintro _ _ ⟨rfl, rfl⟩
          refine h_run 0 (pc' := 59) (l' := [(0, .inr (.inr 1826))]) (st' := [.inl 0]) rfl ?_
          refine h_zeq (off := 17) (t := 76) rfl rfl (by decide) (fun _ => ?_) (fun c => absurd c (by decide))
          refine h_run 1 (pc' := 77) (l' := [(0, .inr (.inr 1826))]) (st' := [.inr (.inr 1826)]) rfl ?_
          refine h_cv (i := 293) (j := 158) (b := 1826) (M' := mt_158) (xs := []) (rest := []) rfl rfl rfl rfl rfl rfl (Nat.le_of_ble_eq_true rfl) (Nat.le_of_ble_eq_true rfl) (by omega) (m_good0 (by omega) (by omega : (3 : Int) ≠ 0)) ?_
          rintro _ _ ⟨rfl, rfl⟩
          refine h_run 0 (pc' := 80) (l' := [(0, .inr (.inr 1826))]) (st' := [.inl 0]) rfl ?_
          refine h_zne (off := 4) (t := 84) rfl rfl (by decide) (fun c => absurd c (by decide)) (fun _ => ?_)
          refine h_ret rfl rfl ?_
          have g251 : -2147483648 ≤ (H120.1 1826 30) ∧ (H120.1 1826 30) ≤ 2147483647 := hrg121.1 1826 13 30 _ .int rfl rfl
          have g252 : -2147483648 ≤ (H120.1 1826 32) ∧ (H120.1 1826 32) ≤ 2147483647 := hrg121.1 1826 13 32 _ .int rfl rfl
          have g253 : -2147483648 ≤ (H120.1 1826 29) ∧ (H120.1 1826 29) ≤ 2147483647 := hrg121.1 1826 13 29 _ .int rfl rfl
          have e254 : (H120.1 1826 29) = (H.1 1826 29) := hx120f.2.2 29 (by decide)
          have g255 : -2147483648 ≤ (H120.1 1826 1) ∧ (H120.1 1826 1) ≤ 2147483647 := hrg121.1 1826 13 1 _ .int rfl rfl
          have e256 : (H120.1 1826 1) = (H.1 1826 1) := hx120f.2.2 1 (by decide)
          have g257 : -2147483648 ≤ (H120.1 1826 3) ∧ (H120.1 1826 3) ≤ 2147483647 := hrg121.1 1826 13 3 _ .int rfl rfl
          have e258 : (H120.1 1826 3) = (H.1 1826 3) := hx120f.2.2 3 (by decide)
          have g259 : -2147483648 ≤ (H120.1 1826 13) ∧ (H120.1 1826 13) ≤ 2147483647 := hrg121.1 1826 13 13 _ .int rfl rfl
          have e260 : (H120.1 1826 13) = (H.1 1826 13) := hx120f.2.2 13 (by decide)
          have g261 : -2147483648 ≤ (H120.1 1826 19) ∧ (H120.1 1826 19) ≤ 2147483647 := hrg121.1 1826 13 19 _ .int rfl rfl
          have e262 : (H120.1 1826 19) = (H.1 1826 19) := hx120f.2.2 19 (by decide)
          exact ⟨rfl, (Or.inr ⟨(by omega : (3 : Int) ≠ 0), (BD_mk hR1 (fr_o (fr_o (fr_rf [35, 36] [] H120) (by decide)) (by decide)) (by decide) (by decide) (by decide : (3 : Int) ≠ 0) rfl rfl (rch_st hq (by show stDec Y nn K X = _; unfold stDec miss; (repeat (first | rw [if_pos (by omega)] | rw [if_neg (by omega)])); try rfl)))⟩), (fr_o (fr_o hf122 (by decide)) (by decide)), (by omega : (H.1 1826 30) ≤ (H120.1 1826 30) ∧ (H120.1 1826 30) ≤ (H.1 1826 29)), (by omega : 0 ≤ (3 : Int) ∧ (3 : Int) ≤ 5), (by omega : (H.1 1826 35) ≠ 0 → (3 : Int) ≠ 0), (by omega : 0 ≤ (H120.1 1826 32) ∧ (H120.1 1826 32) ≤ 1000), (agp_o (agp_o ha123 (by decide)) (by decide)), (fun (q : (3 : Int) = 0) => absurd q (by omega))⟩
      · refine h_run 0 (pc' := 46) (l' := [(0, .inr (.inr 1826))]) (st' := [.inl (-1)]) rfl ?_
        refine h_run 1 (pc' := 47) (l' := [(0, .inr (.inr 1826))]) (st' := [.inl (-1), .inl (-1)]) rfl ?_
        refine h_ieq (off := 8) (t := 55) rfl rfl (by decide) (by decide) (fun _ => ?_) (fun c => absurd c (by decide))
        refine h_run 1 (pc' := 56) (l' := [(0, .inr (.inr 1826))]) (st' := [.inr (.inr 1826)]) rfl ?_
        refine h_cv (i := 293) (j := 158) (b := 1826) (M' := mt_158) (xs := []) (rest := []) rfl rfl rfl rfl rfl rfl (Nat.le_of_ble_eq_true rfl) (Nat.le_of_ble_eq_true rfl) (by omega) (m_good1 (by omega) (by omega : (H120.1 1826 35) = 0)) ?_
        rintro _ _ ⟨rfl, rfl⟩
        refine h_run 0 (pc' := 59) (l' := [(0, .inr (.inr 1826))]) (st' := [.inl 1]) rfl ?_
        refine h_zeq (off := 17) (t := 76) rfl rfl (by decide) (fun c => absurd c (by decide)) (fun _ => ?_)
        refine h_run 2 (pc' := 66) (l' := [(0, .inr (.inr 1826))]) (st' := [.inl (H120.1 1826 8)]) rfl ?_
        refine h_run 1 (pc' := 68) (l' := [(0, .inr (.inr 1826))]) (st' := [.inl 16, .inl (H120.1 1826 8)]) rfl ?_
        refine h_ine (off := 8) (t := 76) rfl rfl (by omega) (by decide) (fun c263 => ?_) (fun c263 => ?_)
        · refine h_run 1 (pc' := 77) (l' := [(0, .inr (.inr 1826))]) (st' := [.inr (.inr 1826)]) rfl ?_
          refine h_cv (i := 293) (j := 158) (b := 1826) (M' := mt_158) (xs := []) (rest := []) rfl rfl rfl rfl rfl rfl (Nat.le_of_ble_eq_true rfl) (Nat.le_of_ble_eq_true rfl) (by omega) (m_good1 (by omega) (by omega : (H120.1 1826 35) = 0)) ?_
          rintro _ _ ⟨rfl, rfl⟩
          refine h_run 0 (pc' := 80) (l' := [(0, .inr (.inr 1826))]) (st' := [.inl 1]) rfl ?_
          refine h_zne (off := 4) (t := 84) rfl rfl (by decide) (fun _ => ?_) (fun c => absurd c (by decide))
          refine h_run 2 (pc' := 88) (l' := [(0, .inr (.inr 1826))]) (st' := [.inl (H120.1 1826 8)]) rfl ?_
          refine h_run 1 (pc' := 89) (l' := [(0, .inr (.inr 1826)), (1, .inl (H120.1 1826 8))]) (st' := []) rfl ?_
          obtain ⟨fz, hfz⟩ : ∃ k9 : Nat, (H120.1 1826 8) = (k9 : Int) := ⟨((H120.1 1826 8)).toNat, by omega⟩
          rw [show (H120.1 1826 8) = (fz : Int) from hfz]
          refine h_run 5 (pc' := 98) (l' := [(0, .inr (.inr 1826)), (1, .inl (fz : Int))]) (st' := [.inr (.inl (H120.1 1826 33)), .inl (fz : Int), .inr (.inr 1832)]) rfl ?_
          refine h_lst (c := 1832) (j := fz) (i := (fz : Int)) (x := (H120.1 1826 33)) rfl rfl (by decide) (by decide) rfl (by omega) (by first | omega | exact z_long _) ?_
          refine h_run 4 (pc' := 105) (l' := [(0, .inr (.inr 1826)), (1, .inl (fz : Int))]) (st' := [.inl 0, .inl (fz : Int), .inr (.inr 1833)]) rfl ?_
          refine h_ist (c := 1833) (j := fz) (i := (fz : Int)) (x := 0) rfl rfl (by decide) (by decide) rfl (by omega) (by decide) ?_
          refine h_run 3 (pc' := 111) (l' := [(0, .inr (.inr 1826)), (1, .inl (fz : Int))]) (st' := [.inl (H120.1 1826 8), .inr (.inr 1826)]) rfl ?_
          refine h_run 2 (pc' := 113) (l' := [(0, .inr (.inr 1826)), (1, .inl (fz : Int))]) (st' := [.inl ((H120.1 1826 8) + 1), .inr (.inr 1826)]) rfl ?_
          refine h_puti (i := 325) (ci := 13) (k := 8) (a := 1826) (x := ((H120.1 1826 8) + 1)) rfl rfl rfl rfl rfl rfl (by decide) (by omega) ?_
          have hq3 : rch Y c0 ((1, 58, 0, 0) :: (10, (fz : Int), 0, 0) :: (11, (fz : Int), 0, 0) :: ((1, 59, 0, 0) :: (6, nn + 1, 0, 0) :: K), (xfun (adv X) (tn Y (xi (adv X))))) := by rw [show (fz : Int) = X 0 5 by omega]; exact (rch_st hq (by show stDec Y nn K X = _; unfold stDec miss; (repeat (first | rw [if_pos (by omega)] | rw [if_neg (by omega)])); try rfl))
          refine h_run 1 (pc' := 117) (l' := [(0, .inr (.inr 1826)), (1, .inl (fz : Int))]) (st' := [.inr (.inr 1826)]) rfl ?_
          have g264 : -2147483648 ≤ (H120.1 1826 30) ∧ (H120.1 1826 30) ≤ 2147483647 := hrg121.1 1826 13 30 _ .int rfl rfl
          have g265 : -2147483648 ≤ (H120.1 1826 29) ∧ (H120.1 1826 29) ≤ 2147483647 := hrg121.1 1826 13 29 _ .int rfl rfl
          have e266 : (H120.1 1826 29) = (H.1 1826 29) := hx120f.2.2 29 (by decide)
          have g267 : -2147483648 ≤ (H120.1 1826 32) ∧ (H120.1 1826 32) ≤ 2147483647 := hrg121.1 1826 13 32 _ .int rfl rfl
          refine h_cv (i := 297) (j := 165) (b := 1826) (M' := mt_165) (xs := []) (rest := []) rfl rfl rfl rfl rfl rfl (Nat.le_of_ble_eq_true rfl) (Nat.le_of_ble_eq_true rfl) (by omega) (n_nx (by omega) (by omega : 0 ≤ (H120.1 1826 30) ∧ (H120.1 1826 30) ≤ (H120.1 1826 29) ∧ (H120.1 1826 29) ≤ 1000) (by omega : 0 ≤ (H120.1 1826 35) ∧ (H120.1 1826 35) ≤ 5) (by omega : 0 ≤ (H120.1 1826 32) ∧ (H120.1 1826 32) ≤ 1000) (by omega : (H120.1 1826 35) = 0) (X := (xfun (adv X) (tn Y (xi (adv X))))) (RN_mk hR1 (fr_o (fr_a (fr_a (fr_rf [8] [1832, 1833] H120) (by decide)) (by decide)) (by decide)) (by decide) (by decide) (xfun_s _ _).1 (TA_fun (c := fz) hR1.2.2.2.2 (fr_o (fr_a (fr_a (fr_rf [8] [1832, 1833] H120) (by decide)) (by decide)) (by decide)) (by decide) (by decide) (by omega) (by omega) (by rw [← RK_n hR1 (Or.inl (by omega))]; rfl) rfl (show ((H120.1 1826 8) + 1) = _ by omega))) hq3 (lk_1 (by decide))) ?_
          rintro _ H268 ⟨rfl, hx268n, hx268f, hx268a, hx268b, hx268c, -, hx268e, hx268g⟩
          refine h_rng (fun hrg269 => ?_)
          have hf270 : fr [30, 31, 32, 33, 35, 36, 8] [1832, 1833, 1834, 1835] H H268 := fr_t (fr_o (fr_a (fr_a hf122 (by decide)) (by decide)) (by decide)) hx268f (by decide) (by decide)
          have ha271 : agp H H268 := agp_tr (agp_n8 (agp_1833 (agp_a ha123 (by decide)) (by omega : (H.1 1826 8) ≤ ((fz : Nat) : Int))) (by omega : (H.1 1826 8) ≤ ((H120.1 1826 8) + 1))) (agp_fr hx268f (by decide) (by decide))
          replace hx268a : (H120.1 1826 30) ≤ (H268.1 1826 30) := hx268a
          replace hx268b : (H268.1 1826 30) ≤ (H120.1 1826 29) := hx268b
          replace hx268g : (H268.1 1826 35) = 0 → ((H268.1 1826 31) = 0 ∨ (H120.1 1826 30) < (H268.1 1826 30)) := hx268g
          refine h_run 0 (pc' := 120) (l' := [(0, .inr (.inr 1826)), (1, .inl (fz : Int))]) (st' := []) rfl ?_
          refine h_run 2 (pc' := 123) (l' := [(0, .inr (.inr 1826)), (1, .inl (fz : Int))]) (st' := [.inl 58, .inr (.inr 1826)]) rfl ?_
          have g272 : -2147483648 ≤ (H268.1 1826 35) ∧ (H268.1 1826 35) ≤ 2147483647 := hrg269.1 1826 13 35 _ .int rfl rfl
          by_cases b273 : (H268.1 1826 35) = 0
          · have g274 : -2147483648 ≤ (H268.1 1826 30) ∧ (H268.1 1826 30) ≤ 2147483647 := hrg269.1 1826 13 30 _ .int rfl rfl
            have g275 : -2147483648 ≤ (H268.1 1826 29) ∧ (H268.1 1826 29) ≤ 2147483647 := hrg269.1 1826 13 29 _ .int rfl rfl
            have e276 : (H268.1 1826 29) = (H120.1 1826 29) := hx268f.2.2 29 (by decide)
            have g277 : -2147483648 ≤ (H268.1 1826 31) ∧ (H268.1 1826 31) ≤ 2147483647 := hrg269.1 1826 13 31 _ .int rfl rfl
            have g279 : -2147483648 ≤ (H268.1 1826 32) ∧ (H268.1 1826 32) ≤ 2147483647 := hrg269.1 1826 13 32 _ .int rfl rfl
            refine h_cv (i := 313) (j := 166) (b := 1826) (M' := mt_166) (xs := [.inl 58]) (rest := []) rfl rfl rfl rfl rfl rfl (Nat.le_of_ble_eq_true rfl) (Nat.le_of_ble_eq_true rfl) (by omega) (n_want (by omega) (by omega : 0 ≤ (H268.1 1826 30) ∧ (H268.1 1826 30) ≤ (H268.1 1826 29) ∧ (H268.1 1826 29) ≤ 1000) (by omega : 0 ≤ (H268.1 1826 35) ∧ (H268.1 1826 35) ≤ 5) (by omega : 0 ≤ (H268.1 1826 32) ∧ (H268.1 1826 32) ≤ 1000) (by omega) (by omega : (H268.1 1826 35) = 0) (GB_g hx268n (by omega)) hq3 (lk_n (by decide))) ?_
            rintro _ H278 ⟨rfl, hx278n, hx278f, hx278a, hx278b, hx278c, -, hx278e, hx278g⟩
            refine h_rng (fun hrg280 => ?_)
            have hf281 : fr [30, 31, 32, 33, 35, 36, 8] [1832, 1833, 1834, 1835] H H278 := fr_t hf270 hx278f (by decide) (by decide)
            have ha282 : agp H H278 := agp_tr ha271 (agp_fr hx278f (by decide) (by decide))
            replace hx278a : (H268.1 1826 30) ≤ (H278.1 1826 30) := hx278a
            replace hx278b : (H278.1 1826 30) ≤ (H268.1 1826 29) := hx278b
            replace hx278g : (H278.1 1826 35) = 0 → (H268.1 1826 31) = (58 : Int) ∧ ((H278.1 1826 31) = 0 ∨ (H268.1 1826 30) < (H278.1 1826 30)) := hx278g
            refine h_run 0 (pc' := 126) (l' := [(0, .inr (.inr 1826)), (1, .inl (fz : Int))]) (st' := []) rfl ?_
            refine h_run 1 (pc' := 127) (l' := [(0, .inr (.inr 1826)), (1, .inl (fz : Int))]) (st' := [.inr (.inr 1826)]) rfl ?_
            have g283 : -2147483648 ≤ (H278.1 1826 35) ∧ (H278.1 1826 35) ≤ 2147483647 := hrg280.1 1826 13 35 _ .int rfl rfl
            by_cases b284 : (H278.1 1826 35) = 0
            · have g285 : -2147483648 ≤ (H278.1 1826 1) ∧ (H278.1 1826 1) ≤ 2147483647 := hrg280.1 1826 13 1 _ .int rfl rfl
              have e286 : (H278.1 1826 1) = (H268.1 1826 1) := hx278f.2.2 1 (by decide)
              have e287 : (H268.1 1826 1) = (H120.1 1826 1) := hx268f.2.2 1 (by decide)
              have e288 : (H120.1 1826 1) = (H.1 1826 1) := hx120f.2.2 1 (by decide)
              have g289 : -2147483648 ≤ (H278.1 1826 31) ∧ (H278.1 1826 31) ≤ 2147483647 := hrg280.1 1826 13 31 _ .int rfl rfl
              obtain ⟨X4, hq4, hR4, -⟩ := GB_g hx278n (by omega)
              have htk4 := RK_t hR4
              have htf4 := fnd_b (X4 1) (X4 0 3) (tn Y (xi X4))
              refine h_cv (i := 322) (j := 172) (b := 1826) (M' := mt_172) (xs := []) (rest := []) rfl rfl rfl rfl rfl rfl (Nat.le_of_ble_eq_true rfl) (Nat.le_of_ble_eq_true rfl) (by omega) (n_type (by omega) (by omega : (H278.1 1826 35) = 0) (by omega : 0 ≤ (H278.1 1826 1) ∧ (H278.1 1826 1) ≤ 6) (z := tfd Y X4) (fun q9 => RK_tf hR4 (Or.inr q9))) ?_
              rintro _ _ (⟨ht290k, rfl, ht290a, ht290b, ht290c, rfl⟩ | ⟨rfl, ht290a, rfl⟩ | ⟨rfl, ht290a, ht290c, rfl⟩)
              · replace ht290a : (H278.1 1826 31) = 2 := ht290a
                replace ht290b : (ht290k : Int) < (H278.1 1826 1) := ht290b
                refine h_run 0 (pc' := 130) (l' := [(0, .inr (.inr 1826)), (1, .inl (fz : Int))]) (st' := [.inl (ht290k : Int)]) rfl ?_
                refine h_run 2 (pc' := 132) (l' := [(0, .inr (.inr 1826)), (1, .inl (fz : Int)), (2, .inl (ht290k : Int))]) (st' := [.inr (.inr 1826)]) rfl ?_
                refine h_cv (i := 293) (j := 158) (b := 1826) (M' := mt_158) (xs := []) (rest := []) rfl rfl rfl rfl rfl rfl (Nat.le_of_ble_eq_true rfl) (Nat.le_of_ble_eq_true rfl) (by omega) (m_good1 (by omega) (by omega : (H278.1 1826 35) = 0)) ?_
                rintro _ _ ⟨rfl, rfl⟩
                refine h_run 0 (pc' := 135) (l' := [(0, .inr (.inr 1826)), (1, .inl (fz : Int)), (2, .inl (ht290k : Int))]) (st' := [.inl 1]) rfl ?_
                refine h_zeq (off := 7) (t := 142) rfl rfl (by decide) (fun c => absurd c (by decide)) (fun _ => ?_)
                have g291 : -2147483648 ≤ (H278.1 1826 8) ∧ (H278.1 1826 8) ≤ 2147483647 := hrg280.1 1826 13 8 _ .int rfl rfl
                have e292 : (H278.1 1826 8) = (H268.1 1826 8) := hx278f.2.2 8 (by decide)
                have e293 : (H268.1 1826 8) = ((H120.1 1826 8) + 1) := hx268f.2.2 8 (by decide)
                have hx8 : X4 8 fz = 0 := by rw [← (hR4.2.2.2.2.2.2.1.2 fz (by have := hR4.2.2.2.2.2.2.1.1; omega)).2.1, show (H278.1 1833) = up (H120.1 1833) fz 0 from ((hx278f.2.1 1833 (by decide) (by decide)).trans (hx268f.2.1 1833 (by decide) (by decide))), up_eq]
                have hq5 : rch Y c0 ((11, (fz : Int), 0, 0) :: ((1, 59, 0, 0) :: (6, nn + 1, 0, 0) :: K), adv (xu X4 7 fz (tfd Y X4))) := rch_st hq4 (by show (if tk Y (xi X4) ≠ 3 then miss Y X4 else if tfd Y X4 < 0 then fl Y X4 3 else _) = _; (repeat (first | rw [if_pos (by omega)] | rw [if_neg (by omega)])); try rfl)
                refine h_run 1 (pc' := 139) (l' := [(0, .inr (.inr 1826)), (1, .inl (fz : Int)), (2, .inl (ht290k : Int))]) (st' := [.inr (.inr 1826)]) rfl ?_
                have g294 : -2147483648 ≤ (H278.1 1826 30) ∧ (H278.1 1826 30) ≤ 2147483647 := hrg280.1 1826 13 30 _ .int rfl rfl
                have g295 : -2147483648 ≤ (H278.1 1826 29) ∧ (H278.1 1826 29) ≤ 2147483647 := hrg280.1 1826 13 29 _ .int rfl rfl
                have e296 : (H278.1 1826 29) = (H268.1 1826 29) := hx278f.2.2 29 (by decide)
                have g297 : -2147483648 ≤ (H278.1 1826 32) ∧ (H278.1 1826 32) ≤ 2147483647 := hrg280.1 1826 13 32 _ .int rfl rfl
                refine h_cv (i := 297) (j := 165) (b := 1826) (M' := mt_165) (xs := []) (rest := []) rfl rfl rfl rfl rfl rfl (Nat.le_of_ble_eq_true rfl) (Nat.le_of_ble_eq_true rfl) (by omega) (n_nx (by omega) (by omega : 0 ≤ (H278.1 1826 30) ∧ (H278.1 1826 30) ≤ (H278.1 1826 29) ∧ (H278.1 1826 29) ≤ 1000) (by omega : 0 ≤ (H278.1 1826 35) ∧ (H278.1 1826 35) ≤ 5) (by omega : 0 ≤ (H278.1 1826 32) ∧ (H278.1 1826 32) ≤ 1000) (by omega : (H278.1 1826 35) = 0) (X := (adv (xu X4 7 fz (tfd Y X4)))) (RN_mk hR4 (fr_rf [] [] _) (by decide) (by decide) adv7_0 (TA_7 hR4.2.2.2.2 (by omega))) hq5 (lk_c (lk_1 (by decide)) (by decide : (11 : Nat) ≠ 0) (fun q => absurd q (by decide : (11 : Nat) ≠ 1)))) ?_
                rintro _ H298 ⟨rfl, hx298n, hx298f, hx298a, hx298b, hx298c, -, hx298e, hx298g⟩
                refine h_rng (fun hrg299 => ?_)
                have hf300 : fr [30, 31, 32, 33, 35, 36, 8] [1832, 1833, 1834, 1835] H H298 := fr_t hf281 hx298f (by decide) (by decide)
                have ha301 : agp H H298 := agp_tr ha282 (agp_fr hx298f (by decide) (by decide))
                replace hx298a : (H278.1 1826 30) ≤ (H298.1 1826 30) := hx298a
                replace hx298b : (H298.1 1826 30) ≤ (H278.1 1826 29) := hx298b
                replace hx298g : (H298.1 1826 35) = 0 → ((H298.1 1826 31) = 0 ∨ (H278.1 1826 30) < (H298.1 1826 30)) := hx298g
                refine h_run 0 (pc' := 142) (l' := [(0, .inr (.inr 1826)), (1, .inl (fz : Int)), (2, .inl (ht290k : Int))]) (st' := []) rfl ?_
                have g302 : -2147483648 ≤ (H298.1 1826 30) ∧ (H298.1 1826 30) ≤ 2147483647 := hrg299.1 1826 13 30 _ .int rfl rfl
                have g303 : -2147483648 ≤ (H298.1 1826 35) ∧ (H298.1 1826 35) ≤ 2147483647 := hrg299.1 1826 13 35 _ .int rfl rfl
                have g304 : -2147483648 ≤ (H298.1 1826 32) ∧ (H298.1 1826 32) ≤ 2147483647 := hrg299.1 1826 13 32 _ .int rfl rfl
                have g305 : -2147483648 ≤ (H298.1 1826 31) ∧ (H298.1 1826 31) ≤ 2147483647 := hrg299.1 1826 13 31 _ .int rfl rfl
                have g306 : -2147483648 ≤ (H298.1 1826 3) ∧ (H298.1 1826 3) ≤ 2147483647 := hrg299.1 1826 13 3 _ .int rfl rfl
                have e307 : (H298.1 1826 3) = (H278.1 1826 3) := hx298f.2.2 3 (by decide)
                have e308 : (H278.1 1826 3) = (H268.1 1826 3) := hx278f.2.2 3 (by decide)
                have e309 : (H268.1 1826 3) = (H120.1 1826 3) := hx268f.2.2 3 (by decide)
                have e310 : (H120.1 1826 3) = (H.1 1826 3) := hx120f.2.2 3 (by decide)
                have g311 : -2147483648 ≤ (H298.1 1826 29) ∧ (H298.1 1826 29) ≤ 2147483647 := hrg299.1 1826 13 29 _ .int rfl rfl
                have e312 : (H298.1 1826 29) = (H278.1 1826 29) := hx298f.2.2 29 (by decide)
                have g313 : -2147483648 ≤ (H298.1 1826 1) ∧ (H298.1 1826 1) ≤ 2147483647 := hrg299.1 1826 13 1 _ .int rfl rfl
                have e314 : (H298.1 1826 1) = (H278.1 1826 1) := hx298f.2.2 1 (by decide)
                have g315 : -2147483648 ≤ (H298.1 1826 8) ∧ (H298.1 1826 8) ≤ 2147483647 := hrg299.1 1826 13 8 _ .int rfl rfl
                have e316 : (H298.1 1826 8) = (H278.1 1826 8) := hx298f.2.2 8 (by decide)
                exact (n_function_cut hd h0 hw hst hP hw0 hR hmf hq htk _) _ fz (ht290k : Int) hf300 (by omega : (H.1 1826 30) ≤ (H298.1 1826 30) ∧ (H298.1 1826 30) ≤ (H.1 1826 29)) (by omega : 0 ≤ (H298.1 1826 35) ∧ (H298.1 1826 35) ≤ 5) (by omega : 0 ≤ (H298.1 1826 32) ∧ (H298.1 1826 32) ≤ 1000) ha301 (by omega : (fz : Int) = (H.1 1826 8) ∧ (H.1 1826 8) ≤ 15) (by omega : (H298.1 1826 8) = (H.1 1826 8) + 1) (by omega : -1 ≤ (ht290k : Int) ∧ (ht290k : Int) ≤ 6) (by omega : (H298.1 1826 35) = 0 → 0 ≤ (ht290k : Int) ∧ (ht290k : Int) < (H298.1 1826 1)) (fun _ => by rw [show (H298.1 1833) = up (H120.1 1833) fz 0 from (((hx298f.2.1 1833 (by decide) (by decide)).trans (hx278f.2.1 1833 (by decide) (by decide))).trans (hx268f.2.1 1833 (by decide) (by decide))), up_eq]; exact ⟨by omega, fun i hi => absurd hi (by omega)⟩) (GB_i hx298n (fun q => ⟨_, (fl_q hq5 hx8).1, q, (fl_q hq5 hx8).2.trans (by omega)⟩)) (Nat.lt_succ_self _)
              · replace ht290a : (H278.1 1826 31) ≠ 2 := ht290a
                refine h_run 0 (pc' := 130) (l' := [(0, .inr (.inr 1826)), (1, .inl (fz : Int))]) (st' := [.inl (-1)]) rfl ?_
                refine h_run 2 (pc' := 132) (l' := [(0, .inr (.inr 1826)), (1, .inl (fz : Int)), (2, .inl (-1))]) (st' := [.inr (.inr 1826)]) rfl ?_
                refine h_cv (i := 293) (j := 158) (b := 1826) (M' := mt_158) (xs := []) (rest := []) rfl rfl rfl rfl rfl rfl (Nat.le_of_ble_eq_true rfl) (Nat.le_of_ble_eq_true rfl) (by omega) (m_good0 (by omega) (by omega : (2 : Int) ≠ 0)) ?_
                rintro _ _ ⟨rfl, rfl⟩
                refine h_run 0 (pc' := 135) (l' := [(0, .inr (.inr 1826)), (1, .inl (fz : Int)), (2, .inl (-1))]) (st' := [.inl 0]) rfl ?_
                refine h_zeq (off := 7) (t := 142) rfl rfl (by decide) (fun _ => ?_) (fun c => absurd c (by decide))
                have g317 : -2147483648 ≤ (H278.1 1826 30) ∧ (H278.1 1826 30) ≤ 2147483647 := hrg280.1 1826 13 30 _ .int rfl rfl
                have g318 : -2147483648 ≤ (H278.1 1826 32) ∧ (H278.1 1826 32) ≤ 2147483647 := hrg280.1 1826 13 32 _ .int rfl rfl
                have g319 : -2147483648 ≤ (H278.1 1826 3) ∧ (H278.1 1826 3) ≤ 2147483647 := hrg280.1 1826 13 3 _ .int rfl rfl
                have e320 : (H278.1 1826 3) = (H268.1 1826 3) := hx278f.2.2 3 (by decide)
                have e321 : (H268.1 1826 3) = (H120.1 1826 3) := hx268f.2.2 3 (by decide)
                have e322 : (H120.1 1826 3) = (H.1 1826 3) := hx120f.2.2 3 (by decide)
                have g323 : -2147483648 ≤ (H278.1 1826 29) ∧ (H278.1 1826 29) ≤ 2147483647 := hrg280.1 1826 13 29 _ .int rfl rfl
                have e324 : (H278.1 1826 29) = (H268.1 1826 29) := hx278f.2.2 29 (by decide)
                have g325 : -2147483648 ≤ (H278.1 1826 8) ∧ (H278.1 1826 8) ≤ 2147483647 := hrg280.1 1826 13 8 _ .int rfl rfl
                have e326 : (H278.1 1826 8) = (H268.1 1826 8) := hx278f.2.2 8 (by decide)
                have e327 : (H268.1 1826 8) = ((H120.1 1826 8) + 1) := hx268f.2.2 8 (by decide)
                exact (n_function_cut hd h0 hw hst hP hw0 hR hmf hq htk _) _ fz (-1 : Int) (fr_o (fr_o hf281 (by decide)) (by decide)) (by omega : (H.1 1826 30) ≤ (H278.1 1826 30) ∧ (H278.1 1826 30) ≤ (H.1 1826 29)) (by omega : 0 ≤ (2 : Int) ∧ (2 : Int) ≤ 5) (by omega : 0 ≤ (H278.1 1826 32) ∧ (H278.1 1826 32) ≤ 1000) (agp_o (agp_o ha282 (by decide)) (by decide)) (by omega : (fz : Int) = (H.1 1826 8) ∧ (H.1 1826 8) ≤ 15) (by omega : (H278.1 1826 8) = (H.1 1826 8) + 1) (by omega : -1 ≤ (-1 : Int) ∧ (-1 : Int) ≤ 6) (by omega : (2 : Int) = 0 → 0 ≤ (-1 : Int) ∧ (-1 : Int) < (H278.1 1826 1)) (fun (q : (2 : Int) = 0) => absurd q (by omega)) (Or.inr ⟨(by omega : (2 : Int) ≠ 0), (BD_mk hR4 (fr_o (fr_o (fr_rf [35, 36] [] H278) (by decide)) (by decide)) (by decide) (by decide) (by decide : (2 : Int) ≠ 0) rfl rfl (rch_st hq4 (by show (if tk Y (xi X4) ≠ 3 then miss Y X4 else if tfd Y X4 < 0 then fl Y X4 3 else _) = _; unfold miss; (repeat (first | rw [if_pos (by omega)] | rw [if_neg (by omega)])); try rfl)))⟩) (Nat.lt_succ_self _)
              · replace ht290a : (H278.1 1826 31) = 2 := ht290a
                refine h_run 0 (pc' := 130) (l' := [(0, .inr (.inr 1826)), (1, .inl (fz : Int))]) (st' := [.inl (-1)]) rfl ?_
                refine h_run 2 (pc' := 132) (l' := [(0, .inr (.inr 1826)), (1, .inl (fz : Int)), (2, .inl (-1))]) (st' := [.inr (.inr 1826)]) rfl ?_
                refine h_cv (i := 293) (j := 158) (b := 1826) (M' := mt_158) (xs := []) (rest := []) rfl rfl rfl rfl rfl rfl (Nat.le_of_ble_eq_true rfl) (Nat.le_of_ble_eq_true rfl) (by omega) (m_good0 (by omega) (by omega : (3 : Int) ≠ 0)) ?_
                rintro _ _ ⟨rfl, rfl⟩
                refine h_run 0 (pc' := 135) (l' := [(0, .inr (.inr 1826)), (1, .inl (fz : Int)), (2, .inl (-1))]) (st' := [.inl 0]) rfl ?_
                refine h_zeq (off := 7) (t := 142) rfl rfl (by decide) (fun _ => ?_) (fun c => absurd c (by decide))
                have g328 : -2147483648 ≤ (H278.1 1826 30) ∧ (H278.1 1826 30) ≤ 2147483647 := hrg280.1 1826 13 30 _ .int rfl rfl
                have g329 : -2147483648 ≤ (H278.1 1826 32) ∧ (H278.1 1826 32) ≤ 2147483647 := hrg280.1 1826 13 32 _ .int rfl rfl
                have g330 : -2147483648 ≤ (H278.1 1826 3) ∧ (H278.1 1826 3) ≤ 2147483647 := hrg280.1 1826 13 3 _ .int rfl rfl
                have e331 : (H278.1 1826 3) = (H268.1 1826 3) := hx278f.2.2 3 (by decide)
                have e332 : (H268.1 1826 3) = (H120.1 1826 3) := hx268f.2.2 3 (by decide)
                have e333 : (H120.1 1826 3) = (H.1 1826 3) := hx120f.2.2 3 (by decide)
                have g334 : -2147483648 ≤ (H278.1 1826 29) ∧ (H278.1 1826 29) ≤ 2147483647 := hrg280.1 1826 13 29 _ .int rfl rfl
                have e335 : (H278.1 1826 29) = (H268.1 1826 29) := hx278f.2.2 29 (by decide)
                have g336 : -2147483648 ≤ (H278.1 1826 8) ∧ (H278.1 1826 8) ≤ 2147483647 := hrg280.1 1826 13 8 _ .int rfl rfl
                have e337 : (H278.1 1826 8) = (H268.1 1826 8) := hx278f.2.2 8 (by decide)
                have e338 : (H268.1 1826 8) = ((H120.1 1826 8) + 1) := hx268f.2.2 8 (by decide)
                exact (n_function_cut hd h0 hw hst hP hw0 hR hmf hq htk _) _ fz (-1 : Int) (fr_o (fr_o hf281 (by decide)) (by decide)) (by omega : (H.1 1826 30) ≤ (H278.1 1826 30) ∧ (H278.1 1826 30) ≤ (H.1 1826 29)) (by omega : 0 ≤ (3 : Int) ∧ (3 : Int) ≤ 5) (by omega : 0 ≤ (H278.1 1826 32) ∧ (H278.1 1826 32) ≤ 1000) (agp_o (agp_o ha282 (by decide)) (by decide)) (by omega : (fz : Int) = (H.1 1826 8) ∧ (H.1 1826 8) ≤ 15) (by omega : (H278.1 1826 8) = (H.1 1826 8) + 1) (by omega : -1 ≤ (-1 : Int) ∧ (-1 : Int) ≤ 6) (by omega : (3 : Int) = 0 → 0 ≤ (-1 : Int) ∧ (-1 : Int) < (H278.1 1826 1)) (fun (q : (3 : Int) = 0) => absurd q (by omega)) (Or.inr ⟨(by omega : (3 : Int) ≠ 0), (BD_mk hR4 (fr_o (fr_o (fr_rf [35, 36] [] H278) (by decide)) (by decide)) (by decide) (by decide) (by decide : (3 : Int) ≠ 0) rfl rfl (rch_st hq4 (by show (if tk Y (xi X4) ≠ 3 then miss Y X4 else if tfd Y X4 < 0 then fl Y X4 3 else _) = _; unfold miss; (repeat (first | rw [if_pos (by omega)] | rw [if_neg (by omega)])); try rfl)))⟩) (Nat.lt_succ_self _)
            · refine h_cv (i := 322) (j := 172) (b := 1826) (M' := mt_172) (xs := []) (rest := []) rfl rfl rfl rfl rfl rfl (Nat.le_of_ble_eq_true rfl) (Nat.le_of_ble_eq_true rfl) (by omega) (n_type0 (by omega) (by omega : (H278.1 1826 35) ≠ 0)) ?_
              rintro _ _ ⟨rfl, rfl⟩
              refine h_run 0 (pc' := 130) (l' := [(0, .inr (.inr 1826)), (1, .inl (fz : Int))]) (st' := [.inl (-1)]) rfl ?_
              refine h_run 2 (pc' := 132) (l' := [(0, .inr (.inr 1826)), (1, .inl (fz : Int)), (2, .inl (-1))]) (st' := [.inr (.inr 1826)]) rfl ?_
              refine h_cv (i := 293) (j := 158) (b := 1826) (M' := mt_158) (xs := []) (rest := []) rfl rfl rfl rfl rfl rfl (Nat.le_of_ble_eq_true rfl) (Nat.le_of_ble_eq_true rfl) (by omega) (m_good0 (by omega) (by omega : (H278.1 1826 35) ≠ 0)) ?_
              rintro _ _ ⟨rfl, rfl⟩
              refine h_run 0 (pc' := 135) (l' := [(0, .inr (.inr 1826)), (1, .inl (fz : Int)), (2, .inl (-1))]) (st' := [.inl 0]) rfl ?_
              refine h_zeq (off := 7) (t := 142) rfl rfl (by decide) (fun _ => ?_) (fun c => absurd c (by decide))
              have g339 : -2147483648 ≤ (H278.1 1826 30) ∧ (H278.1 1826 30) ≤ 2147483647 := hrg280.1 1826 13 30 _ .int rfl rfl
              have g340 : -2147483648 ≤ (H278.1 1826 32) ∧ (H278.1 1826 32) ≤ 2147483647 := hrg280.1 1826 13 32 _ .int rfl rfl
              have g341 : -2147483648 ≤ (H278.1 1826 31) ∧ (H278.1 1826 31) ≤ 2147483647 := hrg280.1 1826 13 31 _ .int rfl rfl
              have g342 : -2147483648 ≤ (H278.1 1826 3) ∧ (H278.1 1826 3) ≤ 2147483647 := hrg280.1 1826 13 3 _ .int rfl rfl
              have e343 : (H278.1 1826 3) = (H268.1 1826 3) := hx278f.2.2 3 (by decide)
              have e344 : (H268.1 1826 3) = (H120.1 1826 3) := hx268f.2.2 3 (by decide)
              have e345 : (H120.1 1826 3) = (H.1 1826 3) := hx120f.2.2 3 (by decide)
              have g346 : -2147483648 ≤ (H278.1 1826 29) ∧ (H278.1 1826 29) ≤ 2147483647 := hrg280.1 1826 13 29 _ .int rfl rfl
              have e347 : (H278.1 1826 29) = (H268.1 1826 29) := hx278f.2.2 29 (by decide)
              have g348 : -2147483648 ≤ (H278.1 1826 1) ∧ (H278.1 1826 1) ≤ 2147483647 := hrg280.1 1826 13 1 _ .int rfl rfl
              have e349 : (H278.1 1826 1) = (H268.1 1826 1) := hx278f.2.2 1 (by decide)
              have e350 : (H268.1 1826 1) = (H120.1 1826 1) := hx268f.2.2 1 (by decide)
              have e351 : (H120.1 1826 1) = (H.1 1826 1) := hx120f.2.2 1 (by decide)
              have g352 : -2147483648 ≤ (H278.1 1826 8) ∧ (H278.1 1826 8) ≤ 2147483647 := hrg280.1 1826 13 8 _ .int rfl rfl
              have e353 : (H278.1 1826 8) = (H268.1 1826 8) := hx278f.2.2 8 (by decide)
              have e354 : (H268.1 1826 8) = ((H120.1 1826 8) + 1) := hx268f.2.2 8 (by decide)
              exact (n_function_cut hd h0 hw hst hP hw0 hR hmf hq htk _) _ fz (-1 : Int) hf281 (by omega : (H.1 1826 30) ≤ (H278.1 1826 30) ∧ (H278.1 1826 30) ≤ (H.1 1826 29)) (by omega : 0 ≤ (H278.1 1826 35) ∧ (H278.1 1826 35) ≤ 5) (by omega : 0 ≤ (H278.1 1826 32) ∧ (H278.1 1826 32) ≤ 1000) ha282 (by omega : (fz : Int) = (H.1 1826 8) ∧ (H.1 1826 8) ≤ 15) (by omega : (H278.1 1826 8) = (H.1 1826 8) + 1) (by omega : -1 ≤ (-1 : Int) ∧ (-1 : Int) ≤ 6) (by omega : (H278.1 1826 35) = 0 → 0 ≤ (-1 : Int) ∧ (-1 : Int) < (H278.1 1826 1)) (fun (q : (H278.1 1826 35) = 0) => absurd q (by omega)) (Or.inr ⟨(by omega : (H278.1 1826 35) ≠ 0), GB_b hx278n (by omega)⟩) (Nat.lt_succ_self _)
          · refine h_cv (i := 313) (j := 166) (b := 1826) (M' := mt_166) (xs := [.inl 58]) (rest := []) rfl rfl rfl rfl rfl rfl (Nat.le_of_ble_eq_true rfl) (Nat.le_of_ble_eq_true rfl) (by omega) (n_want0 (by omega) (by omega : (H268.1 1826 35) ≠ 0)) ?_
            rintro _ _ ⟨rfl, rfl⟩
            refine h_run 0 (pc' := 126) (l' := [(0, .inr (.inr 1826)), (1, .inl (fz : Int))]) (st' := []) rfl ?_
            refine h_run 1 (pc' := 127) (l' := [(0, .inr (.inr 1826)), (1, .inl (fz : Int))]) (st' := [.inr (.inr 1826)]) rfl ?_
            refine h_cv (i := 322) (j := 172) (b := 1826) (M' := mt_172) (xs := []) (rest := []) rfl rfl rfl rfl rfl rfl (Nat.le_of_ble_eq_true rfl) (Nat.le_of_ble_eq_true rfl) (by omega) (n_type0 (by omega) (by omega : (H268.1 1826 35) ≠ 0)) ?_
            rintro _ _ ⟨rfl, rfl⟩
            refine h_run 0 (pc' := 130) (l' := [(0, .inr (.inr 1826)), (1, .inl (fz : Int))]) (st' := [.inl (-1)]) rfl ?_
            refine h_run 2 (pc' := 132) (l' := [(0, .inr (.inr 1826)), (1, .inl (fz : Int)), (2, .inl (-1))]) (st' := [.inr (.inr 1826)]) rfl ?_
            refine h_cv (i := 293) (j := 158) (b := 1826) (M' := mt_158) (xs := []) (rest := []) rfl rfl rfl rfl rfl rfl (Nat.le_of_ble_eq_true rfl) (Nat.le_of_ble_eq_true rfl) (by omega) (m_good0 (by omega) (by omega : (H268.1 1826 35) ≠ 0)) ?_
            rintro _ _ ⟨rfl, rfl⟩
            refine h_run 0 (pc' := 135) (l' := [(0, .inr (.inr 1826)), (1, .inl (fz : Int)), (2, .inl (-1))]) (st' := [.inl 0]) rfl ?_
            refine h_zeq (off := 7) (t := 142) rfl rfl (by decide) (fun _ => ?_) (fun c => absurd c (by decide))
            have g355 : -2147483648 ≤ (H268.1 1826 30) ∧ (H268.1 1826 30) ≤ 2147483647 := hrg269.1 1826 13 30 _ .int rfl rfl
            have g356 : -2147483648 ≤ (H268.1 1826 32) ∧ (H268.1 1826 32) ≤ 2147483647 := hrg269.1 1826 13 32 _ .int rfl rfl
            have g357 : -2147483648 ≤ (H268.1 1826 31) ∧ (H268.1 1826 31) ≤ 2147483647 := hrg269.1 1826 13 31 _ .int rfl rfl
            have g358 : -2147483648 ≤ (H268.1 1826 3) ∧ (H268.1 1826 3) ≤ 2147483647 := hrg269.1 1826 13 3 _ .int rfl rfl
            have e359 : (H268.1 1826 3) = (H120.1 1826 3) := hx268f.2.2 3 (by decide)
            have e360 : (H120.1 1826 3) = (H.1 1826 3) := hx120f.2.2 3 (by decide)
            have g361 : -2147483648 ≤ (H268.1 1826 29) ∧ (H268.1 1826 29) ≤ 2147483647 := hrg269.1 1826 13 29 _ .int rfl rfl
            have e362 : (H268.1 1826 29) = (H120.1 1826 29) := hx268f.2.2 29 (by decide)
            have g363 : -2147483648 ≤ (H268.1 1826 1) ∧ (H268.1 1826 1) ≤ 2147483647 := hrg269.1 1826 13 1 _ .int rfl rfl
            have e364 : (H268.1 1826 1) = (H120.1 1826 1) := hx268f.2.2 1 (by decide)
            have e365 : (H120.1 1826 1) = (H.1 1826 1) := hx120f.2.2 1 (by decide)
            have g366 : -2147483648 ≤ (H268.1 1826 8) ∧ (H268.1 1826 8) ≤ 2147483647 := hrg269.1 1826 13 8 _ .int rfl rfl
            have e367 : (H268.1 1826 8) = ((H120.1 1826 8) + 1) := hx268f.2.2 8 (by decide)
            exact (n_function_cut hd h0 hw hst hP hw0 hR hmf hq htk _) _ fz (-1 : Int) hf270 (by omega : (H.1 1826 30) ≤ (H268.1 1826 30) ∧ (H268.1 1826 30) ≤ (H.1 1826 29)) (by omega : 0 ≤ (H268.1 1826 35) ∧ (H268.1 1826 35) ≤ 5) (by omega : 0 ≤ (H268.1 1826 32) ∧ (H268.1 1826 32) ≤ 1000) ha271 (by omega : (fz : Int) = (H.1 1826 8) ∧ (H.1 1826 8) ≤ 15) (by omega : (H268.1 1826 8) = (H.1 1826 8) + 1) (by omega : -1 ≤ (-1 : Int) ∧ (-1 : Int) ≤ 6) (by omega : (H268.1 1826 35) = 0 → 0 ≤ (-1 : Int) ∧ (-1 : Int) < (H268.1 1826 1)) (fun (q : (H268.1 1826 35) = 0) => absurd q (by omega)) (Or.inr ⟨(by omega : (H268.1 1826 35) ≠ 0), GB_b hx268n (by omega)⟩) (Nat.lt_succ_self _)
        · refine h_run 2 (pc' := 73) (l' := [(0, .inr (.inr 1826))]) (st' := [.inl 5, .inr (.inr 1826)]) rfl ?_
          refine h_cv (i := 278) (j := 159) (b := 1826) (M' := mt_159) (xs := [.inl 5]) (rest := []) rfl rfl rfl rfl rfl rfl (Nat.le_of_ble_eq_true rfl) (Nat.le_of_ble_eq_true rfl) (by omega) (m_bad0 (by omega) (by omega) (by omega : (H120.1 1826 35) = 0)) ?_
          rintro _ _ ⟨rfl, rfl⟩
          refine h_run 0 (pc' := 76) (l' := [(0, .inr (.inr 1826))]) (st' := []) rfl ?_
          refine h_run 1 (pc' := 77) (l' := [(0, .inr (.inr 1826))]) (st' := [.inr (.inr 1826)]) rfl ?_
          refine h_cv (i := 293) (j := 158) (b := 1826) (M' := mt_158) (xs := []) (rest := []) rfl rfl rfl rfl rfl rfl (Nat.le_of_ble_eq_true rfl) (Nat.le_of_ble_eq_true rfl) (by omega) (m_good0 (by omega) (by omega : (5 : Int) ≠ 0)) ?_
          rintro _ _ ⟨rfl, rfl⟩
          refine h_run 0 (pc' := 80) (l' := [(0, .inr (.inr 1826))]) (st' := [.inl 0]) rfl ?_
          refine h_zne (off := 4) (t := 84) rfl rfl (by decide) (fun c => absurd c (by decide)) (fun _ => ?_)
          refine h_ret rfl rfl ?_
          have g368 : -2147483648 ≤ (H120.1 1826 30) ∧ (H120.1 1826 30) ≤ 2147483647 := hrg121.1 1826 13 30 _ .int rfl rfl
          have g369 : -2147483648 ≤ (H120.1 1826 32) ∧ (H120.1 1826 32) ≤ 2147483647 := hrg121.1 1826 13 32 _ .int rfl rfl
          have g370 : -2147483648 ≤ (H120.1 1826 29) ∧ (H120.1 1826 29) ≤ 2147483647 := hrg121.1 1826 13 29 _ .int rfl rfl
          have e371 : (H120.1 1826 29) = (H.1 1826 29) := hx120f.2.2 29 (by decide)
          have g372 : -2147483648 ≤ (H120.1 1826 1) ∧ (H120.1 1826 1) ≤ 2147483647 := hrg121.1 1826 13 1 _ .int rfl rfl
          have e373 : (H120.1 1826 1) = (H.1 1826 1) := hx120f.2.2 1 (by decide)
          have g374 : -2147483648 ≤ (H120.1 1826 3) ∧ (H120.1 1826 3) ≤ 2147483647 := hrg121.1 1826 13 3 _ .int rfl rfl
          have e375 : (H120.1 1826 3) = (H.1 1826 3) := hx120f.2.2 3 (by decide)
          have g376 : -2147483648 ≤ (H120.1 1826 13) ∧ (H120.1 1826 13) ≤ 2147483647 := hrg121.1 1826 13 13 _ .int rfl rfl
          have e377 : (H120.1 1826 13) = (H.1 1826 13) := hx120f.2.2 13 (by decide)
          have g378 : -2147483648 ≤ (H120.1 1826 19) ∧ (H120.1 1826 19) ≤ 2147483647 := hrg121.1 1826 13 19 _ .int rfl rfl
          have e379 : (H120.1 1826 19) = (H.1 1826 19) := hx120f.2.2 19 (by decide)
          exact ⟨rfl, (Or.inr ⟨(by omega : (5 : Int) ≠ 0), (BD_mk hR1 (fr_o (fr_o (fr_rf [35, 36] [] H120) (by decide)) (by decide)) (by decide) (by decide) (by decide : (5 : Int) ≠ 0) rfl rfl (rch_st hq (by show stDec Y nn K X = _; unfold stDec miss; (repeat (first | rw [if_pos (by omega)] | rw [if_neg (by omega)])); try rfl)))⟩), (fr_o (fr_o hf122 (by decide)) (by decide)), (by omega : (H.1 1826 30) ≤ (H120.1 1826 30) ∧ (H120.1 1826 30) ≤ (H.1 1826 29)), (by omega : 0 ≤ (5 : Int) ∧ (5 : Int) ≤ 5), (by omega : (H.1 1826 35) ≠ 0 → (5 : Int) ≠ 0), (by omega : 0 ≤ (H120.1 1826 32) ∧ (H120.1 1826 32) ≤ 1000), (agp_o (agp_o ha123 (by decide)) (by decide)), (fun (q : (5 : Int) = 0) => absurd q (by omega))⟩
    · refine h_run 2 (pc' := 21) (l' := [(0, .inr (.inr 1826))]) (st' := [.inl 2, .inr (.inr 1826)]) rfl ?_
      refine h_cv (i := 278) (j := 159) (b := 1826) (M' := mt_159) (xs := [.inl 2]) (rest := []) rfl rfl rfl rfl rfl rfl (Nat.le_of_ble_eq_true rfl) (Nat.le_of_ble_eq_true rfl) (by omega) (m_bad0 (by omega) (by omega) (by omega : (H120.1 1826 35) = 0)) ?_
      rintro _ _ ⟨rfl, rfl⟩
      refine h_run 0 (pc' := 24) (l' := [(0, .inr (.inr 1826))]) (st' := []) rfl ?_
      refine h_run 1 (pc' := 25) (l' := [(0, .inr (.inr 1826))]) (st' := [.inr (.inr 1826)]) rfl ?_
      refine h_cv (i := 293) (j := 158) (b := 1826) (M' := mt_158) (xs := []) (rest := []) rfl rfl rfl rfl rfl rfl (Nat.le_of_ble_eq_true rfl) (Nat.le_of_ble_eq_true rfl) (by omega) (m_good0 (by omega) (by omega : (2 : Int) ≠ 0)) ?_
      rintro _ _ ⟨rfl, rfl⟩
      refine h_run 0 (pc' := 28) (l' := [(0, .inr (.inr 1826))]) (st' := [.inl 0]) rfl ?_
      refine h_zeq (off := 27) (t := 55) rfl rfl (by decide) (fun _ => ?_) (fun c => absurd c (by decide))
      refine h_run 1 (pc' := 56) (l' := [(0, .inr (.inr 1826))]) (st' := [.inr (.inr 1826)]) rfl ?_
      refine h_cv (i := 293) (j := 158) (b := 1826) (M' := mt_158) (xs := []) (rest := []) rfl rfl rfl rfl rfl rfl (Nat.le_of_ble_eq_true rfl) (Nat.le_of_ble_eq_true rfl) (by omega) (m_good0 (by omega) (by omega : (2 : Int) ≠ 0)) ?_
      rintro _ _ ⟨rfl, rfl⟩
      refine h_run 0 (pc' := 59) (l' := [(0, .inr (.inr 1826))]) (st' := [.inl 0]) rfl ?_
      refine h_zeq (off := 17) (t := 76) rfl rfl (by decide) (fun _ => ?_) (fun c => absurd c (by decide))
      refine h_run 1 (pc' := 77) (l' := [(0, .inr (.inr 1826))]) (st' := [.inr (.inr 1826)]) rfl ?_
      refine h_cv (i := 293) (j := 158) (b := 1826) (M' := mt_158) (xs := []) (rest := []) rfl rfl rfl rfl rfl rfl (Nat.le_of_ble_eq_true rfl) (Nat.le_of_ble_eq_true rfl) (by omega) (m_good0 (by omega) (by omega : (2 : Int) ≠ 0)) ?_
      rintro _ _ ⟨rfl, rfl⟩
      refine h_run 0 (pc' := 80) (l' := [(0, .inr (.inr 1826))]) (st' := [.inl 0]) rfl ?_
      refine h_zne (off := 4) (t := 84) rfl rfl (by decide) (fun c => absurd c (by decide)) (fun _ => ?_)
      refine h_ret rfl rfl ?_
      have g380 : -2147483648 ≤ (H120.1 1826 30) ∧ (H120.1 1826 30) ≤ 2147483647 := hrg121.1 1826 13 30 _ .int rfl rfl
      have g381 : -2147483648 ≤ (H120.1 1826 32) ∧ (H120.1 1826 32) ≤ 2147483647 := hrg121.1 1826 13 32 _ .int rfl rfl
      have g382 : -2147483648 ≤ (H120.1 1826 29) ∧ (H120.1 1826 29) ≤ 2147483647 := hrg121.1 1826 13 29 _ .int rfl rfl
      have e383 : (H120.1 1826 29) = (H.1 1826 29) := hx120f.2.2 29 (by decide)
      have g384 : -2147483648 ≤ (H120.1 1826 1) ∧ (H120.1 1826 1) ≤ 2147483647 := hrg121.1 1826 13 1 _ .int rfl rfl
      have e385 : (H120.1 1826 1) = (H.1 1826 1) := hx120f.2.2 1 (by decide)
      have g386 : -2147483648 ≤ (H120.1 1826 3) ∧ (H120.1 1826 3) ≤ 2147483647 := hrg121.1 1826 13 3 _ .int rfl rfl
      have e387 : (H120.1 1826 3) = (H.1 1826 3) := hx120f.2.2 3 (by decide)
      have g388 : -2147483648 ≤ (H120.1 1826 8) ∧ (H120.1 1826 8) ≤ 2147483647 := hrg121.1 1826 13 8 _ .int rfl rfl
      have e389 : (H120.1 1826 8) = (H.1 1826 8) := hx120f.2.2 8 (by decide)
      have g390 : -2147483648 ≤ (H120.1 1826 13) ∧ (H120.1 1826 13) ≤ 2147483647 := hrg121.1 1826 13 13 _ .int rfl rfl
      have e391 : (H120.1 1826 13) = (H.1 1826 13) := hx120f.2.2 13 (by decide)
      have g392 : -2147483648 ≤ (H120.1 1826 19) ∧ (H120.1 1826 19) ≤ 2147483647 := hrg121.1 1826 13 19 _ .int rfl rfl
      have e393 : (H120.1 1826 19) = (H.1 1826 19) := hx120f.2.2 19 (by decide)
      exact ⟨rfl, (Or.inr ⟨(by omega : (2 : Int) ≠ 0), (BD_mk hR1 (fr_o (fr_o (fr_rf [35, 36] [] H120) (by decide)) (by decide)) (by decide) (by decide) (by decide : (2 : Int) ≠ 0) rfl rfl (rch_st hq (by show stDec Y nn K X = _; unfold stDec miss; (repeat (first | rw [if_pos (by omega)] | rw [if_neg (by omega)])); try rfl)))⟩), (fr_o (fr_o hf122 (by decide)) (by decide)), (by omega : (H.1 1826 30) ≤ (H120.1 1826 30) ∧ (H120.1 1826 30) ≤ (H.1 1826 29)), (by omega : 0 ≤ (2 : Int) ∧ (2 : Int) ≤ 5), (by omega : (H.1 1826 35) ≠ 0 → (2 : Int) ≠ 0), (by omega : 0 ≤ (H120.1 1826 32) ∧ (H120.1 1826 32) ≤ 1000), (agp_o (agp_o ha123 (by decide)) (by decide)), (fun (q : (2 : Int) = 0) => absurd q (by omega))⟩
  · have b125x : (H120.1 1826 35) ≠ 0 := b125
    clear hx120g
    refine h_run 0 (pc' := 8) (l' := [(0, .inr (.inr 1826))]) (st' := [.inl 0]) rfl ?_
    refine h_zeq (off := 16) (t := 24) rfl rfl (by decide) (fun _ => ?_) (fun c => absurd c (by decide))
    refine h_run 1 (pc' := 25) (l' := [(0, .inr (.inr 1826))]) (st' := [.inr (.inr 1826)]) rfl ?_
    refine h_cv (i := 293) (j := 158) (b := 1826) (M' := mt_158) (xs := []) (rest := []) rfl rfl rfl rfl rfl rfl (Nat.le_of_ble_eq_true rfl) (Nat.le_of_ble_eq_true rfl) (by omega) (m_good0 (by omega) (by omega : (H120.1 1826 35) ≠ 0)) ?_
    rintro _ _ ⟨rfl, rfl⟩
    refine h_run 0 (pc' := 28) (l' := [(0, .inr (.inr 1826))]) (st' := [.inl 0]) rfl ?_
    refine h_zeq (off := 27) (t := 55) rfl rfl (by decide) (fun _ => ?_) (fun c => absurd c (by decide))
    refine h_run 1 (pc' := 56) (l' := [(0, .inr (.inr 1826))]) (st' := [.inr (.inr 1826)]) rfl ?_
    refine h_cv (i := 293) (j := 158) (b := 1826) (M' := mt_158) (xs := []) (rest := []) rfl rfl rfl rfl rfl rfl (Nat.le_of_ble_eq_true rfl) (Nat.le_of_ble_eq_true rfl) (by omega) (m_good0 (by omega) (by omega : (H120.1 1826 35) ≠ 0)) ?_
    rintro _ _ ⟨rfl, rfl⟩
    refine h_run 0 (pc' := 59) (l' := [(0, .inr (.inr 1826))]) (st' := [.inl 0]) rfl ?_
    refine h_zeq (off := 17) (t := 76) rfl rfl (by decide) (fun _ => ?_) (fun c => absurd c (by decide))
    refine h_run 1 (pc' := 77) (l' := [(0, .inr (.inr 1826))]) (st' := [.inr (.inr 1826)]) rfl ?_
    refine h_cv (i := 293) (j := 158) (b := 1826) (M' := mt_158) (xs := []) (rest := []) rfl rfl rfl rfl rfl rfl (Nat.le_of_ble_eq_true rfl) (Nat.le_of_ble_eq_true rfl) (by omega) (m_good0 (by omega) (by omega : (H120.1 1826 35) ≠ 0)) ?_
    rintro _ _ ⟨rfl, rfl⟩
    refine h_run 0 (pc' := 80) (l' := [(0, .inr (.inr 1826))]) (st' := [.inl 0]) rfl ?_
    refine h_zne (off := 4) (t := 84) rfl rfl (by decide) (fun c => absurd c (by decide)) (fun _ => ?_)
    refine h_ret rfl rfl ?_
    have g394 : -2147483648 ≤ (H120.1 1826 30) ∧ (H120.1 1826 30) ≤ 2147483647 := hrg121.1 1826 13 30 _ .int rfl rfl
    have g395 : -2147483648 ≤ (H120.1 1826 32) ∧ (H120.1 1826 32) ≤ 2147483647 := hrg121.1 1826 13 32 _ .int rfl rfl
    have g396 : -2147483648 ≤ (H120.1 1826 29) ∧ (H120.1 1826 29) ≤ 2147483647 := hrg121.1 1826 13 29 _ .int rfl rfl
    have e397 : (H120.1 1826 29) = (H.1 1826 29) := hx120f.2.2 29 (by decide)
    have g398 : -2147483648 ≤ (H120.1 1826 1) ∧ (H120.1 1826 1) ≤ 2147483647 := hrg121.1 1826 13 1 _ .int rfl rfl
    have e399 : (H120.1 1826 1) = (H.1 1826 1) := hx120f.2.2 1 (by decide)
    have g400 : -2147483648 ≤ (H120.1 1826 3) ∧ (H120.1 1826 3) ≤ 2147483647 := hrg121.1 1826 13 3 _ .int rfl rfl
    have e401 : (H120.1 1826 3) = (H.1 1826 3) := hx120f.2.2 3 (by decide)
    have g402 : -2147483648 ≤ (H120.1 1826 8) ∧ (H120.1 1826 8) ≤ 2147483647 := hrg121.1 1826 13 8 _ .int rfl rfl
    have e403 : (H120.1 1826 8) = (H.1 1826 8) := hx120f.2.2 8 (by decide)
    have g404 : -2147483648 ≤ (H120.1 1826 13) ∧ (H120.1 1826 13) ≤ 2147483647 := hrg121.1 1826 13 13 _ .int rfl rfl
    have e405 : (H120.1 1826 13) = (H.1 1826 13) := hx120f.2.2 13 (by decide)
    have g406 : -2147483648 ≤ (H120.1 1826 19) ∧ (H120.1 1826 19) ≤ 2147483647 := hrg121.1 1826 13 19 _ .int rfl rfl
    have e407 : (H120.1 1826 19) = (H.1 1826 19) := hx120f.2.2 19 (by decide)
    exact ⟨rfl, (Or.inr ⟨(by omega : (H120.1 1826 35) ≠ 0), GB_b hx120n (by omega)⟩), hf122, (by omega : (H.1 1826 30) ≤ (H120.1 1826 30) ∧ (H120.1 1826 30) ≤ (H.1 1826 29)), (by omega : 0 ≤ (H120.1 1826 35) ∧ (H120.1 1826 35) ≤ 5), (by omega : (H.1 1826 35) ≠ 0 → (H120.1 1826 35) ≠ 0), (by omega : 0 ≤ (H120.1 1826 32) ∧ (H120.1 1826 32) ≤ 1000), ha123, (fun (q : (H120.1 1826 35) = 0) => absurd q (by omega))⟩
