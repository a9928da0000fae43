/-! the reference reads patterns as the machine does -/
theorem ar_put (X : rx) (s t : Int) : ar (xput X s) t = ar X t := by
  unfold ar
  rw [(sT_put X s).1 8 (by decide) (by decide), (sT_put X s).1 4 (by decide) (by decide)]

/-! patterns -/
set_option maxRecDepth 100000 in
theorem n_patterns_cut {zC : Nat → Option zsh} {d : Nat} (hd : 6 ≤ d) {H : hp} {f : Nat} {fz : Int} {Y : yx} {m : Int} {c0 : cf} {K : List tq} {X : rx} (h0 : 0 ≤ (H.1 1826 30) ∧ (H.1 1826 30) ≤ (H.1 1826 29) ∧ (H.1 1826 29) ≤ 1000) (hw : 0 ≤ (H.1 1826 35) ∧ (H.1 1826 35) ≤ 5) (hst : 0 ≤ (H.1 1826 32) ∧ (H.1 1826 32) ≤ 1000) (hP : PWc H) (hfu : (f : Int) < (H.1 1826 8)) (hst0 : (H.1 1826 35) = 0 → (H.1 1826 40) = 1 ∧ (H.1 1826 43) = 0 ∧ (H.1 1826 39) = 0 ∧ (H.1 1826 41) = 0) (hw0 : (H.1 1826 35) = 0) (hR : RK Y m H X) (hV : VP H X fz) (hq : rch Y c0 ((5, 100 + (f : Int), 0, 0) :: K, X)) (hK : lkK K) : ∀ w : Nat, (∀ (H1 : hp), (fr [30, 31, 32, 33, 35, 36, 39, 40, 41, 43, 47] [1849, 1850, 1851, 1852, 1853] H H1) → ((H.1 1826 30) ≤ (H1.1 1826 30) ∧ (H1.1 1826 30) ≤ (H.1 1826 29)) → (0 ≤ (H1.1 1826 35) ∧ (H1.1 1826 35) ≤ 5) → (0 ≤ (H1.1 1826 32) ∧ (H1.1 1826 32) ≤ 1000) → ((H.1 1826 35) ≠ 0 → (H1.1 1826 35) ≠ 0) → ((H1.1 1826 35) = 0 → ∃ n, PT H1 f n) → (GB Y m c0 H1 (PG Y m c0 K H1 fz)) → mu (H1.1 1826 35) (H1.1 1826 31) (H1.1 1826 30) (H.1 1826 29) < w → hG (zs zC) d mt_178 22 [(0, .inr (.inr 1826)), (1, .inl (f : Int))] [] H1 (fun r H2 => r = none ∧ GB Y m c0 H2 (∃ X2 : rx, rch Y c0 (K, X2) ∧ RK Y m H2 X2 ∧ VP H2 X2 fz) ∧ fr [30, 31, 32, 33, 35, 36, 39, 40, 41, 43, 47] [1849, 1850, 1851, 1852, 1853] H H2 ∧ ((H.1 1826 30) ≤ (H2.1 1826 30) ∧ (H2.1 1826 30) ≤ (H.1 1826 29)) ∧ (0 ≤ (H2.1 1826 35) ∧ (H2.1 1826 35) ≤ 5) ∧ ((H.1 1826 35) ≠ 0 → (H2.1 1826 35) ≠ 0) ∧ (0 ≤ (H2.1 1826 32) ∧ (H2.1 1826 32) ≤ 1000) ∧ hid ((H2.1 1826 35) = 0 → ∃ k q : Nat, (H2.1 1826 43) = k ∧ k ≤ 39 ∧ (H2.1 1833) f = q ∧ tm (ma (H2.1 1833) (H2.1 1830)) (m_sp (H2.1 1826 3)) (H2.1 1851) k 0 q ∧ (0 ≤ (H2.1 1826 39) ∧ (H2.1 1826 39) ≤ 39) ∧ ∀ v : Nat, (v : Int) < (H2.1 1826 39) → ∃ y : Nat, y < k ∧ (H2.1 1851) y = 1000 + v))) := by
  intro w
  induction w with
  | zero => exact fun _ _ _ _ _ _ _ _ h => absurd h (Nat.not_lt_zero _)
  | succ w ih =>
    intro H1 hf ha hk hst1 hwk hPT hPG hw
    refine h_rng (fun hrg1 => ?_)
    obtain ⟨⟨pb1, pb2, pb3, pb4, pb5⟩, pw1, pw2, pw3, pw4⟩ := (id hP : PW H (H.1 1826 1) (H.1 1826 3) (H.1 1826 8) (H.1 1826 13) (H.1 1826 19))
    have hP1 := PWc_fr hP hf (by decide) (by decide)
    replace hst0 : hid _ := hst0
    refine h_run 1 (pc' := 23) (l' := [(0, .inr (.inr 1826)), (1, .inl (f : Int))]) (st' := [.inr (.inr 1826)]) rfl ?_
    have g2 : -2147483648 ≤ (H1.1 1826 35) ∧ (H1.1 1826 35) ≤ 2147483647 := hrg1.1 1826 13 35 _ .int rfl rfl
    refine h_cv (i := 293) (j := 158) (b := 1826) (M' := mt_158) (xs := []) (rest := []) rfl rfl rfl rfl rfl rfl (Nat.le_of_ble_eq_true rfl) (Nat.le_of_ble_eq_true rfl) (by omega) (m_good (by omega)) ?_
    rintro _ _ ⟨⟨rfl, b3⟩ | ⟨rfl, b3⟩, rfl⟩
    · have b3x : (H1.1 1826 35) = 0 := b3
      refine h_run 0 (pc' := 26) (l' := [(0, .inr (.inr 1826)), (1, .inl (f : Int))]) (st' := [.inl 1]) rfl ?_
      refine h_zeq (off := 241) (t := 267) rfl rfl (by decide) (fun c => absurd c (by decide)) (fun _ => ?_)
      have ety : (H1.1 1826 1) = (H.1 1826 1) := hf.2.2 1 (by decide)
      have eco : (H1.1 1826 3) = (H.1 1826 3) := hf.2.2 3 (by decide)
      have efu : (H1.1 1826 8) = (H.1 1826 8) := hf.2.2 8 (by decide)
      obtain ⟨n, hPT1⟩ := hPT (by omega)
      clear hPT hwk
      obtain ⟨⟨pa1, pa2, pa3, pa4⟩, ⟨pn1, pn2, pn3, pn4, pn5⟩, pS, -, -⟩ := id hPT1
      have hidx : ((H1.1 1826 47) - 1).toNat = n - 1 := by omega
      have hidy : ((H1.1 1826 47)).toNat = n := by omega
      obtain ⟨ps1, ps2, ps3⟩ := pS (n - 1) (by omega)
      have ps1n := ps1
      have ps2n := ps2
      rw [← hidx] at ps1 ps2 ps3
      obtain ⟨pr1, -, -⟩ := sg_ar hP1 ps1
      obtain ⟨⟨-, hc16, hf16, -, -⟩, pw1c, -⟩ := (id hP1 : PW H1 (H1.1 1826 1) (H1.1 1826 3) (H1.1 1826 8) (H1.1 1826 13) (H1.1 1826 19))
      obtain ⟨X1, hq1, hR1, hV1⟩ := (id (GB_g hPG (by omega)) : PG Y m c0 K H1 fz)
      have htk1 := RK_t hR1
      have hvv1 := hV1.1
      have har := ar_H hR1 (by omega) ps1n (by omega)
      rw [SP_of (H := H1) (n := n) pa1 rfl rfl, spk_top pa2] at hq1
      refine h_run 2 (pc' := 33) (l' := [(0, .inr (.inr 1826)), (1, .inl (f : Int))]) (st' := [.inl (H1.1 1826 47)]) rfl ?_
      have g4 : -2147483648 ≤ (H1.1 1826 47) ∧ (H1.1 1826 47) ≤ 2147483647 := hrg1.1 1826 13 47 _ .int rfl rfl
      refine h_run 1 (pc' := 34) (l' := [(0, .inr (.inr 1826)), (1, .inl (f : Int))]) (st' := [.inl 1, .inl (H1.1 1826 47)]) rfl ?_
      refine h_igt (off := 11) (t := 45) rfl rfl (by omega) (by decide) (fun c5 => ?_) (fun c5 => ?_)
      · refine h_run 1 (pc' := 46) (l' := [(0, .inr (.inr 1826)), (1, .inl (f : Int))]) (st' := [.inr (.inr 1826)]) rfl ?_
        refine h_cv (i := 341) (j := 174) (b := 1826) (M' := mt_174) (xs := []) (rest := []) rfl rfl rfl rfl rfl rfl (Nat.le_of_ble_eq_true rfl) (Nat.le_of_ble_eq_true rfl) (by omega) (m_wanted (by omega) (by omega) hP1 ps1 ps2) ?_
        rintro _ _ ⟨⟨rfl, wn6⟩ | ⟨rfl, wn6, wn6x⟩, rfl⟩
        · refine h_run 0 (pc' := 49) (l' := [(0, .inr (.inr 1826)), (1, .inl (f : Int))]) (st' := [.inl (-1)]) rfl ?_
          refine h_run 3 (pc' := 52) (l' := [(0, .inr (.inr 1826)), (1, .inl (f : Int)), (2, .inl (-1))]) (st' := [.inl (-1), .inl (-1)]) rfl ?_
          refine h_ine (off := 32) (t := 84) rfl rfl (by decide) (by decide) (fun c => absurd c (by decide)) (fun _ => ?_)
          have hno : ma (H1.1 1833) (H1.1 1830) ((H1.1 1852) (n - 1)) ≤ (H1.1 1853) (n - 1) := by rw [← hidx]; omega
          have hqw : rch Y c0 ((1, 41, 0, 0) :: (spk (H1.1 1852) (H1.1 1853) (n - 1) ++ K), X1) := rch_st hq1 (by show (if ((H1.1 1853) (n - 1)) < ar X1 ((H1.1 1852) (n - 1)) then _ else _) = _; rw [if_neg (by omega), if_neg (by omega)]; rfl)
          refine h_run 2 (pc' := 58) (l' := [(0, .inr (.inr 1826)), (1, .inl (f : Int)), (2, .inl (-1))]) (st' := [.inl 41, .inr (.inr 1826)]) rfl ?_
          have g7 : -2147483648 ≤ (H1.1 1826 30) ∧ (H1.1 1826 30) ≤ 2147483647 := hrg1.1 1826 13 30 _ .int rfl rfl
          have g8 : -2147483648 ≤ (H1.1 1826 29) ∧ (H1.1 1826 29) ≤ 2147483647 := hrg1.1 1826 13 29 _ .int rfl rfl
          have e9 : (H1.1 1826 29) = (H.1 1826 29) := hf.2.2 29 (by decide)
          have g10 : -2147483648 ≤ (H1.1 1826 31) ∧ (H1.1 1826 31) ≤ 2147483647 := hrg1.1 1826 13 31 _ .int rfl rfl
          have g12 : -2147483648 ≤ (H1.1 1826 32) ∧ (H1.1 1826 32) ≤ 2147483647 := hrg1.1 1826 13 32 _ .int rfl rfl
          refine h_cv (i := 313) (j := 166) (b := 1826) (M' := mt_166) (xs := [.inl 41]) (rest := []) rfl rfl rfl rfl rfl rfl (Nat.le_of_ble_eq_true rfl) (Nat.le_of_ble_eq_true rfl) (by omega) (n_want (by omega) (by omega : 0 ≤ (H1.1 1826 30) ∧ (H1.1 1826 30) ≤ (H1.1 1826 29) ∧ (H1.1 1826 29) ≤ 1000) (by omega : 0 ≤ (H1.1 1826 35) ∧ (H1.1 1826 35) ≤ 5) (by omega : 0 ≤ (H1.1 1826 32) ∧ (H1.1 1826 32) ≤ 1000) (by omega) (by omega : (H1.1 1826 35) = 0) hR1 hqw (lk_app hK spk_ok)) ?_
          rintro _ H11 ⟨rfl, hx11n, hx11f, hx11a, hx11b, hx11c, -, hx11e, hx11g⟩
          refine h_rng (fun hrg13 => ?_)
          have hf14 : fr [30, 31, 32, 33, 35, 36, 39, 40, 41, 43, 47] [1849, 1850, 1851, 1852, 1853] H H11 := fr_t hf hx11f (by decide) (by decide)
          replace hx11a : (H1.1 1826 30) ≤ (H11.1 1826 30) := hx11a
          replace hx11b : (H11.1 1826 30) ≤ (H1.1 1826 29) := hx11b
          replace hx11g : (H11.1 1826 35) = 0 → (H1.1 1826 31) = (41 : Int) ∧ ((H11.1 1826 31) = 0 ∨ (H1.1 1826 30) < (H11.1 1826 30)) := hx11g
          refine h_run 0 (pc' := 61) (l' := [(0, .inr (.inr 1826)), (1, .inl (f : Int)), (2, .inl (-1))]) (st' := []) rfl ?_
          refine h_run 3 (pc' := 66) (l' := [(0, .inr (.inr 1826)), (1, .inl (f : Int)), (2, .inl (-1))]) (st' := [.inl (H11.1 1826 41), .inr (.inr 1826)]) rfl ?_
          have g15 : -2147483648 ≤ (H11.1 1826 41) ∧ (H11.1 1826 41) ≤ 2147483647 := hrg13.1 1826 13 41 _ .int rfl rfl
          have e16 : (H11.1 1826 41) = (H1.1 1826 41) := hx11f.2.2 41 (by decide)
          refine h_run 2 (pc' := 68) (l' := [(0, .inr (.inr 1826)), (1, .inl (f : Int)), (2, .inl (-1))]) (st' := [.inl ((H11.1 1826 41) - 1), .inr (.inr 1826)]) rfl ?_
          refine h_puti (i := 335) (ci := 13) (k := 41) (a := 1826) (x := ((H11.1 1826 41) - 1)) rfl rfl rfl rfl rfl rfl (by decide) (by omega) ?_
          refine h_run 3 (pc' := 76) (l' := [(0, .inr (.inr 1826)), (1, .inl (f : Int)), (2, .inl (-1))]) (st' := [.inl (H11.1 1826 47), .inr (.inr 1826)]) rfl ?_
          have g17 : -2147483648 ≤ (H11.1 1826 47) ∧ (H11.1 1826 47) ≤ 2147483647 := hrg13.1 1826 13 47 _ .int rfl rfl
          have e18 : (H11.1 1826 47) = (H1.1 1826 47) := hx11f.2.2 47 (by decide)
          refine h_run 2 (pc' := 78) (l' := [(0, .inr (.inr 1826)), (1, .inl (f : Int)), (2, .inl (-1))]) (st' := [.inl ((H11.1 1826 47) - 1), .inr (.inr 1826)]) rfl ?_
          refine h_puti (i := 328) (ci := 13) (k := 47) (a := 1826) (x := ((H11.1 1826 47) - 1)) rfl rfl rfl rfl rfl rfl (by decide) (by omega) ?_
          refine h_run 2 (pc' := 22) (l' := [(0, .inr (.inr 1826)), (1, .inl (f : Int)), (2, .inl (-1))]) (st' := []) rfl ?_
          have g19 : -2147483648 ≤ (H11.1 1826 30) ∧ (H11.1 1826 30) ≤ 2147483647 := hrg13.1 1826 13 30 _ .int rfl rfl
          have g20 : -2147483648 ≤ (H11.1 1826 35) ∧ (H11.1 1826 35) ≤ 2147483647 := hrg13.1 1826 13 35 _ .int rfl rfl
          have g21 : -2147483648 ≤ (H11.1 1826 32) ∧ (H11.1 1826 32) ≤ 2147483647 := hrg13.1 1826 13 32 _ .int rfl rfl
          have g22 : -2147483648 ≤ (H11.1 1826 31) ∧ (H11.1 1826 31) ≤ 2147483647 := hrg13.1 1826 13 31 _ .int rfl rfl
          have g23 : -2147483648 ≤ (H11.1 1826 29) ∧ (H11.1 1826 29) ≤ 2147483647 := hrg13.1 1826 13 29 _ .int rfl rfl
          have e24 : (H11.1 1826 29) = (H1.1 1826 29) := hx11f.2.2 29 (by decide)
          refine h_loc [0, 1] rfl ?_
          exact ih _ (fr_o (fr_o hf14 (by decide)) (by decide)) (by omega : (H.1 1826 30) ≤ (H11.1 1826 30) ∧ (H11.1 1826 30) ≤ (H.1 1826 29)) (by omega : 0 ≤ (H11.1 1826 35) ∧ (H11.1 1826 35) ≤ 5) (by omega : 0 ≤ (H11.1 1826 32) ∧ (H11.1 1826 32) ≤ 1000) (by omega : (H.1 1826 35) ≠ 0 → (H11.1 1826 35) ≠ 0) (fun _ => ⟨_, PT_shut hPT1 (by omega) hno (hx11f.2.1 1833 (by decide) (by decide)) (hx11f.2.1 1830 (by decide) (by decide)) ⟨hx11f.2.2 3 (by decide), hx11f.2.2 8 (by decide)⟩ ⟨hx11f.2.2 40 (by decide), hx11f.2.2 43 (by decide), hx11f.2.2 39 (by decide)⟩ (hx11f.2.1 1851 (by decide) (by decide)) ⟨(by omega : ((H11.1 1826 47) - 1) = (H1.1 1826 47) - 1), (by omega : ((H11.1 1826 41) - 1) = (H1.1 1826 41) - 1)⟩ (hx11f.2.1 1852 (by decide) (by decide)) (hx11f.2.1 1853 (by decide) (by decide))⟩) (GB_t hx11n (fr_o (fr_o (fr_rf [41, 47] [] H11) (by decide)) (by decide)) (by decide) (by decide) (fun _ q => q.elim (fun X2 g => by obtain ⟨g1, g2, rfl⟩ := g; exact ⟨_, (by rw [SP_of (H := (zu (zu H11 1826 (up (H11.1 1826) 41 ((H11.1 1826 41) - 1))) 1826 (up ((zu H11 1826 (up (H11.1 1826) 41 ((H11.1 1826 41) - 1))).1 1826) 47 ((H11.1 1826 47) - 1)))) (n := n - 1) (show ((H11.1 1826 47) - 1) = ((n - 1 : Nat) : Int) by omega) (hx11f.2.1 1852 (by decide) (by decide)) (hx11f.2.1 1853 (by decide) (by decide))]; exact g1), RK_fr g2 (fr_o (fr_o (fr_rf [41, 47] [] H11) (by decide)) (by decide)) (by decide) (by decide), VP_adv hV1 (hx11f.2.2 40 (by decide)) (hx11f.2.2 39 (by decide)) (hx11f.2.1 1849 (by decide) (by decide)) (hx11f.2.1 1850 (by decide) (by decide)) (hx11f.2.2 43 (by decide)) (hx11f.2.1 1851 (by decide) (by decide))⟩))) (mu_lt hw (by omega) (by omega : (H11.1 1826 35) ≠ 0 ∨ ((H1.1 1826 30) ≤ (H11.1 1826 30) ∧ (H11.1 1826 30) ≤ (H.1 1826 29) ∧ (((H11.1 1826 31) = 0 ∧ (H1.1 1826 31) ≠ 0) ∨ (H1.1 1826 30) < (H11.1 1826 30)))))
        · refine h_run 0 (pc' := 49) (l' := [(0, .inr (.inr 1826)), (1, .inl (f : Int))]) (st' := [.inl (aty H1 (H1.1 1852 ((H1.1 1826 47) - 1).toNat) (H1.1 1853 ((H1.1 1826 47) - 1).toNat))]) rfl ?_
          refine h_run 3 (pc' := 52) (l' := [(0, .inr (.inr 1826)), (1, .inl (f : Int)), (2, .inl (aty H1 (H1.1 1852 ((H1.1 1826 47) - 1).toNat) (H1.1 1853 ((H1.1 1826 47) - 1).toNat)))]) (st' := [.inl (-1), .inl (aty H1 (H1.1 1852 ((H1.1 1826 47) - 1).toNat) (H1.1 1853 ((H1.1 1826 47) - 1).toNat))]) rfl ?_
          refine h_ine (off := 32) (t := 84) rfl rfl (by omega) (by decide) (fun c25 => ?_) (fun c25 => ?_)
          · have hno : (H1.1 1853) (n - 1) < ma (H1.1 1833) (H1.1 1830) ((H1.1 1852) (n - 1)) := by rw [← hidx]; omega
            have hat := aty_H hR1 (by omega) ps1n (by omega) (i := ((H1.1 1853) (n - 1))) (by omega) (by omega)
            have hq4 : rch Y c0 ((4, (aty H1 ((H1.1 1852) (n - 1)) ((H1.1 1853) (n - 1))), ((n - 1 : Nat) : Int), 0) :: (spk (H1.1 1852) (up (H1.1 1853) (n - 1) (((H1.1 1853) (n - 1)) + 1)) n ++ K), X1) := by rw [← hat, spk_inc pa2]; exact rch_st hq1 (by show (if ((H1.1 1853) (n - 1)) < ar X1 ((H1.1 1852) (n - 1)) then _ else _) = _; rw [if_pos (by omega)]; rfl)
            refine h_run 2 (pc' := 88) (l' := [(0, .inr (.inr 1826)), (1, .inl (f : Int)), (2, .inl (aty H1 (H1.1 1852 ((H1.1 1826 47) - 1).toNat) (H1.1 1853 ((H1.1 1826 47) - 1).toNat)))]) (st' := [.inl (H1.1 1826 31)]) rfl ?_
            have g26 : -2147483648 ≤ (H1.1 1826 31) ∧ (H1.1 1826 31) ≤ 2147483647 := hrg1.1 1826 13 31 _ .int rfl rfl
            refine h_run 1 (pc' := 89) (l' := [(0, .inr (.inr 1826)), (1, .inl (f : Int)), (2, .inl (aty H1 (H1.1 1852 ((H1.1 1826 47) - 1).toNat) (H1.1 1853 ((H1.1 1826 47) - 1).toNat)))]) (st' := [.inl 1, .inl (H1.1 1826 31)]) rfl ?_
            refine h_ine (off := 100) (t := 189) rfl rfl (by omega) (by decide) (fun c27 => ?_) (fun c27 => ?_)
            · refine h_run 2 (pc' := 193) (l' := [(0, .inr (.inr 1826)), (1, .inl (f : Int)), (2, .inl (aty H1 (H1.1 1852 ((H1.1 1826 47) - 1).toNat) (H1.1 1853 ((H1.1 1826 47) - 1).toNat)))]) (st' := [.inl (H1.1 1826 31)]) rfl ?_
              refine h_run 1 (pc' := 194) (l' := [(0, .inr (.inr 1826)), (1, .inl (f : Int)), (2, .inl (aty H1 (H1.1 1852 ((H1.1 1826 47) - 1).toNat) (H1.1 1853 ((H1.1 1826 47) - 1).toNat)))]) (st' := [.inl 2, .inl (H1.1 1826 31)]) rfl ?_
              refine h_ine (off := 12) (t := 206) rfl rfl (by omega) (by decide) (fun c28 => ?_) (fun c28 => ?_)
              · refine h_run 2 (pc' := 210) (l' := [(0, .inr (.inr 1826)), (1, .inl (f : Int)), (2, .inl (aty H1 (H1.1 1852 ((H1.1 1826 47) - 1).toNat) (H1.1 1853 ((H1.1 1826 47) - 1).toNat)))]) (st' := [.inl (H1.1 1826 31)]) rfl ?_
                refine h_run 1 (pc' := 212) (l' := [(0, .inr (.inr 1826)), (1, .inl (f : Int)), (2, .inl (aty H1 (H1.1 1852 ((H1.1 1826 47) - 1).toNat) (H1.1 1853 ((H1.1 1826 47) - 1).toNat)))]) (st' := [.inl 40, .inl (H1.1 1826 31)]) rfl ?_
                refine h_ine (off := 47) (t := 259) rfl rfl (by omega) (by decide) (fun c29 => ?_) (fun c29 => ?_)
                · refine h_run 2 (pc' := 261) (l' := [(0, .inr (.inr 1826)), (1, .inl (f : Int)), (2, .inl (aty H1 (H1.1 1852 ((H1.1 1826 47) - 1).toNat) (H1.1 1853 ((H1.1 1826 47) - 1).toNat)))]) (st' := [.inl 2, .inr (.inr 1826)]) rfl ?_
                  refine h_cv (i := 278) (j := 159) (b := 1826) (M' := mt_159) (xs := [.inl 2]) (rest := []) rfl rfl rfl rfl rfl rfl (Nat.le_of_ble_eq_true rfl) (Nat.le_of_ble_eq_true rfl) (by omega) (m_bad0 (by omega) (by omega) (by omega : (H1.1 1826 35) = 0)) ?_
                  rintro _ _ ⟨rfl, rfl⟩
                  refine h_run 0 (pc' := 264) (l' := [(0, .inr (.inr 1826)), (1, .inl (f : Int)), (2, .inl (aty H1 (H1.1 1852 ((H1.1 1826 47) - 1).toNat) (H1.1 1853 ((H1.1 1826 47) - 1).toNat)))]) (st' := []) rfl ?_
                  refine h_run 1 (pc' := 22) (l' := [(0, .inr (.inr 1826)), (1, .inl (f : Int)), (2, .inl (aty H1 (H1.1 1852 ((H1.1 1826 47) - 1).toNat) (H1.1 1853 ((H1.1 1826 47) - 1).toNat)))]) (st' := []) rfl ?_
                  have g30 : -2147483648 ≤ (H1.1 1826 30) ∧ (H1.1 1826 30) ≤ 2147483647 := hrg1.1 1826 13 30 _ .int rfl rfl
                  have g31 : -2147483648 ≤ (H1.1 1826 32) ∧ (H1.1 1826 32) ≤ 2147483647 := hrg1.1 1826 13 32 _ .int rfl rfl
                  have g32 : -2147483648 ≤ (H1.1 1826 29) ∧ (H1.1 1826 29) ≤ 2147483647 := hrg1.1 1826 13 29 _ .int rfl rfl
                  have e33 : (H1.1 1826 29) = (H.1 1826 29) := hf.2.2 29 (by decide)
                  have g34 : -2147483648 ≤ (H1.1 1826 41) ∧ (H1.1 1826 41) ≤ 2147483647 := hrg1.1 1826 13 41 _ .int rfl rfl
                  refine h_loc [0, 1] rfl ?_
                  exact ih _ (fr_o (fr_o hf (by decide)) (by decide)) (by omega : (H.1 1826 30) ≤ (H1.1 1826 30) ∧ (H1.1 1826 30) ≤ (H.1 1826 29)) (by omega : 0 ≤ (2 : Int) ∧ (2 : Int) ≤ 5) (by omega : 0 ≤ (H1.1 1826 32) ∧ (H1.1 1826 32) ≤ 1000) (by omega : (H.1 1826 35) ≠ 0 → (2 : Int) ≠ 0) (fun (q : (2 : Int) = 0) => absurd q (by omega)) (Or.inr ⟨(by omega : (2 : Int) ≠ 0), (BD_mk hR1 (fr_o (fr_o (fr_rf [35, 36] [] H1) (by decide)) (by decide)) (by decide) (by decide) (by decide : (2 : Int) ≠ 0) rfl rfl (rch_st hq4 (by show stPat Y (aty H1 ((H1.1 1852) (n - 1)) ((H1.1 1853) (n - 1))) ((n - 1 : Nat) : Int) (spk (H1.1 1852) (up (H1.1 1853) (n - 1) (((H1.1 1853) (n - 1)) + 1)) n ++ K) X1 = _; unfold stPat miss; (repeat (first | rw [if_pos (by omega)] | rw [if_neg (by omega)])); try (first | rfl | (exfalso; omega)))))⟩) (mu_lt hw (by omega) (by omega : (2 : Int) ≠ 0 ∨ ((H1.1 1826 30) ≤ (H1.1 1826 30) ∧ (H1.1 1826 30) ≤ (H.1 1826 29) ∧ (((H1.1 1826 31) = 0 ∧ (H1.1 1826 31) ≠ 0) ∨ (H1.1 1826 30) < (H1.1 1826 30)))))
                · refine h_run 1 (pc' := 216) (l' := [(0, .inr (.inr 1826)), (1, .inl (f : Int)), (2, .inl (aty H1 (H1.1 1852 ((H1.1 1826 47) - 1).toNat) (H1.1 1853 ((H1.1 1826 47) - 1).toNat)))]) (st' := [.inr (.inr 1826)]) rfl ?_
                  have g35 : -2147483648 ≤ (H1.1 1826 41) ∧ (H1.1 1826 41) ≤ 2147483647 := hrg1.1 1826 13 41 _ .int rfl rfl
                  by_cases b36 : (H1.1 1826 41) = 10
                  · refine h_cv (i := 357) (j := 176) (b := 1826) (M' := mt_176) (xs := []) (rest := []) rfl rfl rfl rfl rfl rfl (Nat.le_of_ble_eq_true rfl) (Nat.le_of_ble_eq_true rfl) (by omega) (m_deepB (by omega) (by omega : (H1.1 1826 35) = 0) (by omega : (H1.1 1826 41) = 10)) ?_
                    rintro _ _ ⟨rfl, rfl⟩
                    refine h_run 0 (pc' := 219) (l' := [(0, .inr (.inr 1826)), (1, .inl (f : Int)), (2, .inl (aty H1 (H1.1 1852 ((H1.1 1826 47) - 1).toNat) (H1.1 1853 ((H1.1 1826 47) - 1).toNat)))]) (st' := []) rfl ?_
                    refine h_run 1 (pc' := 220) (l' := [(0, .inr (.inr 1826)), (1, .inl (f : Int)), (2, .inl (aty H1 (H1.1 1852 ((H1.1 1826 47) - 1).toNat) (H1.1 1853 ((H1.1 1826 47) - 1).toNat)))]) (st' := [.inr (.inr 1826)]) rfl ?_
                    refine h_cv (i := 293) (j := 158) (b := 1826) (M' := mt_158) (xs := []) (rest := []) rfl rfl rfl rfl rfl rfl (Nat.le_of_ble_eq_true rfl) (Nat.le_of_ble_eq_true rfl) (by omega) (m_good0 (by omega) (by omega : (5 : Int) ≠ 0)) ?_
                    rintro _ _ ⟨rfl, rfl⟩
                    refine h_run 0 (pc' := 223) (l' := [(0, .inr (.inr 1826)), (1, .inl (f : Int)), (2, .inl (aty H1 (H1.1 1852 ((H1.1 1826 47) - 1).toNat) (H1.1 1853 ((H1.1 1826 47) - 1).toNat)))]) (st' := [.inl 0]) rfl ?_
                    refine h_zeq (off := 7) (t := 230) rfl rfl (by decide) (fun _ => ?_) (fun c => absurd c (by decide))
                    refine h_run 1 (pc' := 231) (l' := [(0, .inr (.inr 1826)), (1, .inl (f : Int)), (2, .inl (aty H1 (H1.1 1852 ((H1.1 1826 47) - 1).toNat) (H1.1 1853 ((H1.1 1826 47) - 1).toNat)))]) (st' := [.inr (.inr 1826)]) rfl ?_
                    refine h_cv (i := 293) (j := 158) (b := 1826) (M' := mt_158) (xs := []) (rest := []) rfl rfl rfl rfl rfl rfl (Nat.le_of_ble_eq_true rfl) (Nat.le_of_ble_eq_true rfl) (by omega) (m_good0 (by omega) (by omega : (5 : Int) ≠ 0)) ?_
                    rintro _ _ ⟨rfl, rfl⟩
                    refine h_run 0 (pc' := 234) (l' := [(0, .inr (.inr 1826)), (1, .inl (f : Int)), (2, .inl (aty H1 (H1.1 1852 ((H1.1 1826 47) - 1).toNat) (H1.1 1853 ((H1.1 1826 47) - 1).toNat)))]) (st' := [.inl 0]) rfl ?_
                    refine h_zeq (off := 16) (t := 250) rfl rfl (by decide) (fun _ => ?_) (fun c => absurd c (by decide))
                    refine h_run 3 (pc' := 253) (l' := [(0, .inr (.inr 1826)), (1, .inl (f : Int)), (2, .inl (aty H1 (H1.1 1852 ((H1.1 1826 47) - 1).toNat) (H1.1 1853 ((H1.1 1826 47) - 1).toNat)))]) (st' := [.inl 1, .inl (aty H1 (H1.1 1852 ((H1.1 1826 47) - 1).toNat) (H1.1 1853 ((H1.1 1826 47) - 1).toNat)), .inr (.inr 1826)]) rfl ?_
                    have g37 : -2147483648 ≤ (H1.1 1826 40) ∧ (H1.1 1826 40) ≤ 2147483647 := hrg1.1 1826 13 40 _ .int rfl rfl
                    refine h_cv (i := 353) (j := 179) (b := 1826) (M' := mt_179) (xs := [.inl 1, .inl (aty H1 (H1.1 1852 ((H1.1 1826 47) - 1).toNat) (H1.1 1853 ((H1.1 1826 47) - 1).toNat))]) (rest := []) rfl rfl rfl rfl rfl rfl (Nat.le_of_ble_eq_true rfl) (Nat.le_of_ble_eq_true rfl) (by omega) (n_patC01 (by omega) (by omega : (5 : Int) ≠ 0) (by omega : 0 ≤ (H1.1 1826 40) ∧ (H1.1 1826 40) ≤ 999)) ?_
                    rintro _ _ ⟨rfl, rfl⟩
                    refine h_run 0 (pc' := 256) (l' := [(0, .inr (.inr 1826)), (1, .inl (f : Int)), (2, .inl (aty H1 (H1.1 1852 ((H1.1 1826 47) - 1).toNat) (H1.1 1853 ((H1.1 1826 47) - 1).toNat)))]) (st' := []) rfl ?_
                    refine h_run 2 (pc' := 22) (l' := [(0, .inr (.inr 1826)), (1, .inl (f : Int)), (2, .inl (aty H1 (H1.1 1852 ((H1.1 1826 47) - 1).toNat) (H1.1 1853 ((H1.1 1826 47) - 1).toNat)))]) (st' := []) rfl ?_
                    have g38 : -2147483648 ≤ (H1.1 1826 30) ∧ (H1.1 1826 30) ≤ 2147483647 := hrg1.1 1826 13 30 _ .int rfl rfl
                    have g39 : -2147483648 ≤ (H1.1 1826 32) ∧ (H1.1 1826 32) ≤ 2147483647 := hrg1.1 1826 13 32 _ .int rfl rfl
                    have g40 : -2147483648 ≤ (H1.1 1826 29) ∧ (H1.1 1826 29) ≤ 2147483647 := hrg1.1 1826 13 29 _ .int rfl rfl
                    have e41 : (H1.1 1826 29) = (H.1 1826 29) := hf.2.2 29 (by decide)
                    refine h_loc [0, 1] rfl ?_
                    exact ih _ (fr_o (fr_o (fr_o (fr_o hf (by decide)) (by decide)) (by decide)) (by decide)) (by omega : (H.1 1826 30) ≤ (H1.1 1826 30) ∧ (H1.1 1826 30) ≤ (H.1 1826 29)) (by omega : 0 ≤ (5 : Int) ∧ (5 : Int) ≤ 5) (by omega : 0 ≤ (H1.1 1826 32) ∧ (H1.1 1826 32) ≤ 1000) (by omega : (H.1 1826 35) ≠ 0 → (5 : Int) ≠ 0) (fun (q : (5 : Int) = 0) => absurd q (by omega)) (Or.inr ⟨(by omega : (5 : Int) ≠ 0), (BD_mk hR1 (fr_o (fr_o (fr_o (fr_o (fr_rf [35, 36, 40, 41] [] H1) (by decide)) (by decide)) (by decide)) (by decide)) (by decide) (by decide) (by decide : (5 : Int) ≠ 0) rfl rfl (rch_st hq4 (by show stPat Y (aty H1 ((H1.1 1852) (n - 1)) ((H1.1 1853) (n - 1))) ((n - 1 : Nat) : Int) (spk (H1.1 1852) (up (H1.1 1853) (n - 1) (((H1.1 1853) (n - 1)) + 1)) n ++ K) X1 = _; unfold stPat miss; (repeat (first | rw [if_pos (by omega)] | rw [if_neg (by omega)])); try (first | rfl | (exfalso; omega)))))⟩) (mu_lt hw (by omega) (by omega : (5 : Int) ≠ 0 ∨ ((H1.1 1826 30) ≤ (H1.1 1826 30) ∧ (H1.1 1826 30) ≤ (H.1 1826 29) ∧ (((H1.1 1826 31) = 0 ∧ (H1.1 1826 31) ≠ 0) ∨ (H1.1 1826 30) < (H1.1 1826 30)))))
                  · refine h_cv (i := 357) (j := 176) (b := 1826) (M' := mt_176) (xs := []) (rest := []) rfl rfl rfl rfl rfl rfl (Nat.le_of_ble_eq_true rfl) (Nat.le_of_ble_eq_true rfl) (by omega) (m_deepA (by omega) (by omega : (H1.1 1826 35) = 0) (by omega : 0 ≤ (H1.1 1826 41) ∧ (H1.1 1826 41) ≤ 1000) (by omega : (H1.1 1826 41) ≠ 10)) ?_
                    rintro _ _ ⟨rfl, rfl⟩
                    refine h_run 0 (pc' := 219) (l' := [(0, .inr (.inr 1826)), (1, .inl (f : Int)), (2, .inl (aty H1 (H1.1 1852 ((H1.1 1826 47) - 1).toNat) (H1.1 1853 ((H1.1 1826 47) - 1).toNat)))]) (st' := []) rfl ?_
                    refine h_run 1 (pc' := 220) (l' := [(0, .inr (.inr 1826)), (1, .inl (f : Int)), (2, .inl (aty H1 (H1.1 1852 ((H1.1 1826 47) - 1).toNat) (H1.1 1853 ((H1.1 1826 47) - 1).toNat)))]) (st' := [.inr (.inr 1826)]) rfl ?_
                    refine h_cv (i := 293) (j := 158) (b := 1826) (M' := mt_158) (xs := []) (rest := []) rfl rfl rfl rfl rfl rfl (Nat.le_of_ble_eq_true rfl) (Nat.le_of_ble_eq_true rfl) (by omega) (m_good1 (by omega) (by omega : (H1.1 1826 35) = 0)) ?_
                    rintro _ _ ⟨rfl, rfl⟩
                    refine h_run 0 (pc' := 223) (l' := [(0, .inr (.inr 1826)), (1, .inl (f : Int)), (2, .inl (aty H1 (H1.1 1852 ((H1.1 1826 47) - 1).toNat) (H1.1 1853 ((H1.1 1826 47) - 1).toNat)))]) (st' := [.inl 1]) rfl ?_
                    refine h_zeq (off := 7) (t := 230) rfl rfl (by decide) (fun c => absurd c (by decide)) (fun _ => ?_)
                    refine h_run 1 (pc' := 227) (l' := [(0, .inr (.inr 1826)), (1, .inl (f : Int)), (2, .inl (aty H1 (H1.1 1852 ((H1.1 1826 47) - 1).toNat) (H1.1 1853 ((H1.1 1826 47) - 1).toNat)))]) (st' := [.inr (.inr 1826)]) rfl ?_
                    have g42 : -2147483648 ≤ (H1.1 1826 30) ∧ (H1.1 1826 30) ≤ 2147483647 := hrg1.1 1826 13 30 _ .int rfl rfl
                    have g43 : -2147483648 ≤ (H1.1 1826 29) ∧ (H1.1 1826 29) ≤ 2147483647 := hrg1.1 1826 13 29 _ .int rfl rfl
                    have e44 : (H1.1 1826 29) = (H.1 1826 29) := hf.2.2 29 (by decide)
                    have g45 : -2147483648 ≤ (H1.1 1826 32) ∧ (H1.1 1826 32) ≤ 2147483647 := hrg1.1 1826 13 32 _ .int rfl rfl
                    refine h_cv (i := 297) (j := 165) (b := 1826) (M' := mt_165) (xs := []) (rest := []) rfl rfl rfl rfl rfl rfl (Nat.le_of_ble_eq_true rfl) (Nat.le_of_ble_eq_true rfl) (by omega) (n_nx2 (by omega) (by omega : 0 ≤ (H1.1 1826 30) ∧ (H1.1 1826 30) ≤ (H1.1 1826 29) ∧ (H1.1 1826 29) ≤ 1000) (by omega : 0 ≤ (H1.1 1826 35) ∧ (H1.1 1826 35) ≤ 5) (by omega : 0 ≤ (H1.1 1826 32) ∧ (H1.1 1826 32) ≤ 1000) (by omega : (H1.1 1826 35) = 0) (X := (adv X1)) (RN_adv hR1 (fr_o (fr_rf [41] [] H1) (by decide)) (by decide) (by decide)) (fun q9 => (rch_st hq4 (by show stPat Y (aty H1 ((H1.1 1852) (n - 1)) ((H1.1 1853) (n - 1))) ((n - 1 : Nat) : Int) (spk (H1.1 1852) (up (H1.1 1853) (n - 1) (((H1.1 1853) (n - 1)) + 1)) n ++ K) X1 = _; unfold stPat miss; (repeat (first | rw [if_pos (by omega)] | rw [if_neg (by omega)])); try (first | rfl | (exfalso; omega)))))) ?_
                    rintro _ H46 ⟨rfl, hx46n, hx46f, hx46a, hx46b, hx46c, -, hx46e, hx46g⟩
                    refine h_rng (fun hrg47 => ?_)
                    have hf48 : fr [30, 31, 32, 33, 35, 36, 39, 40, 41, 43, 47] [1849, 1850, 1851, 1852, 1853] H H46 := fr_t (fr_o hf (by decide)) hx46f (by decide) (by decide)
                    replace hx46a : (H1.1 1826 30) ≤ (H46.1 1826 30) := hx46a
                    replace hx46b : (H46.1 1826 30) ≤ (H1.1 1826 29) := hx46b
                    replace hx46g : (H46.1 1826 35) = 0 → ((H46.1 1826 31) = 0 ∨ (H1.1 1826 30) < (H46.1 1826 30)) := hx46g
                    refine h_run 0 (pc' := 230) (l' := [(0, .inr (.inr 1826)), (1, .inl (f : Int)), (2, .inl (aty H1 (H1.1 1852 ((H1.1 1826 47) - 1).toNat) (H1.1 1853 ((H1.1 1826 47) - 1).toNat)))]) (st' := []) rfl ?_
                    refine h_run 1 (pc' := 231) (l' := [(0, .inr (.inr 1826)), (1, .inl (f : Int)), (2, .inl (aty H1 (H1.1 1852 ((H1.1 1826 47) - 1).toNat) (H1.1 1853 ((H1.1 1826 47) - 1).toNat)))]) (st' := [.inr (.inr 1826)]) rfl ?_
                    have g49 : -2147483648 ≤ (H46.1 1826 35) ∧ (H46.1 1826 35) ≤ 2147483647 := hrg47.1 1826 13 35 _ .int rfl rfl
                    refine h_cv (i := 293) (j := 158) (b := 1826) (M' := mt_158) (xs := []) (rest := []) rfl rfl rfl rfl rfl rfl (Nat.le_of_ble_eq_true rfl) (Nat.le_of_ble_eq_true rfl) (by omega) (m_good (by omega)) ?_
                    rintro _ _ ⟨⟨rfl, b50⟩ | ⟨rfl, b50⟩, rfl⟩
                    · have b50x : (H46.1 1826 35) = 0 := b50
                      replace hx46g := hx46g b50x
                      refine h_run 0 (pc' := 234) (l' := [(0, .inr (.inr 1826)), (1, .inl (f : Int)), (2, .inl (aty H1 (H1.1 1852 ((H1.1 1826 47) - 1).toNat) (H1.1 1853 ((H1.1 1826 47) - 1).toNat)))]) (st' := [.inl 1]) rfl ?_
                      refine h_zeq (off := 16) (t := 250) rfl rfl (by decide) (fun c => absurd c (by decide)) (fun _ => ?_)
                      have hR2 := GB_g hx46n (by omega)
                      have htk2 := RK_t hR2
                      refine h_run 2 (pc' := 241) (l' := [(0, .inr (.inr 1826)), (1, .inl (f : Int)), (2, .inl (aty H1 (H1.1 1852 ((H1.1 1826 47) - 1).toNat) (H1.1 1853 ((H1.1 1826 47) - 1).toNat)))]) (st' := [.inl (H46.1 1826 31)]) rfl ?_
                      have g51 : -2147483648 ≤ (H46.1 1826 31) ∧ (H46.1 1826 31) ≤ 2147483647 := hrg47.1 1826 13 31 _ .int rfl rfl
                      refine h_run 1 (pc' := 242) (l' := [(0, .inr (.inr 1826)), (1, .inl (f : Int)), (2, .inl (aty H1 (H1.1 1852 ((H1.1 1826 47) - 1).toNat) (H1.1 1853 ((H1.1 1826 47) - 1).toNat)))]) (st' := [.inl 2, .inl (H46.1 1826 31)]) rfl ?_
                      refine h_ieq (off := 8) (t := 250) rfl rfl (by omega) (by decide) (fun c52 => ?_) (fun c52 => ?_)
                      · refine h_run 3 (pc' := 253) (l' := [(0, .inr (.inr 1826)), (1, .inl (f : Int)), (2, .inl (aty H1 (H1.1 1852 ((H1.1 1826 47) - 1).toNat) (H1.1 1853 ((H1.1 1826 47) - 1).toNat)))]) (st' := [.inl 1, .inl (aty H1 (H1.1 1852 ((H1.1 1826 47) - 1).toNat) (H1.1 1853 ((H1.1 1826 47) - 1).toNat)), .inr (.inr 1826)]) rfl ?_
                        have g53 : -2147483648 ≤ (H46.1 1826 40) ∧ (H46.1 1826 40) ≤ 2147483647 := hrg47.1 1826 13 40 _ .int rfl rfl
                        have e54 : (H46.1 1826 40) = (H1.1 1826 40) := hx46f.2.2 40 (by decide)
                        have g55 : -2147483648 ≤ (H46.1 1826 30) ∧ (H46.1 1826 30) ≤ 2147483647 := hrg47.1 1826 13 30 _ .int rfl rfl
                        have g56 : -2147483648 ≤ (H46.1 1826 29) ∧ (H46.1 1826 29) ≤ 2147483647 := hrg47.1 1826 13 29 _ .int rfl rfl
                        have e57 : (H46.1 1826 29) = (H1.1 1826 29) := hx46f.2.2 29 (by decide)
                        have g58 : -2147483648 ≤ (H46.1 1826 43) ∧ (H46.1 1826 43) ≤ 2147483647 := hrg47.1 1826 13 43 _ .int rfl rfl
                        have e59 : (H46.1 1826 43) = (H1.1 1826 43) := hx46f.2.2 43 (by decide)
                        have g60 : -2147483648 ≤ (H46.1 1826 47) ∧ (H46.1 1826 47) ≤ 2147483647 := hrg47.1 1826 13 47 _ .int rfl rfl
                        have e61 : (H46.1 1826 47) = (H1.1 1826 47) := hx46f.2.2 47 (by decide)
                        have g62 : -2147483648 ≤ (H46.1 1826 41) ∧ (H46.1 1826 41) ≤ 2147483647 := hrg47.1 1826 13 41 _ .int rfl rfl
                        have e63 : (H46.1 1826 41) = ((H1.1 1826 41) + 1) := hx46f.2.2 41 (by decide)
                        have g65 : -2147483648 ≤ (H46.1 1826 32) ∧ (H46.1 1826 32) ≤ 2147483647 := hrg47.1 1826 13 32 _ .int rfl rfl
                        refine h_cv (i := 353) (j := 179) (b := 1826) (M' := mt_179) (xs := [.inl 1, .inl (aty H1 (H1.1 1852 ((H1.1 1826 47) - 1).toNat) (H1.1 1853 ((H1.1 1826 47) - 1).toNat))]) (rest := []) rfl rfl rfl rfl rfl rfl (Nat.le_of_ble_eq_true rfl) (Nat.le_of_ble_eq_true rfl) (by omega) (n_patCon1 (by omega) (by omega : 0 ≤ (H46.1 1826 30) ∧ (H46.1 1826 30) ≤ (H46.1 1826 29) ∧ (H46.1 1826 29) ≤ 1000) (by omega : 0 ≤ (H46.1 1826 35) ∧ (H46.1 1826 35) ≤ 5) (by omega : 0 ≤ (H46.1 1826 32) ∧ (H46.1 1826 32) ≤ 1000) (PWc_fr hP1 (H := H1) (K := H46) (ob := [30, 31, 32, 33, 35, 36, 41]) (ar := []) (fr_t (fr_o (fr_rf _ _ _) (by decide)) hx46f (by decide) (by decide)) (by decide) (by decide)) (by omega : 1 ≤ (H46.1 1826 47) ∧ (H46.1 1826 47) ≤ 63) (by omega : 0 ≤ (H46.1 1826 40) ∧ (H46.1 1826 40) ≤ 999) (by omega : 0 ≤ (H46.1 1826 43) ∧ (H46.1 1826 43) ≤ 46) (by show 0 ≤ (H46.1 1853 ((H46.1 1826 47) - 1).toNat) ∧ (H46.1 1853 ((H46.1 1826 47) - 1).toNat) ≤ 1000; rw [show (H46.1 1853) = (H1.1 1853) from hx46f.2.1 1853 (by decide) (by decide), show (H46.1 1826 47) = (H1.1 1826 47) from hx46f.2.2 47 (by decide)]; omega) (by omega) (by omega : (H46.1 1826 35) = 0) (by omega : (H46.1 1826 40) ≤ 40) (by omega : (H46.1 1826 31) = 2) (GB_g hx46n (by omega)) (VP_adv hV1 (hx46f.2.2 40 (by decide)) (hx46f.2.2 39 (by decide)) (hx46f.2.1 1849 (by decide) (by decide)) (hx46f.2.1 1850 (by decide) (by decide)) (hx46f.2.2 43 (by decide)) (hx46f.2.1 1851 (by decide) (by decide))) (show rch Y c0 (stPcon Y (aty H1 (H1.1 1852 ((H1.1 1826 47) - 1).toNat) (H1.1 1853 ((H1.1 1826 47) - 1).toNat)) (n : Int) 1 (cfd Y (adv X1)) ((1, 41, 0, 0) :: (spk (H1.1 1852) (up (H1.1 1853) (n - 1) (((H1.1 1853) (n - 1)) + 1)) n ++ K)) (adv X1)) from (by rw [hidx, show (n : Int) = ((n - 1 : Nat) : Int) + 1 by omega]; exact (rch_st hq4 (by show stPat Y (aty H1 ((H1.1 1852) (n - 1)) ((H1.1 1853) (n - 1))) ((n - 1 : Nat) : Int) (spk (H1.1 1852) (up (H1.1 1853) (n - 1) (((H1.1 1853) (n - 1)) + 1)) n ++ K) X1 = _; unfold stPat miss; (repeat (first | rw [if_pos (by omega)] | rw [if_neg (by omega)])); try (first | rfl | (exfalso; omega)))))) (lk_1 (by decide))) ?_
                        rintro _ H64 ⟨rfl, hx64gb, hx64f, hx64a, hx64c, -, hx64e, hx64n, hx64g, hx64p⟩
                        refine h_rng (fun hrg66 => ?_)
                        have hf67 : fr [30, 31, 32, 33, 35, 36, 39, 40, 41, 43, 47] [1849, 1850, 1851, 1852, 1853] H H64 := fr_t hf48 hx64f (by decide) (by decide)
                        replace hx64a : (H46.1 1826 30) ≤ (H64.1 1826 30) ∧ (H64.1 1826 30) ≤ (H46.1 1826 29) := hx64a
                        replace hx64g : (H64.1 1826 35) = 0 → (H64.1 1826 31) = 0 ∨ (H46.1 1826 30) < (H64.1 1826 30) := hx64g
                        replace hx64n : 0 ≤ (H64.1 1826 40) ∧ (H64.1 1826 40) ≤ (H46.1 1826 40) + 1 := hx64n
                        refine h_run 0 (pc' := 256) (l' := [(0, .inr (.inr 1826)), (1, .inl (f : Int)), (2, .inl (aty H1 (H1.1 1852 ((H1.1 1826 47) - 1).toNat) (H1.1 1853 ((H1.1 1826 47) - 1).toNat)))]) (st' := []) rfl ?_
                        refine h_run 2 (pc' := 22) (l' := [(0, .inr (.inr 1826)), (1, .inl (f : Int)), (2, .inl (aty H1 (H1.1 1852 ((H1.1 1826 47) - 1).toNat) (H1.1 1853 ((H1.1 1826 47) - 1).toNat)))]) (st' := []) rfl ?_
                        have g68 : -2147483648 ≤ (H64.1 1826 30) ∧ (H64.1 1826 30) ≤ 2147483647 := hrg66.1 1826 13 30 _ .int rfl rfl
                        have g69 : -2147483648 ≤ (H64.1 1826 35) ∧ (H64.1 1826 35) ≤ 2147483647 := hrg66.1 1826 13 35 _ .int rfl rfl
                        have g70 : -2147483648 ≤ (H64.1 1826 32) ∧ (H64.1 1826 32) ≤ 2147483647 := hrg66.1 1826 13 32 _ .int rfl rfl
                        have g71 : -2147483648 ≤ (H64.1 1826 31) ∧ (H64.1 1826 31) ≤ 2147483647 := hrg66.1 1826 13 31 _ .int rfl rfl
                        have g72 : -2147483648 ≤ (H64.1 1826 29) ∧ (H64.1 1826 29) ≤ 2147483647 := hrg66.1 1826 13 29 _ .int rfl rfl
                        have e73 : (H64.1 1826 29) = (H46.1 1826 29) := hx64f.2.2 29 (by decide)
                        have g74 : -2147483648 ≤ (H64.1 1826 47) ∧ (H64.1 1826 47) ≤ 2147483647 := hrg66.1 1826 13 47 _ .int rfl rfl
                        have g75 : -2147483648 ≤ (H64.1 1826 41) ∧ (H64.1 1826 41) ≤ 2147483647 := hrg66.1 1826 13 41 _ .int rfl rfl
                        have e76 : (H64.1 1826 41) = (H46.1 1826 41) := hx64f.2.2 41 (by decide)
                        refine h_loc [0, 1] rfl ?_
                        exact ih _ hf67 (by omega : (H.1 1826 30) ≤ (H64.1 1826 30) ∧ (H64.1 1826 30) ≤ (H.1 1826 29)) (by omega : 0 ≤ (H64.1 1826 35) ∧ (H64.1 1826 35) ≤ 5) (by omega : 0 ≤ (H64.1 1826 32) ∧ (H64.1 1826 32) ≤ 1000) (by omega : (H.1 1826 35) ≠ 0 → (H64.1 1826 35) ≠ 0) (fun q => by obtain ⟨c, k1, k3, ⟨k5, k6, k7⟩, k8, k9, k10⟩ := hx64p q; rw [show (H46.1 1826 3) = (H1.1 1826 3) from hx46f.2.2 3 (by decide)] at k1; have hcc := (pw1c c (by omega)).1; have es : ((1 : Int) + c - 1).toNat = c := (by omega); rw [show (H46.1 1826 40) = (H1.1 1826 40) from hx46f.2.2 40 (by decide)] at k3 k5; rw [show (H46.1 1826 43) = (H1.1 1826 43) from hx46f.2.2 43 (by decide)] at k6 k8; rw [show (H46.1 1826 47) = (H1.1 1826 47) from hx46f.2.2 47 (by decide)] at k7 k9 k10; rw [show (H46.1 1851) = (H1.1 1851) from hx46f.2.1 1851 (by decide) (by decide)] at k8; rw [show (H46.1 1852) = (H1.1 1852) from hx46f.2.1 1852 (by decide) (by decide), hidy] at k9; rw [show (H46.1 1853) = (H1.1 1853) from hx46f.2.1 1853 (by decide) (by decide), hidx, hidy] at k10; exact PT_step (q := ((H1.1 1830) c).toNat) hPT1 (Or.inl ⟨by omega, by omega⟩) (by rw [ma_c (by omega), es]; omega) (by omega) hno ((hx64f.2.1 1833 (by decide) (by decide)).trans (hx46f.2.1 1833 (by decide) (by decide))) ((hx64f.2.1 1830 (by decide) (by decide)).trans (hx46f.2.1 1830 (by decide) (by decide))) ⟨(hx64f.2.2 3 (by decide)).trans (hx46f.2.2 3 (by decide)), (hx64f.2.2 8 (by decide)).trans (hx46f.2.2 8 (by decide))⟩ (by omega) ⟨k5, k6⟩ k8 (Or.inl ((hx64f.2.2 39 (by decide)).trans (hx46f.2.2 39 (by decide)))) (Or.inr ⟨by omega, by omega, by omega, k7, (hx64f.2.2 41 (by decide)).trans (hx46f.2.2 41 (by decide)), k9, k10⟩)) (GB_i hx64gb (fun q => q.elim (fun c g => by obtain ⟨⟨g1, g2⟩, ⟨g4, g5, g6⟩, g7, g8, g9⟩ := g; rw [show (H46.1 1826 47) = (H1.1 1826 47) from hx46f.2.2 47 (by decide)] at g4 g5 g6; rw [show (H46.1 1852) = (H1.1 1852) from hx46f.2.1 1852 (by decide) (by decide), hidy] at g5; rw [show (H46.1 1853) = (H1.1 1853) from hx46f.2.1 1853 (by decide) (by decide), hidx, hidy] at g6; exact ⟨_, (by rw [SP_of (H := H64) (n := n + 1) (g4.trans (by omega)) g5 g6, spk_push (by omega)]; exact g7), g8, g9⟩))) (mu_lt hw (by omega) (by omega : (H64.1 1826 35) ≠ 0 ∨ ((H1.1 1826 30) ≤ (H64.1 1826 30) ∧ (H64.1 1826 30) ≤ (H.1 1826 29) ∧ (((H64.1 1826 31) = 0 ∧ (H1.1 1826 31) ≠ 0) ∨ (H1.1 1826 30) < (H64.1 1826 30)))))
                      · refine h_run 2 (pc' := 247) (l' := [(0, .inr (.inr 1826)), (1, .inl (f : Int)), (2, .inl (aty H1 (H1.1 1852 ((H1.1 1826 47) - 1).toNat) (H1.1 1853 ((H1.1 1826 47) - 1).toNat)))]) (st' := [.inl 2, .inr (.inr 1826)]) rfl ?_
                        refine h_cv (i := 278) (j := 159) (b := 1826) (M' := mt_159) (xs := [.inl 2]) (rest := []) rfl rfl rfl rfl rfl rfl (Nat.le_of_ble_eq_true rfl) (Nat.le_of_ble_eq_true rfl) (by omega) (m_bad0 (by omega) (by omega) (by omega : (H46.1 1826 35) = 0)) ?_
                        rintro _ _ ⟨rfl, rfl⟩
                        refine h_run 0 (pc' := 250) (l' := [(0, .inr (.inr 1826)), (1, .inl (f : Int)), (2, .inl (aty H1 (H1.1 1852 ((H1.1 1826 47) - 1).toNat) (H1.1 1853 ((H1.1 1826 47) - 1).toNat)))]) (st' := []) rfl ?_
                        refine h_run 3 (pc' := 253) (l' := [(0, .inr (.inr 1826)), (1, .inl (f : Int)), (2, .inl (aty H1 (H1.1 1852 ((H1.1 1826 47) - 1).toNat) (H1.1 1853 ((H1.1 1826 47) - 1).toNat)))]) (st' := [.inl 1, .inl (aty H1 (H1.1 1852 ((H1.1 1826 47) - 1).toNat) (H1.1 1853 ((H1.1 1826 47) - 1).toNat)), .inr (.inr 1826)]) rfl ?_
                        have g77 : -2147483648 ≤ (H46.1 1826 40) ∧ (H46.1 1826 40) ≤ 2147483647 := hrg47.1 1826 13 40 _ .int rfl rfl
                        have e78 : (H46.1 1826 40) = (H1.1 1826 40) := hx46f.2.2 40 (by decide)
                        refine h_cv (i := 353) (j := 179) (b := 1826) (M' := mt_179) (xs := [.inl 1, .inl (aty H1 (H1.1 1852 ((H1.1 1826 47) - 1).toNat) (H1.1 1853 ((H1.1 1826 47) - 1).toNat))]) (rest := []) rfl rfl rfl rfl rfl rfl (Nat.le_of_ble_eq_true rfl) (Nat.le_of_ble_eq_true rfl) (by omega) (n_patC01 (by omega) (by omega : (2 : Int) ≠ 0) (by omega : 0 ≤ (H46.1 1826 40) ∧ (H46.1 1826 40) ≤ 999)) ?_
                        rintro _ _ ⟨rfl, rfl⟩
                        refine h_run 0 (pc' := 256) (l' := [(0, .inr (.inr 1826)), (1, .inl (f : Int)), (2, .inl (aty H1 (H1.1 1852 ((H1.1 1826 47) - 1).toNat) (H1.1 1853 ((H1.1 1826 47) - 1).toNat)))]) (st' := []) rfl ?_
                        refine h_run 2 (pc' := 22) (l' := [(0, .inr (.inr 1826)), (1, .inl (f : Int)), (2, .inl (aty H1 (H1.1 1852 ((H1.1 1826 47) - 1).toNat) (H1.1 1853 ((H1.1 1826 47) - 1).toNat)))]) (st' := []) rfl ?_
                        have g79 : -2147483648 ≤ (H46.1 1826 30) ∧ (H46.1 1826 30) ≤ 2147483647 := hrg47.1 1826 13 30 _ .int rfl rfl
                        have g80 : -2147483648 ≤ (H46.1 1826 32) ∧ (H46.1 1826 32) ≤ 2147483647 := hrg47.1 1826 13 32 _ .int rfl rfl
                        have g81 : -2147483648 ≤ (H46.1 1826 29) ∧ (H46.1 1826 29) ≤ 2147483647 := hrg47.1 1826 13 29 _ .int rfl rfl
                        have e82 : (H46.1 1826 29) = (H1.1 1826 29) := hx46f.2.2 29 (by decide)
                        have g83 : -2147483648 ≤ (H46.1 1826 47) ∧ (H46.1 1826 47) ≤ 2147483647 := hrg47.1 1826 13 47 _ .int rfl rfl
                        have e84 : (H46.1 1826 47) = (H1.1 1826 47) := hx46f.2.2 47 (by decide)
                        have g85 : -2147483648 ≤ (H46.1 1826 41) ∧ (H46.1 1826 41) ≤ 2147483647 := hrg47.1 1826 13 41 _ .int rfl rfl
                        have e86 : (H46.1 1826 41) = ((H1.1 1826 41) + 1) := hx46f.2.2 41 (by decide)
                        refine h_loc [0, 1] rfl ?_
                        exact ih _ (fr_o (fr_o (fr_o hf48 (by decide)) (by decide)) (by decide)) (by omega : (H.1 1826 30) ≤ (H46.1 1826 30) ∧ (H46.1 1826 30) ≤ (H.1 1826 29)) (by omega : 0 ≤ (2 : Int) ∧ (2 : Int) ≤ 5) (by omega : 0 ≤ (H46.1 1826 32) ∧ (H46.1 1826 32) ≤ 1000) (by omega : (H.1 1826 35) ≠ 0 → (2 : Int) ≠ 0) (fun (q : (2 : Int) = 0) => absurd q (by omega)) (Or.inr ⟨(by omega : (2 : Int) ≠ 0), (BD_mk hR2 (fr_o (fr_o (fr_o (fr_rf [35, 36, 40] [] H46) (by decide)) (by decide)) (by decide)) (by decide) (by decide) (by decide : (2 : Int) ≠ 0) rfl rfl (rch_st hq4 (by show stPat Y (aty H1 ((H1.1 1852) (n - 1)) ((H1.1 1853) (n - 1))) ((n - 1 : Nat) : Int) (spk (H1.1 1852) (up (H1.1 1853) (n - 1) (((H1.1 1853) (n - 1)) + 1)) n ++ K) X1 = _; unfold stPat miss; (repeat (first | rw [if_pos (by omega)] | rw [if_neg (by omega)])); try (first | rfl | (exfalso; omega)))))⟩) (mu_lt hw (by omega) (by omega : (2 : Int) ≠ 0 ∨ ((H1.1 1826 30) ≤ (H46.1 1826 30) ∧ (H46.1 1826 30) ≤ (H.1 1826 29) ∧ (((H46.1 1826 31) = 0 ∧ (H1.1 1826 31) ≠ 0) ∨ (H1.1 1826 30) < (H46.1 1826 30)))))
                    · have b50x : (H46.1 1826 35) ≠ 0 := b50
                      clear hx46g
                      refine h_run 0 (pc' := 234) (l' := [(0, .inr (.inr 1826)), (1, .inl (f : Int)), (2, .inl (aty H1 (H1.1 1852 ((H1.1 1826 47) - 1).toNat) (H1.1 1853 ((H1.1 1826 47) - 1).toNat)))]) (st' := [.inl 0]) rfl ?_
                      refine h_zeq (off := 16) (t := 250) rfl rfl (by decide) (fun _ => ?_) (fun c => absurd c (by decide))
                      refine h_run 3 (pc' := 253) (l' := [(0, .inr (.inr 1826)), (1, .inl (f : Int)), (2, .inl (aty H1 (H1.1 1852 ((H1.1 1826 47) - 1).toNat) (H1.1 1853 ((H1.1 1826 47) - 1).toNat)))]) (st' := [.inl 1, .inl (aty H1 (H1.1 1852 ((H1.1 1826 47) - 1).toNat) (H1.1 1853 ((H1.1 1826 47) - 1).toNat)), .inr (.inr 1826)]) rfl ?_
                      have g87 : -2147483648 ≤ (H46.1 1826 40) ∧ (H46.1 1826 40) ≤ 2147483647 := hrg47.1 1826 13 40 _ .int rfl rfl
                      have e88 : (H46.1 1826 40) = (H1.1 1826 40) := hx46f.2.2 40 (by decide)
                      refine h_cv (i := 353) (j := 179) (b := 1826) (M' := mt_179) (xs := [.inl 1, .inl (aty H1 (H1.1 1852 ((H1.1 1826 47) - 1).toNat) (H1.1 1853 ((H1.1 1826 47) - 1).toNat))]) (rest := []) rfl rfl rfl rfl rfl rfl (Nat.le_of_ble_eq_true rfl) (Nat.le_of_ble_eq_true rfl) (by omega) (n_patC01 (by omega) (by omega : (H46.1 1826 35) ≠ 0) (by omega : 0 ≤ (H46.1 1826 40) ∧ (H46.1 1826 40) ≤ 999)) ?_
                      rintro _ _ ⟨rfl, rfl⟩
                      refine h_run 0 (pc' := 256) (l' := [(0, .inr (.inr 1826)), (1, .inl (f : Int)), (2, .inl (aty H1 (H1.1 1852 ((H1.1 1826 47) - 1).toNat) (H1.1 1853 ((H1.1 1826 47) - 1).toNat)))]) (st' := []) rfl ?_
                      refine h_run 2 (pc' := 22) (l' := [(0, .inr (.inr 1826)), (1, .inl (f : Int)), (2, .inl (aty H1 (H1.1 1852 ((H1.1 1826 47) - 1).toNat) (H1.1 1853 ((H1.1 1826 47) - 1).toNat)))]) (st' := []) rfl ?_
                      have g89 : -2147483648 ≤ (H46.1 1826 30) ∧ (H46.1 1826 30) ≤ 2147483647 := hrg47.1 1826 13 30 _ .int rfl rfl
                      have g90 : -2147483648 ≤ (H46.1 1826 32) ∧ (H46.1 1826 32) ≤ 2147483647 := hrg47.1 1826 13 32 _ .int rfl rfl
                      have g91 : -2147483648 ≤ (H46.1 1826 31) ∧ (H46.1 1826 31) ≤ 2147483647 := hrg47.1 1826 13 31 _ .int rfl rfl
                      have g92 : -2147483648 ≤ (H46.1 1826 29) ∧ (H46.1 1826 29) ≤ 2147483647 := hrg47.1 1826 13 29 _ .int rfl rfl
                      have e93 : (H46.1 1826 29) = (H1.1 1826 29) := hx46f.2.2 29 (by decide)
                      have g94 : -2147483648 ≤ (H46.1 1826 47) ∧ (H46.1 1826 47) ≤ 2147483647 := hrg47.1 1826 13 47 _ .int rfl rfl
                      have e95 : (H46.1 1826 47) = (H1.1 1826 47) := hx46f.2.2 47 (by decide)
                      have g96 : -2147483648 ≤ (H46.1 1826 41) ∧ (H46.1 1826 41) ≤ 2147483647 := hrg47.1 1826 13 41 _ .int rfl rfl
                      have e97 : (H46.1 1826 41) = ((H1.1 1826 41) + 1) := hx46f.2.2 41 (by decide)
                      refine h_loc [0, 1] rfl ?_
                      exact ih _ (fr_o hf48 (by decide)) (by omega : (H.1 1826 30) ≤ (H46.1 1826 30) ∧ (H46.1 1826 30) ≤ (H.1 1826 29)) (by omega : 0 ≤ (H46.1 1826 35) ∧ (H46.1 1826 35) ≤ 5) (by omega : 0 ≤ (H46.1 1826 32) ∧ (H46.1 1826 32) ≤ 1000) (by omega : (H.1 1826 35) ≠ 0 → (H46.1 1826 35) ≠ 0) (fun (q : (H46.1 1826 35) = 0) => absurd q (by omega)) (Or.inr ⟨(by omega : (H46.1 1826 35) ≠ 0), BD_fr (GB_b hx46n (by omega)) (fr_o (fr_rf [40] [] H46) (by decide)) (by decide) (by decide)⟩) (mu_lt hw (by omega) (by omega : (H46.1 1826 35) ≠ 0 ∨ ((H1.1 1826 30) ≤ (H46.1 1826 30) ∧ (H46.1 1826 30) ≤ (H.1 1826 29) ∧ (((H46.1 1826 31) = 0 ∧ (H1.1 1826 31) ≠ 0) ∨ (H1.1 1826 30) < (H46.1 1826 30)))))
              · refine h_run 3 (pc' := 200) (l' := [(0, .inr (.inr 1826)), (1, .inl (f : Int)), (2, .inl (aty H1 (H1.1 1852 ((H1.1 1826 47) - 1).toNat) (H1.1 1853 ((H1.1 1826 47) - 1).toNat)))]) (st' := [.inl 0, .inl (aty H1 (H1.1 1852 ((H1.1 1826 47) - 1).toNat) (H1.1 1853 ((H1.1 1826 47) - 1).toNat)), .inr (.inr 1826)]) rfl ?_
                have g98 : -2147483648 ≤ (H1.1 1826 40) ∧ (H1.1 1826 40) ≤ 2147483647 := hrg1.1 1826 13 40 _ .int rfl rfl
                have g99 : -2147483648 ≤ (H1.1 1826 30) ∧ (H1.1 1826 30) ≤ 2147483647 := hrg1.1 1826 13 30 _ .int rfl rfl
                have g100 : -2147483648 ≤ (H1.1 1826 29) ∧ (H1.1 1826 29) ≤ 2147483647 := hrg1.1 1826 13 29 _ .int rfl rfl
                have e101 : (H1.1 1826 29) = (H.1 1826 29) := hf.2.2 29 (by decide)
                have g102 : -2147483648 ≤ (H1.1 1826 43) ∧ (H1.1 1826 43) ≤ 2147483647 := hrg1.1 1826 13 43 _ .int rfl rfl
                have g103 : -2147483648 ≤ (H1.1 1826 41) ∧ (H1.1 1826 41) ≤ 2147483647 := hrg1.1 1826 13 41 _ .int rfl rfl
                have g105 : -2147483648 ≤ (H1.1 1826 32) ∧ (H1.1 1826 32) ≤ 2147483647 := hrg1.1 1826 13 32 _ .int rfl rfl
                refine h_cv (i := 353) (j := 179) (b := 1826) (M' := mt_179) (xs := [.inl 0, .inl (aty H1 (H1.1 1852 ((H1.1 1826 47) - 1).toNat) (H1.1 1853 ((H1.1 1826 47) - 1).toNat))]) (rest := []) rfl rfl rfl rfl rfl rfl (Nat.le_of_ble_eq_true rfl) (Nat.le_of_ble_eq_true rfl) (by omega) (n_patCon0 (by omega) (by omega : 0 ≤ (H1.1 1826 30) ∧ (H1.1 1826 30) ≤ (H1.1 1826 29) ∧ (H1.1 1826 29) ≤ 1000) (by omega : 0 ≤ (H1.1 1826 35) ∧ (H1.1 1826 35) ≤ 5) (by omega : 0 ≤ (H1.1 1826 32) ∧ (H1.1 1826 32) ≤ 1000) hP1 (by omega : 1 ≤ (H1.1 1826 47) ∧ (H1.1 1826 47) ≤ 63) (by omega : 0 ≤ (H1.1 1826 40) ∧ (H1.1 1826 40) ≤ 999) (by omega : 0 ≤ (H1.1 1826 43) ∧ (H1.1 1826 43) ≤ 46) (by omega : 0 ≤ (H1.1 1853 ((H1.1 1826 47) - 1).toNat) ∧ (H1.1 1853 ((H1.1 1826 47) - 1).toNat) ≤ 1000) (by omega) (by omega : (H1.1 1826 35) = 0) (by omega : (H1.1 1826 40) ≤ 40) (by omega : (H1.1 1826 31) = 2) hR1 hV1 (show rch Y c0 (stPcon Y (aty H1 (H1.1 1852 ((H1.1 1826 47) - 1).toNat) (H1.1 1853 ((H1.1 1826 47) - 1).toNat)) ((n - 1 : Nat) : Int) 0 (cfd Y X1) (spk (H1.1 1852) (up (H1.1 1853) (n - 1) (((H1.1 1853) (n - 1)) + 1)) n ++ K) X1) from (by rw [hidx]; exact (rch_st hq4 (by show stPat Y (aty H1 ((H1.1 1852) (n - 1)) ((H1.1 1853) (n - 1))) ((n - 1 : Nat) : Int) (spk (H1.1 1852) (up (H1.1 1853) (n - 1) (((H1.1 1853) (n - 1)) + 1)) n ++ K) X1 = _; unfold stPat miss; (repeat (first | rw [if_pos (by omega)] | rw [if_neg (by omega)])); try (first | rfl | (exfalso; omega)))))) (lk_app hK spk_ok)) ?_
                rintro _ H104 ⟨rfl, hx104gb, hx104f, hx104a, hx104c, -, hx104e, hx104n, hx104g, hx104p⟩
                refine h_rng (fun hrg106 => ?_)
                have hf107 : fr [30, 31, 32, 33, 35, 36, 39, 40, 41, 43, 47] [1849, 1850, 1851, 1852, 1853] H H104 := fr_t hf hx104f (by decide) (by decide)
                replace hx104a : (H1.1 1826 30) ≤ (H104.1 1826 30) ∧ (H104.1 1826 30) ≤ (H1.1 1826 29) := hx104a
                replace hx104g : (H104.1 1826 35) = 0 → (H104.1 1826 31) = 0 ∨ (H1.1 1826 30) < (H104.1 1826 30) := hx104g
                replace hx104n : 0 ≤ (H104.1 1826 40) ∧ (H104.1 1826 40) ≤ (H1.1 1826 40) + 1 := hx104n
                refine h_run 0 (pc' := 203) (l' := [(0, .inr (.inr 1826)), (1, .inl (f : Int)), (2, .inl (aty H1 (H1.1 1852 ((H1.1 1826 47) - 1).toNat) (H1.1 1853 ((H1.1 1826 47) - 1).toNat)))]) (st' := []) rfl ?_
                refine h_run 2 (pc' := 22) (l' := [(0, .inr (.inr 1826)), (1, .inl (f : Int)), (2, .inl (aty H1 (H1.1 1852 ((H1.1 1826 47) - 1).toNat) (H1.1 1853 ((H1.1 1826 47) - 1).toNat)))]) (st' := []) rfl ?_
                have g108 : -2147483648 ≤ (H104.1 1826 30) ∧ (H104.1 1826 30) ≤ 2147483647 := hrg106.1 1826 13 30 _ .int rfl rfl
                have g109 : -2147483648 ≤ (H104.1 1826 35) ∧ (H104.1 1826 35) ≤ 2147483647 := hrg106.1 1826 13 35 _ .int rfl rfl
                have g110 : -2147483648 ≤ (H104.1 1826 32) ∧ (H104.1 1826 32) ≤ 2147483647 := hrg106.1 1826 13 32 _ .int rfl rfl
                have g111 : -2147483648 ≤ (H104.1 1826 31) ∧ (H104.1 1826 31) ≤ 2147483647 := hrg106.1 1826 13 31 _ .int rfl rfl
                have g112 : -2147483648 ≤ (H104.1 1826 29) ∧ (H104.1 1826 29) ≤ 2147483647 := hrg106.1 1826 13 29 _ .int rfl rfl
                have e113 : (H104.1 1826 29) = (H1.1 1826 29) := hx104f.2.2 29 (by decide)
                have g114 : -2147483648 ≤ (H104.1 1826 47) ∧ (H104.1 1826 47) ≤ 2147483647 := hrg106.1 1826 13 47 _ .int rfl rfl
                have g115 : -2147483648 ≤ (H104.1 1826 41) ∧ (H104.1 1826 41) ≤ 2147483647 := hrg106.1 1826 13 41 _ .int rfl rfl
                have e116 : (H104.1 1826 41) = (H1.1 1826 41) := hx104f.2.2 41 (by decide)
                refine h_loc [0, 1] rfl ?_
                exact ih _ hf107 (by omega : (H.1 1826 30) ≤ (H104.1 1826 30) ∧ (H104.1 1826 30) ≤ (H.1 1826 29)) (by omega : 0 ≤ (H104.1 1826 35) ∧ (H104.1 1826 35) ≤ 5) (by omega : 0 ≤ (H104.1 1826 32) ∧ (H104.1 1826 32) ≤ 1000) (by omega : (H.1 1826 35) ≠ 0 → (H104.1 1826 35) ≠ 0) (fun q => by obtain ⟨c, k1, k2, k3, ⟨k5, k6, k7⟩, k8, k9, k10⟩ := hx104p q; have hcc := (pw1c c (by omega)).1; have es : ((1 : Int) + c - 1).toNat = c := (by omega); rw [hidx] at k10; exact PT_step (q := 0) hPT1 (Or.inl ⟨by omega, by omega⟩) (by rw [ma_c (by omega), es]; omega) (by omega) hno (hx104f.2.1 1833 (by decide) (by decide)) (hx104f.2.1 1830 (by decide) (by decide)) ⟨hx104f.2.2 3 (by decide), hx104f.2.2 8 (by decide)⟩ (by omega) ⟨k5, k6⟩ k8 (Or.inl (hx104f.2.2 39 (by decide))) (Or.inl ⟨rfl, k7, hx104f.2.2 41 (by decide), k9, k10⟩)) (GB_i hx104gb (fun q => q.elim (fun c g => by obtain ⟨⟨g1, g2, g3⟩, ⟨g4, g5, g6⟩, g7, g8, g9⟩ := g; rw [hidx] at g6; exact ⟨_, (by rw [SP_of (H := H104) (n := n) (g4.trans (by omega)) g5 g6]; exact rch_st g7 (by show (if (0 : Int) < ar (xput X1 (1 + (c : Int))) (1 + (c : Int)) then _ else _) = _; rw [if_neg (by rw [ar_put, ar_H hR1 (by omega) (Or.inl ⟨by omega, by omega⟩) (by omega), ma_c (by omega), show ((1 : Int) + c - 1).toNat = c by omega]; omega)])), g8, g9⟩))) (mu_lt hw (by omega) (by omega : (H104.1 1826 35) ≠ 0 ∨ ((H1.1 1826 30) ≤ (H104.1 1826 30) ∧ (H104.1 1826 30) ≤ (H.1 1826 29) ∧ (((H104.1 1826 31) = 0 ∧ (H1.1 1826 31) ≠ 0) ∨ (H1.1 1826 30) < (H104.1 1826 30)))))
            · refine h_run 4 (pc' := 100) (l' := [(0, .inr (.inr 1826)), (1, .inl (f : Int)), (2, .inl (aty H1 (H1.1 1852 ((H1.1 1826 47) - 1).toNat) (H1.1 1853 ((H1.1 1826 47) - 1).toNat)))]) (st' := [.inl (H1.1 1826 8), .inr (.inr 1832)]) rfl ?_
              have g117 : -2147483648 ≤ (H1.1 1826 8) ∧ (H1.1 1826 8) ≤ 2147483647 := hrg1.1 1826 13 8 _ .int rfl rfl
              have e118 : (H1.1 1826 8) = (H.1 1826 8) := hf.2.2 8 (by decide)
              refine h_run 2 (pc' := 104) (l' := [(0, .inr (.inr 1826)), (1, .inl (f : Int)), (2, .inl (aty H1 (H1.1 1852 ((H1.1 1826 47) - 1).toNat) (H1.1 1853 ((H1.1 1826 47) - 1).toNat)))]) (st' := [.inr (.inl (H1.1 1826 33)), .inl (H1.1 1826 8), .inr (.inr 1832)]) rfl ?_
              have g119 : -9223372036854775808 ≤ (H1.1 1826 33) ∧ (H1.1 1826 33) ≤ 9223372036854775807 := hrg1.1 1826 13 33 _ .long rfl rfl
              refine h_cs (i := 309) (j := 167) (M' := mt_167) (xs := [.inr (.inl (H1.1 1826 33)), .inl (H1.1 1826 8), .inr (.inr 1832)]) (rest := []) rfl rfl rfl rfl rfl (Nat.le_of_ble_eq_true rfl) (Nat.le_of_ble_eq_true rfl) (by omega) (n_find (by omega) (m := 16) (z := ffd Y X1) rfl (by omega : 0 ≤ (H1.1 1826 8) ∧ (H1.1 1826 8) ≤ ((16 : Nat) : Int) ∧ 16 ≤ 100) (by omega) (RK_ff hR1 (Or.inl (by omega)))) ?_
              rintro _ _ ⟨⟨k120, rfl, f121, f121x⟩ | ⟨rfl, f121⟩, rfl⟩
              · refine h_run 0 (pc' := 107) (l' := [(0, .inr (.inr 1826)), (1, .inl (f : Int)), (2, .inl (aty H1 (H1.1 1852 ((H1.1 1826 47) - 1).toNat) (H1.1 1853 ((H1.1 1826 47) - 1).toNat)))]) (st' := [.inl (k120 : Int)]) rfl ?_
                refine h_run 1 (pc' := 108) (l' := [(0, .inr (.inr 1826)), (1, .inl (f : Int)), (2, .inl (aty H1 (H1.1 1852 ((H1.1 1826 47) - 1).toNat) (H1.1 1853 ((H1.1 1826 47) - 1).toNat)))]) (st' := [.inl (-1), .inl (k120 : Int)]) rfl ?_
                refine h_ieq (off := 11) (t := 119) rfl rfl (by omega) (by decide) (fun c122 => ?_) (fun c122 => ?_)
                · exfalso
                  omega
                · refine h_run 2 (pc' := 113) (l' := [(0, .inr (.inr 1826)), (1, .inl (f : Int)), (2, .inl (aty H1 (H1.1 1852 ((H1.1 1826 47) - 1).toNat) (H1.1 1853 ((H1.1 1826 47) - 1).toNat)))]) (st' := [.inl 2, .inr (.inr 1826)]) rfl ?_
                  refine h_cv (i := 278) (j := 159) (b := 1826) (M' := mt_159) (xs := [.inl 2]) (rest := []) rfl rfl rfl rfl rfl rfl (Nat.le_of_ble_eq_true rfl) (Nat.le_of_ble_eq_true rfl) (by omega) (m_bad0 (by omega) (by omega) (by omega : (H1.1 1826 35) = 0)) ?_
                  rintro _ _ ⟨rfl, rfl⟩
                  refine h_run 0 (pc' := 116) (l' := [(0, .inr (.inr 1826)), (1, .inl (f : Int)), (2, .inl (aty H1 (H1.1 1852 ((H1.1 1826 47) - 1).toNat) (H1.1 1853 ((H1.1 1826 47) - 1).toNat)))]) (st' := []) rfl ?_
                  refine h_run 2 (pc' := 144) (l' := [(0, .inr (.inr 1826)), (1, .inl (f : Int)), (2, .inl (aty H1 (H1.1 1852 ((H1.1 1826 47) - 1).toNat) (H1.1 1853 ((H1.1 1826 47) - 1).toNat)))]) (st' := [.inr (.inr 1826)]) rfl ?_
                  have g123 : -2147483648 ≤ (H1.1 1826 40) ∧ (H1.1 1826 40) ≤ 2147483647 := hrg1.1 1826 13 40 _ .int rfl rfl
                  refine h_cv (i := 344) (j := 168) (b := 1826) (M' := mt_168) (xs := []) (rest := []) rfl rfl rfl rfl rfl rfl (Nat.le_of_ble_eq_true rfl) (Nat.le_of_ble_eq_true rfl) (by omega) (m_countC (by omega) (by omega : (2 : Int) ≠ 0) (by omega : 0 ≤ (H1.1 1826 40) ∧ (H1.1 1826 40) ≤ 1000)) ?_
                  rintro _ _ ⟨rfl, rfl⟩
                  refine h_run 0 (pc' := 147) (l' := [(0, .inr (.inr 1826)), (1, .inl (f : Int)), (2, .inl (aty H1 (H1.1 1852 ((H1.1 1826 47) - 1).toNat) (H1.1 1853 ((H1.1 1826 47) - 1).toNat)))]) (st' := []) rfl ?_
                  refine h_run 1 (pc' := 148) (l' := [(0, .inr (.inr 1826)), (1, .inl (f : Int)), (2, .inl (aty H1 (H1.1 1852 ((H1.1 1826 47) - 1).toNat) (H1.1 1853 ((H1.1 1826 47) - 1).toNat)))]) (st' := [.inr (.inr 1826)]) rfl ?_
                  refine h_cv (i := 293) (j := 158) (b := 1826) (M' := mt_158) (xs := []) (rest := []) rfl rfl rfl rfl rfl rfl (Nat.le_of_ble_eq_true rfl) (Nat.le_of_ble_eq_true rfl) (by omega) (m_good0 (by omega) (by omega : (2 : Int) ≠ 0)) ?_
                  rintro _ _ ⟨rfl, rfl⟩
                  refine h_run 0 (pc' := 151) (l' := [(0, .inr (.inr 1826)), (1, .inl (f : Int)), (2, .inl (aty H1 (H1.1 1852 ((H1.1 1826 47) - 1).toNat) (H1.1 1853 ((H1.1 1826 47) - 1).toNat)))]) (st' := [.inl 0]) rfl ?_
                  refine h_zeq (off := 113) (t := 264) rfl rfl (by decide) (fun _ => ?_) (fun c => absurd c (by decide))
                  refine h_run 1 (pc' := 22) (l' := [(0, .inr (.inr 1826)), (1, .inl (f : Int)), (2, .inl (aty H1 (H1.1 1852 ((H1.1 1826 47) - 1).toNat) (H1.1 1853 ((H1.1 1826 47) - 1).toNat)))]) (st' := []) rfl ?_
                  have g124 : -2147483648 ≤ (H1.1 1826 30) ∧ (H1.1 1826 30) ≤ 2147483647 := hrg1.1 1826 13 30 _ .int rfl rfl
                  have g125 : -2147483648 ≤ (H1.1 1826 32) ∧ (H1.1 1826 32) ≤ 2147483647 := hrg1.1 1826 13 32 _ .int rfl rfl
                  have g126 : -2147483648 ≤ (H1.1 1826 29) ∧ (H1.1 1826 29) ≤ 2147483647 := hrg1.1 1826 13 29 _ .int rfl rfl
                  have e127 : (H1.1 1826 29) = (H.1 1826 29) := hf.2.2 29 (by decide)
                  have g128 : -2147483648 ≤ (H1.1 1826 41) ∧ (H1.1 1826 41) ≤ 2147483647 := hrg1.1 1826 13 41 _ .int rfl rfl
                  refine h_loc [0, 1] rfl ?_
                  exact ih _ (fr_o (fr_o (fr_o hf (by decide)) (by decide)) (by decide)) (by omega : (H.1 1826 30) ≤ (H1.1 1826 30) ∧ (H1.1 1826 30) ≤ (H.1 1826 29)) (by omega : 0 ≤ (2 : Int) ∧ (2 : Int) ≤ 5) (by omega : 0 ≤ (H1.1 1826 32) ∧ (H1.1 1826 32) ≤ 1000) (by omega : (H.1 1826 35) ≠ 0 → (2 : Int) ≠ 0) (fun (q : (2 : Int) = 0) => absurd q (by omega)) (Or.inr ⟨(by omega : (2 : Int) ≠ 0), (BD_mk hR1 (fr_o (fr_o (fr_o (fr_rf [35, 36, 40] [] H1) (by decide)) (by decide)) (by decide)) (by decide) (by decide) (by decide : (2 : Int) ≠ 0) rfl rfl (rch_st hq4 (by show stPat Y (aty H1 ((H1.1 1852) (n - 1)) ((H1.1 1853) (n - 1))) ((n - 1 : Nat) : Int) (spk (H1.1 1852) (up (H1.1 1853) (n - 1) (((H1.1 1853) (n - 1)) + 1)) n ++ K) X1 = _; unfold stPat miss; (repeat (first | rw [if_pos (by omega)] | rw [if_neg (by omega)])); try (first | rfl | (exfalso; omega)))))⟩) (mu_lt hw (by omega) (by omega : (2 : Int) ≠ 0 ∨ ((H1.1 1826 30) ≤ (H1.1 1826 30) ∧ (H1.1 1826 30) ≤ (H.1 1826 29) ∧ (((H1.1 1826 31) = 0 ∧ (H1.1 1826 31) ≠ 0) ∨ (H1.1 1826 30) < (H1.1 1826 30)))))
              · refine h_run 0 (pc' := 107) (l' := [(0, .inr (.inr 1826)), (1, .inl (f : Int)), (2, .inl (aty H1 (H1.1 1852 ((H1.1 1826 47) - 1).toNat) (H1.1 1853 ((H1.1 1826 47) - 1).toNat)))]) (st' := [.inl (-1)]) rfl ?_
                refine h_run 1 (pc' := 108) (l' := [(0, .inr (.inr 1826)), (1, .inl (f : Int)), (2, .inl (aty H1 (H1.1 1852 ((H1.1 1826 47) - 1).toNat) (H1.1 1853 ((H1.1 1826 47) - 1).toNat)))]) (st' := [.inl (-1), .inl (-1)]) rfl ?_
                refine h_ieq (off := 11) (t := 119) rfl rfl (by decide) (by decide) (fun _ => ?_) (fun c => absurd c (by decide))
                refine h_run 4 (pc' := 127) (l' := [(0, .inr (.inr 1826)), (1, .inl (f : Int)), (2, .inl (aty H1 (H1.1 1852 ((H1.1 1826 47) - 1).toNat) (H1.1 1853 ((H1.1 1826 47) - 1).toNat)))]) (st' := [.inl (H1.1 1826 39), .inr (.inr 1849)]) rfl ?_
                have g129 : -2147483648 ≤ (H1.1 1826 39) ∧ (H1.1 1826 39) ≤ 2147483647 := hrg1.1 1826 13 39 _ .int rfl rfl
                refine h_run 2 (pc' := 131) (l' := [(0, .inr (.inr 1826)), (1, .inl (f : Int)), (2, .inl (aty H1 (H1.1 1852 ((H1.1 1826 47) - 1).toNat) (H1.1 1853 ((H1.1 1826 47) - 1).toNat)))]) (st' := [.inr (.inl (H1.1 1826 33)), .inl (H1.1 1826 39), .inr (.inr 1849)]) rfl ?_
                refine h_cs (i := 309) (j := 167) (M' := mt_167) (xs := [.inr (.inl (H1.1 1826 33)), .inl (H1.1 1826 39), .inr (.inr 1849)]) (rest := []) rfl rfl rfl rfl rfl (Nat.le_of_ble_eq_true rfl) (Nat.le_of_ble_eq_true rfl) (by omega) (n_find (by omega) (m := 48) (z := fnd (X1 10) (X1 0 1) (tn Y (xi X1))) rfl (by omega : 0 ≤ (H1.1 1826 39) ∧ (H1.1 1826 39) ≤ ((48 : Nat) : Int) ∧ 48 ≤ 100) (by omega) (VP_vf hR1 hV1 (Or.inl (by omega)))) ?_
                rintro _ _ ⟨⟨k130, rfl, f131, f131x⟩ | ⟨rfl, f131⟩, rfl⟩
                · refine h_run 0 (pc' := 134) (l' := [(0, .inr (.inr 1826)), (1, .inl (f : Int)), (2, .inl (aty H1 (H1.1 1852 ((H1.1 1826 47) - 1).toNat) (H1.1 1853 ((H1.1 1826 47) - 1).toNat)))]) (st' := [.inl (k130 : Int)]) rfl ?_
                  refine h_run 1 (pc' := 135) (l' := [(0, .inr (.inr 1826)), (1, .inl (f : Int)), (2, .inl (aty H1 (H1.1 1852 ((H1.1 1826 47) - 1).toNat) (H1.1 1853 ((H1.1 1826 47) - 1).toNat)))]) (st' := [.inl (-1), .inl (k130 : Int)]) rfl ?_
                  refine h_ieq (off := 8) (t := 143) rfl rfl (by omega) (by decide) (fun c132 => ?_) (fun c132 => ?_)
                  · exfalso
                    omega
                  · refine h_run 2 (pc' := 140) (l' := [(0, .inr (.inr 1826)), (1, .inl (f : Int)), (2, .inl (aty H1 (H1.1 1852 ((H1.1 1826 47) - 1).toNat) (H1.1 1853 ((H1.1 1826 47) - 1).toNat)))]) (st' := [.inl 3, .inr (.inr 1826)]) rfl ?_
                    refine h_cv (i := 278) (j := 159) (b := 1826) (M' := mt_159) (xs := [.inl 3]) (rest := []) rfl rfl rfl rfl rfl rfl (Nat.le_of_ble_eq_true rfl) (Nat.le_of_ble_eq_true rfl) (by omega) (m_bad0 (by omega) (by omega) (by omega : (H1.1 1826 35) = 0)) ?_
                    rintro _ _ ⟨rfl, rfl⟩
                    refine h_run 0 (pc' := 143) (l' := [(0, .inr (.inr 1826)), (1, .inl (f : Int)), (2, .inl (aty H1 (H1.1 1852 ((H1.1 1826 47) - 1).toNat) (H1.1 1853 ((H1.1 1826 47) - 1).toNat)))]) (st' := []) rfl ?_
                    refine h_run 1 (pc' := 144) (l' := [(0, .inr (.inr 1826)), (1, .inl (f : Int)), (2, .inl (aty H1 (H1.1 1852 ((H1.1 1826 47) - 1).toNat) (H1.1 1853 ((H1.1 1826 47) - 1).toNat)))]) (st' := [.inr (.inr 1826)]) rfl ?_
                    have g133 : -2147483648 ≤ (H1.1 1826 40) ∧ (H1.1 1826 40) ≤ 2147483647 := hrg1.1 1826 13 40 _ .int rfl rfl
                    refine h_cv (i := 344) (j := 168) (b := 1826) (M' := mt_168) (xs := []) (rest := []) rfl rfl rfl rfl rfl rfl (Nat.le_of_ble_eq_true rfl) (Nat.le_of_ble_eq_true rfl) (by omega) (m_countC (by omega) (by omega : (3 : Int) ≠ 0) (by omega : 0 ≤ (H1.1 1826 40) ∧ (H1.1 1826 40) ≤ 1000)) ?_
                    rintro _ _ ⟨rfl, rfl⟩
                    refine h_run 0 (pc' := 147) (l' := [(0, .inr (.inr 1826)), (1, .inl (f : Int)), (2, .inl (aty H1 (H1.1 1852 ((H1.1 1826 47) - 1).toNat) (H1.1 1853 ((H1.1 1826 47) - 1).toNat)))]) (st' := []) rfl ?_
                    refine h_run 1 (pc' := 148) (l' := [(0, .inr (.inr 1826)), (1, .inl (f : Int)), (2, .inl (aty H1 (H1.1 1852 ((H1.1 1826 47) - 1).toNat) (H1.1 1853 ((H1.1 1826 47) - 1).toNat)))]) (st' := [.inr (.inr 1826)]) rfl ?_
                    refine h_cv (i := 293) (j := 158) (b := 1826) (M' := mt_158) (xs := []) (rest := []) rfl rfl rfl rfl rfl rfl (Nat.le_of_ble_eq_true rfl) (Nat.le_of_ble_eq_true rfl) (by omega) (m_good0 (by omega) (by omega : (3 : Int) ≠ 0)) ?_
                    rintro _ _ ⟨rfl, rfl⟩
                    refine h_run 0 (pc' := 151) (l' := [(0, .inr (.inr 1826)), (1, .inl (f : Int)), (2, .inl (aty H1 (H1.1 1852 ((H1.1 1826 47) - 1).toNat) (H1.1 1853 ((H1.1 1826 47) - 1).toNat)))]) (st' := [.inl 0]) rfl ?_
                    refine h_zeq (off := 113) (t := 264) rfl rfl (by decide) (fun _ => ?_) (fun c => absurd c (by decide))
                    refine h_run 1 (pc' := 22) (l' := [(0, .inr (.inr 1826)), (1, .inl (f : Int)), (2, .inl (aty H1 (H1.1 1852 ((H1.1 1826 47) - 1).toNat) (H1.1 1853 ((H1.1 1826 47) - 1).toNat)))]) (st' := []) rfl ?_
                    have g134 : -2147483648 ≤ (H1.1 1826 30) ∧ (H1.1 1826 30) ≤ 2147483647 := hrg1.1 1826 13 30 _ .int rfl rfl
                    have g135 : -2147483648 ≤ (H1.1 1826 32) ∧ (H1.1 1826 32) ≤ 2147483647 := hrg1.1 1826 13 32 _ .int rfl rfl
                    have g136 : -2147483648 ≤ (H1.1 1826 29) ∧ (H1.1 1826 29) ≤ 2147483647 := hrg1.1 1826 13 29 _ .int rfl rfl
                    have e137 : (H1.1 1826 29) = (H.1 1826 29) := hf.2.2 29 (by decide)
                    have g138 : -2147483648 ≤ (H1.1 1826 41) ∧ (H1.1 1826 41) ≤ 2147483647 := hrg1.1 1826 13 41 _ .int rfl rfl
                    refine h_loc [0, 1] rfl ?_
                    exact ih _ (fr_o (fr_o (fr_o hf (by decide)) (by decide)) (by decide)) (by omega : (H.1 1826 30) ≤ (H1.1 1826 30) ∧ (H1.1 1826 30) ≤ (H.1 1826 29)) (by omega : 0 ≤ (3 : Int) ∧ (3 : Int) ≤ 5) (by omega : 0 ≤ (H1.1 1826 32) ∧ (H1.1 1826 32) ≤ 1000) (by omega : (H.1 1826 35) ≠ 0 → (3 : Int) ≠ 0) (fun (q : (3 : Int) = 0) => absurd q (by omega)) (Or.inr ⟨(by omega : (3 : Int) ≠ 0), (BD_mk hR1 (fr_o (fr_o (fr_o (fr_rf [35, 36, 40] [] H1) (by decide)) (by decide)) (by decide)) (by decide) (by decide) (by decide : (3 : Int) ≠ 0) rfl rfl (rch_st hq4 (by show stPat Y (aty H1 ((H1.1 1852) (n - 1)) ((H1.1 1853) (n - 1))) ((n - 1 : Nat) : Int) (spk (H1.1 1852) (up (H1.1 1853) (n - 1) (((H1.1 1853) (n - 1)) + 1)) n ++ K) X1 = _; unfold stPat miss; (repeat (first | rw [if_pos (by omega)] | rw [if_neg (by omega)])); try (first | rfl | (exfalso; omega)))))⟩) (mu_lt hw (by omega) (by omega : (3 : Int) ≠ 0 ∨ ((H1.1 1826 30) ≤ (H1.1 1826 30) ∧ (H1.1 1826 30) ≤ (H.1 1826 29) ∧ (((H1.1 1826 31) = 0 ∧ (H1.1 1826 31) ≠ 0) ∨ (H1.1 1826 30) < (H1.1 1826 30)))))
                · refine h_run 0 (pc' := 134) (l' := [(0, .inr (.inr 1826)), (1, .inl (f : Int)), (2, .inl (aty H1 (H1.1 1852 ((H1.1 1826 47) - 1).toNat) (H1.1 1853 ((H1.1 1826 47) - 1).toNat)))]) (st' := [.inl (-1)]) rfl ?_
                  refine h_run 1 (pc' := 135) (l' := [(0, .inr (.inr 1826)), (1, .inl (f : Int)), (2, .inl (aty H1 (H1.1 1852 ((H1.1 1826 47) - 1).toNat) (H1.1 1853 ((H1.1 1826 47) - 1).toNat)))]) (st' := [.inl (-1), .inl (-1)]) rfl ?_
                  refine h_ieq (off := 8) (t := 143) rfl rfl (by decide) (by decide) (fun _ => ?_) (fun c => absurd c (by decide))
                  refine h_run 1 (pc' := 144) (l' := [(0, .inr (.inr 1826)), (1, .inl (f : Int)), (2, .inl (aty H1 (H1.1 1852 ((H1.1 1826 47) - 1).toNat) (H1.1 1853 ((H1.1 1826 47) - 1).toNat)))]) (st' := [.inr (.inr 1826)]) rfl ?_
                  have g139 : -2147483648 ≤ (H1.1 1826 40) ∧ (H1.1 1826 40) ≤ 2147483647 := hrg1.1 1826 13 40 _ .int rfl rfl
                  by_cases b140 : (H1.1 1826 40) = 40
                  · refine h_cv (i := 344) (j := 168) (b := 1826) (M' := mt_168) (xs := []) (rest := []) rfl rfl rfl rfl rfl rfl (Nat.le_of_ble_eq_true rfl) (Nat.le_of_ble_eq_true rfl) (by omega) (m_countB (by omega) (by omega : (H1.1 1826 35) = 0) (by omega : (H1.1 1826 40) = 40)) ?_
                    rintro _ _ ⟨rfl, rfl⟩
                    refine h_run 0 (pc' := 147) (l' := [(0, .inr (.inr 1826)), (1, .inl (f : Int)), (2, .inl (aty H1 (H1.1 1852 ((H1.1 1826 47) - 1).toNat) (H1.1 1853 ((H1.1 1826 47) - 1).toNat)))]) (st' := []) rfl ?_
                    refine h_run 1 (pc' := 148) (l' := [(0, .inr (.inr 1826)), (1, .inl (f : Int)), (2, .inl (aty H1 (H1.1 1852 ((H1.1 1826 47) - 1).toNat) (H1.1 1853 ((H1.1 1826 47) - 1).toNat)))]) (st' := [.inr (.inr 1826)]) rfl ?_
                    refine h_cv (i := 293) (j := 158) (b := 1826) (M' := mt_158) (xs := []) (rest := []) rfl rfl rfl rfl rfl rfl (Nat.le_of_ble_eq_true rfl) (Nat.le_of_ble_eq_true rfl) (by omega) (m_good0 (by omega) (by omega : (5 : Int) ≠ 0)) ?_
                    rintro _ _ ⟨rfl, rfl⟩
                    refine h_run 0 (pc' := 151) (l' := [(0, .inr (.inr 1826)), (1, .inl (f : Int)), (2, .inl (aty H1 (H1.1 1852 ((H1.1 1826 47) - 1).toNat) (H1.1 1853 ((H1.1 1826 47) - 1).toNat)))]) (st' := [.inl 0]) rfl ?_
                    refine h_zeq (off := 113) (t := 264) rfl rfl (by decide) (fun _ => ?_) (fun c => absurd c (by decide))
                    refine h_run 1 (pc' := 22) (l' := [(0, .inr (.inr 1826)), (1, .inl (f : Int)), (2, .inl (aty H1 (H1.1 1852 ((H1.1 1826 47) - 1).toNat) (H1.1 1853 ((H1.1 1826 47) - 1).toNat)))]) (st' := []) rfl ?_
                    have g141 : -2147483648 ≤ (H1.1 1826 30) ∧ (H1.1 1826 30) ≤ 2147483647 := hrg1.1 1826 13 30 _ .int rfl rfl
                    have g142 : -2147483648 ≤ (H1.1 1826 32) ∧ (H1.1 1826 32) ≤ 2147483647 := hrg1.1 1826 13 32 _ .int rfl rfl
                    have g143 : -2147483648 ≤ (H1.1 1826 29) ∧ (H1.1 1826 29) ≤ 2147483647 := hrg1.1 1826 13 29 _ .int rfl rfl
                    have e144 : (H1.1 1826 29) = (H.1 1826 29) := hf.2.2 29 (by decide)
                    have g145 : -2147483648 ≤ (H1.1 1826 41) ∧ (H1.1 1826 41) ≤ 2147483647 := hrg1.1 1826 13 41 _ .int rfl rfl
                    refine h_loc [0, 1] rfl ?_
                    exact ih _ (fr_o (fr_o (fr_o hf (by decide)) (by decide)) (by decide)) (by omega : (H.1 1826 30) ≤ (H1.1 1826 30) ∧ (H1.1 1826 30) ≤ (H.1 1826 29)) (by omega : 0 ≤ (5 : Int) ∧ (5 : Int) ≤ 5) (by omega : 0 ≤ (H1.1 1826 32) ∧ (H1.1 1826 32) ≤ 1000) (by omega : (H.1 1826 35) ≠ 0 → (5 : Int) ≠ 0) (fun (q : (5 : Int) = 0) => absurd q (by omega)) (Or.inr ⟨(by omega : (5 : Int) ≠ 0), (BD_mk hR1 (fr_o (fr_o (fr_o (fr_rf [35, 36, 40] [] H1) (by decide)) (by decide)) (by decide)) (by decide) (by decide) (by decide : (5 : Int) ≠ 0) rfl rfl (rch_st hq4 (by show stPat Y (aty H1 ((H1.1 1852) (n - 1)) ((H1.1 1853) (n - 1))) ((n - 1 : Nat) : Int) (spk (H1.1 1852) (up (H1.1 1853) (n - 1) (((H1.1 1853) (n - 1)) + 1)) n ++ K) X1 = _; unfold stPat miss; (repeat (first | rw [if_pos (by omega)] | rw [if_neg (by omega)])); try (first | rfl | (exfalso; omega)))))⟩) (mu_lt hw (by omega) (by omega : (5 : Int) ≠ 0 ∨ ((H1.1 1826 30) ≤ (H1.1 1826 30) ∧ (H1.1 1826 30) ≤ (H.1 1826 29) ∧ (((H1.1 1826 31) = 0 ∧ (H1.1 1826 31) ≠ 0) ∨ (H1.1 1826 30) < (H1.1 1826 30)))))
                  · refine h_cv (i := 344) (j := 168) (b := 1826) (M' := mt_168) (xs := []) (rest := []) rfl rfl rfl rfl rfl rfl (Nat.le_of_ble_eq_true rfl) (Nat.le_of_ble_eq_true rfl) (by omega) (m_countA (by omega) (by omega : (H1.1 1826 35) = 0) (by omega : 0 ≤ (H1.1 1826 40) ∧ (H1.1 1826 40) ≤ 1000) (by omega : (H1.1 1826 40) ≠ 40)) ?_
                    rintro _ _ ⟨rfl, rfl⟩
                    refine h_run 0 (pc' := 147) (l' := [(0, .inr (.inr 1826)), (1, .inl (f : Int)), (2, .inl (aty H1 (H1.1 1852 ((H1.1 1826 47) - 1).toNat) (H1.1 1853 ((H1.1 1826 47) - 1).toNat)))]) (st' := []) rfl ?_
                    refine h_run 1 (pc' := 148) (l' := [(0, .inr (.inr 1826)), (1, .inl (f : Int)), (2, .inl (aty H1 (H1.1 1852 ((H1.1 1826 47) - 1).toNat) (H1.1 1853 ((H1.1 1826 47) - 1).toNat)))]) (st' := [.inr (.inr 1826)]) rfl ?_
                    refine h_cv (i := 293) (j := 158) (b := 1826) (M' := mt_158) (xs := []) (rest := []) rfl rfl rfl rfl rfl rfl (Nat.le_of_ble_eq_true rfl) (Nat.le_of_ble_eq_true rfl) (by omega) (m_good1 (by omega) (by omega : (H1.1 1826 35) = 0)) ?_
                    rintro _ _ ⟨rfl, rfl⟩
                    refine h_run 0 (pc' := 151) (l' := [(0, .inr (.inr 1826)), (1, .inl (f : Int)), (2, .inl (aty H1 (H1.1 1852 ((H1.1 1826 47) - 1).toNat) (H1.1 1853 ((H1.1 1826 47) - 1).toNat)))]) (st' := [.inl 1]) rfl ?_
                    refine h_zeq (off := 113) (t := 264) rfl rfl (by decide) (fun c => absurd c (by decide)) (fun _ => ?_)
                    refine h_run 4 (pc' := 160) (l' := [(0, .inr (.inr 1826)), (1, .inl (f : Int)), (2, .inl (aty H1 (H1.1 1852 ((H1.1 1826 47) - 1).toNat) (H1.1 1853 ((H1.1 1826 47) - 1).toNat)))]) (st' := [.inl (aty H1 (H1.1 1852 ((H1.1 1826 47) - 1).toNat) (H1.1 1853 ((H1.1 1826 47) - 1).toNat)), .inr (.inr 1826), .inl 1000, .inr (.inr 1826)]) rfl ?_
                    refine h_cv (i := 347) (j := 177) (b := 1826) (M' := mt_177) (xs := [.inl (aty H1 (H1.1 1852 ((H1.1 1826 47) - 1).toNat) (H1.1 1853 ((H1.1 1826 47) - 1).toNat))]) (rest := [.inl 1000, .inr (.inr 1826)]) rfl rfl rfl rfl rfl rfl (Nat.le_of_ble_eq_true rfl) (Nat.le_of_ble_eq_true rfl) (by omega) (m_addVariable (by omega) (by omega : 0 ≤ (H1.1 1826 39) ∧ (H1.1 1826 39) ≤ 47) (by omega)) ?_
                    rintro _ _ ⟨rfl, rfl⟩
                    refine h_run 0 (pc' := 163) (l' := [(0, .inr (.inr 1826)), (1, .inl (f : Int)), (2, .inl (aty H1 (H1.1 1852 ((H1.1 1826 47) - 1).toNat) (H1.1 1853 ((H1.1 1826 47) - 1).toNat)))]) (st' := [.inl (((H1.1 1826 39) + 1) - 1), .inl 1000, .inr (.inr 1826)]) rfl ?_
                    refine h_run 1 (pc' := 164) (l' := [(0, .inr (.inr 1826)), (1, .inl (f : Int)), (2, .inl (aty H1 (H1.1 1852 ((H1.1 1826 47) - 1).toNat) (H1.1 1853 ((H1.1 1826 47) - 1).toNat)))]) (st' := [.inl (1000 + (((H1.1 1826 39) + 1) - 1)), .inr (.inr 1826)]) rfl ?_
                    have g146 : -2147483648 ≤ (H1.1 1826 43) ∧ (H1.1 1826 43) ≤ 2147483647 := hrg1.1 1826 13 43 _ .int rfl rfl
                    refine h_cv (i := 350) (j := 169) (b := 1826) (M' := mt_169) (xs := [.inl (1000 + (((H1.1 1826 39) + 1) - 1))]) (rest := []) rfl rfl rfl rfl rfl rfl (Nat.le_of_ble_eq_true rfl) (Nat.le_of_ble_eq_true rfl) (by omega) (m_put1 (by omega) (by omega : (H1.1 1826 35) = 0) (by omega : 0 ≤ (H1.1 1826 43) ∧ (H1.1 1826 43) ≤ 47) (by omega)) ?_
                    rintro _ _ ⟨rfl, rfl⟩
                    refine h_run 0 (pc' := 167) (l' := [(0, .inr (.inr 1826)), (1, .inl (f : Int)), (2, .inl (aty H1 (H1.1 1852 ((H1.1 1826 47) - 1).toNat) (H1.1 1853 ((H1.1 1826 47) - 1).toNat)))]) (st' := []) rfl ?_
                    refine h_run 4 (pc' := 175) (l' := [(0, .inr (.inr 1826)), (1, .inl (f : Int)), (2, .inl (aty H1 (H1.1 1852 ((H1.1 1826 47) - 1).toNat) (H1.1 1853 ((H1.1 1826 47) - 1).toNat)))]) (st' := [.inl (H1.1 1826 47), .inr (.inr 1853)]) rfl ?_
                    refine h_run 3 (pc' := 178) (l' := [(0, .inr (.inr 1826)), (1, .inl (f : Int)), (2, .inl (aty H1 (H1.1 1852 ((H1.1 1826 47) - 1).toNat) (H1.1 1853 ((H1.1 1826 47) - 1).toNat)))]) (st' := [.inl ((H1.1 1826 47) - 1), .inr (.inr 1853), .inl ((H1.1 1826 47) - 1), .inr (.inr 1853)]) rfl ?_
                    refine h_ild (c := 1853) (j := (((H1.1 1826 47) - 1)).toNat) (i := ((H1.1 1826 47) - 1)) rfl rfl (by decide) (by omega) (by omega) ?_
                    have g147 : -2147483648 ≤ (H1.1 1853 (((H1.1 1826 47) - 1)).toNat) ∧ (H1.1 1853 (((H1.1 1826 47) - 1)).toNat) ≤ 2147483647 := hrg1.2 1853 (((H1.1 1826 47) - 1)).toNat 64 .int rfl (by omega)
                    refine h_run 0 (pc' := 179) (l' := [(0, .inr (.inr 1826)), (1, .inl (f : Int)), (2, .inl (aty H1 (H1.1 1852 ((H1.1 1826 47) - 1).toNat) (H1.1 1853 ((H1.1 1826 47) - 1).toNat)))]) (st' := [.inl (H1.1 1853 (((H1.1 1826 47) - 1)).toNat), .inl ((H1.1 1826 47) - 1), .inr (.inr 1853)]) rfl ?_
                    refine h_run 2 (pc' := 181) (l' := [(0, .inr (.inr 1826)), (1, .inl (f : Int)), (2, .inl (aty H1 (H1.1 1852 ((H1.1 1826 47) - 1).toNat) (H1.1 1853 ((H1.1 1826 47) - 1).toNat)))]) (st' := [.inl ((H1.1 1853 (((H1.1 1826 47) - 1)).toNat) + 1), .inl ((H1.1 1826 47) - 1), .inr (.inr 1853)]) rfl ?_
                    refine h_ist (c := 1853) (j := (((H1.1 1826 47) - 1)).toNat) (i := ((H1.1 1826 47) - 1)) (x := ((H1.1 1853 (((H1.1 1826 47) - 1)).toNat) + 1)) rfl rfl (by decide) (by decide) (by omega) (by omega) (by omega) ?_
                    have hq9 : rch Y c0 ((spk (H1.1 1852) (up (H1.1 1853) (n - 1) (((H1.1 1853) (n - 1)) + 1)) n ++ K), xput (xvar X1 (tn Y (xi X1)) (aty H1 ((H1.1 1852) (n - 1)) ((H1.1 1853) (n - 1)))) (1000 + (((H1.1 1826 39) + 1) - 1))) := by rw [show (1000 + (((H1.1 1826 39) + 1) - 1)) = 1000 + X1 0 1 by omega]; exact (rch_st hq4 (by show stPat Y (aty H1 ((H1.1 1852) (n - 1)) ((H1.1 1853) (n - 1))) ((n - 1 : Nat) : Int) (spk (H1.1 1852) (up (H1.1 1853) (n - 1) (((H1.1 1853) (n - 1)) + 1)) n ++ K) X1 = _; unfold stPat miss; (repeat (first | rw [if_pos (by omega)] | rw [if_neg (by omega)])); try (first | rfl | (exfalso; omega))))
                    refine h_run 1 (pc' := 183) (l' := [(0, .inr (.inr 1826)), (1, .inl (f : Int)), (2, .inl (aty H1 (H1.1 1852 ((H1.1 1826 47) - 1).toNat) (H1.1 1853 ((H1.1 1826 47) - 1).toNat)))]) (st' := [.inr (.inr 1826)]) rfl ?_
                    have g148 : -2147483648 ≤ (H1.1 1826 30) ∧ (H1.1 1826 30) ≤ 2147483647 := hrg1.1 1826 13 30 _ .int rfl rfl
                    have g149 : -2147483648 ≤ (H1.1 1826 29) ∧ (H1.1 1826 29) ≤ 2147483647 := hrg1.1 1826 13 29 _ .int rfl rfl
                    have e150 : (H1.1 1826 29) = (H.1 1826 29) := hf.2.2 29 (by decide)
                    have g151 : -2147483648 ≤ (H1.1 1826 32) ∧ (H1.1 1826 32) ≤ 2147483647 := hrg1.1 1826 13 32 _ .int rfl rfl
                    refine h_cv (i := 297) (j := 165) (b := 1826) (M' := mt_165) (xs := []) (rest := []) rfl rfl rfl rfl rfl rfl (Nat.le_of_ble_eq_true rfl) (Nat.le_of_ble_eq_true rfl) (by omega) (n_nx (by omega) (by omega : 0 ≤ (H1.1 1826 30) ∧ (H1.1 1826 30) ≤ (H1.1 1826 29) ∧ (H1.1 1826 29) ≤ 1000) (by omega : 0 ≤ (H1.1 1826 35) ∧ (H1.1 1826 35) ≤ 5) (by omega : 0 ≤ (H1.1 1826 32) ∧ (H1.1 1826 32) ≤ 1000) (by omega : (H1.1 1826 35) = 0) (X := (xput (xvar X1 (tn Y (xi X1)) (aty H1 ((H1.1 1852) (n - 1)) ((H1.1 1853) (n - 1)))) (1000 + (((H1.1 1826 39) + 1) - 1)))) (RN_mk hR1 (fr_a (fr_o (fr_a (fr_o (fr_a (fr_a (fr_o (fr_rf [39, 40, 43] [1849, 1850, 1851, 1853] H1) (by decide)) (by decide)) (by decide)) (by decide)) (by decide)) (by decide)) (by decide)) (by decide) (by decide) (xpv_0 _ _ _ _).1 (TA_sT (TA_fr hR1.2.2.2.2 (fr_a (fr_o (fr_a (fr_o (fr_a (fr_a (fr_o (fr_rf [39, 40, 43] [1849, 1850, 1851, 1853] H1) (by decide)) (by decide)) (by decide)) (by decide)) (by decide)) (by decide)) (by decide)) (by decide) (by decide)) (sT_tr (sT_var X1 _ _) (sT_put _ _)))) hq9 (lk_app hK spk_ok)) ?_
                    rintro _ H152 ⟨rfl, hx152n, hx152f, hx152a, hx152b, hx152c, -, hx152e, hx152g⟩
                    refine h_rng (fun hrg153 => ?_)
                    have hf154 : fr [30, 31, 32, 33, 35, 36, 39, 40, 41, 43, 47] [1849, 1850, 1851, 1852, 1853] H H152 := fr_t (fr_a (fr_o (fr_a (fr_o (fr_a (fr_a (fr_o hf (by decide)) (by decide)) (by decide)) (by decide)) (by decide)) (by decide)) (by decide)) hx152f (by decide) (by decide)
                    replace hx152a : (H1.1 1826 30) ≤ (H152.1 1826 30) := hx152a
                    replace hx152b : (H152.1 1826 30) ≤ (H1.1 1826 29) := hx152b
                    replace hx152g : (H152.1 1826 35) = 0 → ((H152.1 1826 31) = 0 ∨ (H1.1 1826 30) < (H152.1 1826 30)) := hx152g
                    refine h_run 0 (pc' := 186) (l' := [(0, .inr (.inr 1826)), (1, .inl (f : Int)), (2, .inl (aty H1 (H1.1 1852 ((H1.1 1826 47) - 1).toNat) (H1.1 1853 ((H1.1 1826 47) - 1).toNat)))]) (st' := []) rfl ?_
                    refine h_run 2 (pc' := 22) (l' := [(0, .inr (.inr 1826)), (1, .inl (f : Int)), (2, .inl (aty H1 (H1.1 1852 ((H1.1 1826 47) - 1).toNat) (H1.1 1853 ((H1.1 1826 47) - 1).toNat)))]) (st' := []) rfl ?_
                    have g155 : -2147483648 ≤ (H152.1 1826 30) ∧ (H152.1 1826 30) ≤ 2147483647 := hrg153.1 1826 13 30 _ .int rfl rfl
                    have g156 : -2147483648 ≤ (H152.1 1826 35) ∧ (H152.1 1826 35) ≤ 2147483647 := hrg153.1 1826 13 35 _ .int rfl rfl
                    have g157 : -2147483648 ≤ (H152.1 1826 32) ∧ (H152.1 1826 32) ≤ 2147483647 := hrg153.1 1826 13 32 _ .int rfl rfl
                    have g158 : -2147483648 ≤ (H152.1 1826 31) ∧ (H152.1 1826 31) ≤ 2147483647 := hrg153.1 1826 13 31 _ .int rfl rfl
                    have g159 : -2147483648 ≤ (H152.1 1826 29) ∧ (H152.1 1826 29) ≤ 2147483647 := hrg153.1 1826 13 29 _ .int rfl rfl
                    have e160 : (H152.1 1826 29) = (H1.1 1826 29) := hx152f.2.2 29 (by decide)
                    have g161 : -2147483648 ≤ (H152.1 1826 47) ∧ (H152.1 1826 47) ≤ 2147483647 := hrg153.1 1826 13 47 _ .int rfl rfl
                    have e162 : (H152.1 1826 47) = (H1.1 1826 47) := hx152f.2.2 47 (by decide)
                    have g163 : -2147483648 ≤ (H152.1 1826 41) ∧ (H152.1 1826 41) ≤ 2147483647 := hrg153.1 1826 13 41 _ .int rfl rfl
                    have e164 : (H152.1 1826 41) = (H1.1 1826 41) := hx152f.2.2 41 (by decide)
                    refine h_loc [0, 1] rfl ?_
                    exact ih _ hf154 (by omega : (H.1 1826 30) ≤ (H152.1 1826 30) ∧ (H152.1 1826 30) ≤ (H.1 1826 29)) (by omega : 0 ≤ (H152.1 1826 35) ∧ (H152.1 1826 35) ≤ 5) (by omega : 0 ≤ (H152.1 1826 32) ∧ (H152.1 1826 32) ≤ 1000) (by omega : (H.1 1826 35) ≠ 0 → (H152.1 1826 35) ≠ 0) (fun _ => PT_step (q := 0) hPT1 (Or.inr ⟨(by omega : 1000 ≤ 1000 + ((H1.1 1826 39) + 1 - 1)), by omega⟩) (ma_0 (by omega)) (by omega) hno (hx152f.2.1 1833 (by decide) (by decide)) (hx152f.2.1 1830 (by decide) (by decide)) ⟨hx152f.2.2 3 (by decide), hx152f.2.2 8 (by decide)⟩ (by omega) ⟨hx152f.2.2 40 (by decide), hx152f.2.2 43 (by decide)⟩ (hx152f.2.1 1851 (by decide) (by decide)) (Or.inr ⟨hx152f.2.2 39 (by decide), by omega⟩) (Or.inl ⟨rfl, hx152f.2.2 47 (by decide), hx152f.2.2 41 (by decide), hx152f.2.1 1852 (by decide) (by decide), by rw [← hidx]; exact hx152f.2.1 1853 (by decide) (by decide)⟩)) (GB_i hx152n (fun q => ⟨_, (by rw [SP_of (H := H152) (ou := (H1.1 1852)) (no := up (H1.1 1853) (n - 1) (((H1.1 1853) (n - 1)) + 1)) (n := n) (show (H152.1 1826 47) = (n : Int) by omega) (hx152f.2.1 1852 (by decide) (by decide)) (by rw [← hidx]; exact (hx152f.2.1 1853 (by decide) (by decide)))]; exact hq9), q, VP_var hV1 (hx152f.2.2 40 (by decide)) (hx152f.2.2 39 (by decide)) (by rw [← RK_n hR1 (Or.inl (by omega))]; exact (hx152f.2.1 1849 (by decide) (by decide))) (by rw [← hidx]; exact (hx152f.2.1 1850 (by decide) (by decide))) (hx152f.2.2 43 (by decide)) (hx152f.2.1 1851 (by decide) (by decide))⟩)) (mu_lt hw (by omega) (by omega : (H152.1 1826 35) ≠ 0 ∨ ((H1.1 1826 30) ≤ (H152.1 1826 30) ∧ (H152.1 1826 30) ≤ (H.1 1826 29) ∧ (((H152.1 1826 31) = 0 ∧ (H1.1 1826 31) ≠ 0) ∨ (H1.1 1826 30) < (H152.1 1826 30)))))
          · have hno : ma (H1.1 1833) (H1.1 1830) ((H1.1 1852) (n - 1)) ≤ (H1.1 1853) (n - 1) := by rw [← hidx]; omega
            have hqw : rch Y c0 ((1, 41, 0, 0) :: (spk (H1.1 1852) (H1.1 1853) (n - 1) ++ K), X1) := rch_st hq1 (by show (if ((H1.1 1853) (n - 1)) < ar X1 ((H1.1 1852) (n - 1)) then _ else _) = _; rw [if_neg (by omega), if_neg (by omega)]; rfl)
            refine h_run 2 (pc' := 58) (l' := [(0, .inr (.inr 1826)), (1, .inl (f : Int)), (2, .inl (aty H1 (H1.1 1852 ((H1.1 1826 47) - 1).toNat) (H1.1 1853 ((H1.1 1826 47) - 1).toNat)))]) (st' := [.inl 41, .inr (.inr 1826)]) rfl ?_
            have g165 : -2147483648 ≤ (H1.1 1826 30) ∧ (H1.1 1826 30) ≤ 2147483647 := hrg1.1 1826 13 30 _ .int rfl rfl
            have g166 : -2147483648 ≤ (H1.1 1826 29) ∧ (H1.1 1826 29) ≤ 2147483647 := hrg1.1 1826 13 29 _ .int rfl rfl
            have e167 : (H1.1 1826 29) = (H.1 1826 29) := hf.2.2 29 (by decide)
            have g168 : -2147483648 ≤ (H1.1 1826 31) ∧ (H1.1 1826 31) ≤ 2147483647 := hrg1.1 1826 13 31 _ .int rfl rfl
            have g170 : -2147483648 ≤ (H1.1 1826 32) ∧ (H1.1 1826 32) ≤ 2147483647 := hrg1.1 1826 13 32 _ .int rfl rfl
            refine h_cv (i := 313) (j := 166) (b := 1826) (M' := mt_166) (xs := [.inl 41]) (rest := []) rfl rfl rfl rfl rfl rfl (Nat.le_of_ble_eq_true rfl) (Nat.le_of_ble_eq_true rfl) (by omega) (n_want (by omega) (by omega : 0 ≤ (H1.1 1826 30) ∧ (H1.1 1826 30) ≤ (H1.1 1826 29) ∧ (H1.1 1826 29) ≤ 1000) (by omega : 0 ≤ (H1.1 1826 35) ∧ (H1.1 1826 35) ≤ 5) (by omega : 0 ≤ (H1.1 1826 32) ∧ (H1.1 1826 32) ≤ 1000) (by omega) (by omega : (H1.1 1826 35) = 0) hR1 hqw (lk_app hK spk_ok)) ?_
            rintro _ H169 ⟨rfl, hx169n, hx169f, hx169a, hx169b, hx169c, -, hx169e, hx169g⟩
            refine h_rng (fun hrg171 => ?_)
            have hf172 : fr [30, 31, 32, 33, 35, 36, 39, 40, 41, 43, 47] [1849, 1850, 1851, 1852, 1853] H H169 := fr_t hf hx169f (by decide) (by decide)
            replace hx169a : (H1.1 1826 30) ≤ (H169.1 1826 30) := hx169a
            replace hx169b : (H169.1 1826 30) ≤ (H1.1 1826 29) := hx169b
            replace hx169g : (H169.1 1826 35) = 0 → (H1.1 1826 31) = (41 : Int) ∧ ((H169.1 1826 31) = 0 ∨ (H1.1 1826 30) < (H169.1 1826 30)) := hx169g
            refine h_run 0 (pc' := 61) (l' := [(0, .inr (.inr 1826)), (1, .inl (f : Int)), (2, .inl (aty H1 (H1.1 1852 ((H1.1 1826 47) - 1).toNat) (H1.1 1853 ((H1.1 1826 47) - 1).toNat)))]) (st' := []) rfl ?_
            refine h_run 3 (pc' := 66) (l' := [(0, .inr (.inr 1826)), (1, .inl (f : Int)), (2, .inl (aty H1 (H1.1 1852 ((H1.1 1826 47) - 1).toNat) (H1.1 1853 ((H1.1 1826 47) - 1).toNat)))]) (st' := [.inl (H169.1 1826 41), .inr (.inr 1826)]) rfl ?_
            have g173 : -2147483648 ≤ (H169.1 1826 41) ∧ (H169.1 1826 41) ≤ 2147483647 := hrg171.1 1826 13 41 _ .int rfl rfl
            have e174 : (H169.1 1826 41) = (H1.1 1826 41) := hx169f.2.2 41 (by decide)
            refine h_run 2 (pc' := 68) (l' := [(0, .inr (.inr 1826)), (1, .inl (f : Int)), (2, .inl (aty H1 (H1.1 1852 ((H1.1 1826 47) - 1).toNat) (H1.1 1853 ((H1.1 1826 47) - 1).toNat)))]) (st' := [.inl ((H169.1 1826 41) - 1), .inr (.inr 1826)]) rfl ?_
            refine h_puti (i := 335) (ci := 13) (k := 41) (a := 1826) (x := ((H169.1 1826 41) - 1)) rfl rfl rfl rfl rfl rfl (by decide) (by omega) ?_
            refine h_run 3 (pc' := 76) (l' := [(0, .inr (.inr 1826)), (1, .inl (f : Int)), (2, .inl (aty H1 (H1.1 1852 ((H1.1 1826 47) - 1).toNat) (H1.1 1853 ((H1.1 1826 47) - 1).toNat)))]) (st' := [.inl (H169.1 1826 47), .inr (.inr 1826)]) rfl ?_
            have g175 : -2147483648 ≤ (H169.1 1826 47) ∧ (H169.1 1826 47) ≤ 2147483647 := hrg171.1 1826 13 47 _ .int rfl rfl
            have e176 : (H169.1 1826 47) = (H1.1 1826 47) := hx169f.2.2 47 (by decide)
            refine h_run 2 (pc' := 78) (l' := [(0, .inr (.inr 1826)), (1, .inl (f : Int)), (2, .inl (aty H1 (H1.1 1852 ((H1.1 1826 47) - 1).toNat) (H1.1 1853 ((H1.1 1826 47) - 1).toNat)))]) (st' := [.inl ((H169.1 1826 47) - 1), .inr (.inr 1826)]) rfl ?_
            refine h_puti (i := 328) (ci := 13) (k := 47) (a := 1826) (x := ((H169.1 1826 47) - 1)) rfl rfl rfl rfl rfl rfl (by decide) (by omega) ?_
            refine h_run 2 (pc' := 22) (l' := [(0, .inr (.inr 1826)), (1, .inl (f : Int)), (2, .inl (aty H1 (H1.1 1852 ((H1.1 1826 47) - 1).toNat) (H1.1 1853 ((H1.1 1826 47) - 1).toNat)))]) (st' := []) rfl ?_
            have g177 : -2147483648 ≤ (H169.1 1826 30) ∧ (H169.1 1826 30) ≤ 2147483647 := hrg171.1 1826 13 30 _ .int rfl rfl
            have g178 : -2147483648 ≤ (H169.1 1826 35) ∧ (H169.1 1826 35) ≤ 2147483647 := hrg171.1 1826 13 35 _ .int rfl rfl
            have g179 : -2147483648 ≤ (H169.1 1826 32) ∧ (H169.1 1826 32) ≤ 2147483647 := hrg171.1 1826 13 32 _ .int rfl rfl
            have g180 : -2147483648 ≤ (H169.1 1826 31) ∧ (H169.1 1826 31) ≤ 2147483647 := hrg171.1 1826 13 31 _ .int rfl rfl
            have g181 : -2147483648 ≤ (H169.1 1826 29) ∧ (H169.1 1826 29) ≤ 2147483647 := hrg171.1 1826 13 29 _ .int rfl rfl
            have e182 : (H169.1 1826 29) = (H1.1 1826 29) := hx169f.2.2 29 (by decide)
            refine h_loc [0, 1] rfl ?_
            exact ih _ (fr_o (fr_o hf172 (by decide)) (by decide)) (by omega : (H.1 1826 30) ≤ (H169.1 1826 30) ∧ (H169.1 1826 30) ≤ (H.1 1826 29)) (by omega : 0 ≤ (H169.1 1826 35) ∧ (H169.1 1826 35) ≤ 5) (by omega : 0 ≤ (H169.1 1826 32) ∧ (H169.1 1826 32) ≤ 1000) (by omega : (H.1 1826 35) ≠ 0 → (H169.1 1826 35) ≠ 0) (fun _ => ⟨_, PT_shut hPT1 (by omega) hno (hx169f.2.1 1833 (by decide) (by decide)) (hx169f.2.1 1830 (by decide) (by decide)) ⟨hx169f.2.2 3 (by decide), hx169f.2.2 8 (by decide)⟩ ⟨hx169f.2.2 40 (by decide), hx169f.2.2 43 (by decide), hx169f.2.2 39 (by decide)⟩ (hx169f.2.1 1851 (by decide) (by decide)) ⟨(by omega : ((H169.1 1826 47) - 1) = (H1.1 1826 47) - 1), (by omega : ((H169.1 1826 41) - 1) = (H1.1 1826 41) - 1)⟩ (hx169f.2.1 1852 (by decide) (by decide)) (hx169f.2.1 1853 (by decide) (by decide))⟩) (GB_t hx169n (fr_o (fr_o (fr_rf [41, 47] [] H169) (by decide)) (by decide)) (by decide) (by decide) (fun _ q => q.elim (fun X2 g => by obtain ⟨g1, g2, rfl⟩ := g; exact ⟨_, (by rw [SP_of (H := (zu (zu H169 1826 (up (H169.1 1826) 41 ((H169.1 1826 41) - 1))) 1826 (up ((zu H169 1826 (up (H169.1 1826) 41 ((H169.1 1826 41) - 1))).1 1826) 47 ((H169.1 1826 47) - 1)))) (n := n - 1) (show ((H169.1 1826 47) - 1) = ((n - 1 : Nat) : Int) by omega) (hx169f.2.1 1852 (by decide) (by decide)) (hx169f.2.1 1853 (by decide) (by decide))]; exact g1), RK_fr g2 (fr_o (fr_o (fr_rf [41, 47] [] H169) (by decide)) (by decide)) (by decide) (by decide), VP_adv hV1 (hx169f.2.2 40 (by decide)) (hx169f.2.2 39 (by decide)) (hx169f.2.1 1849 (by decide) (by decide)) (hx169f.2.1 1850 (by decide) (by decide)) (hx169f.2.2 43 (by decide)) (hx169f.2.1 1851 (by decide) (by decide))⟩))) (mu_lt hw (by omega) (by omega : (H169.1 1826 35) ≠ 0 ∨ ((H1.1 1826 30) ≤ (H169.1 1826 30) ∧ (H169.1 1826 30) ≤ (H.1 1826 29) ∧ (((H169.1 1826 31) = 0 ∧ (H1.1 1826 31) ≠ 0) ∨ (H1.1 1826 30) < (H169.1 1826 30)))))
      · refine h_run 1 (pc' := 38) (l' := [(0, .inr (.inr 1826)), (1, .inl (f : Int))]) (st' := [.inr (.inr 1826)]) rfl ?_
        refine h_cv (i := 341) (j := 174) (b := 1826) (M' := mt_174) (xs := []) (rest := []) rfl rfl rfl rfl rfl rfl (Nat.le_of_ble_eq_true rfl) (Nat.le_of_ble_eq_true rfl) (by omega) (m_wanted (by omega) (by omega) hP1 ps1 ps2) ?_
        rintro _ _ ⟨⟨rfl, wn183⟩ | ⟨rfl, wn183, wn183x⟩, rfl⟩
        · refine h_run 0 (pc' := 41) (l' := [(0, .inr (.inr 1826)), (1, .inl (f : Int))]) (st' := [.inl (-1)]) rfl ?_
          refine h_run 1 (pc' := 42) (l' := [(0, .inr (.inr 1826)), (1, .inl (f : Int))]) (st' := [.inl (-1), .inl (-1)]) rfl ?_
          refine h_ieq (off := 225) (t := 267) rfl rfl (by decide) (by decide) (fun _ => ?_) (fun c => absurd c (by decide))
          have hend : ma (H1.1 1833) (H1.1 1830) ((H1.1 1852) 0) ≤ (H1.1 1853) 0 := by rw [show (0 : Nat) = ((H1.1 1826 47) - 1).toNat by omega]; omega
          have hno : ma (H1.1 1833) (H1.1 1830) ((H1.1 1852) (n - 1)) ≤ (H1.1 1853) (n - 1) := by rw [← hidx]; omega
          refine h_ret rfl rfl ?_
          have g184 : -2147483648 ≤ (H1.1 1826 30) ∧ (H1.1 1826 30) ≤ 2147483647 := hrg1.1 1826 13 30 _ .int rfl rfl
          have g185 : -2147483648 ≤ (H1.1 1826 32) ∧ (H1.1 1826 32) ≤ 2147483647 := hrg1.1 1826 13 32 _ .int rfl rfl
          have g186 : -2147483648 ≤ (H1.1 1826 29) ∧ (H1.1 1826 29) ≤ 2147483647 := hrg1.1 1826 13 29 _ .int rfl rfl
          have e187 : (H1.1 1826 29) = (H.1 1826 29) := hf.2.2 29 (by decide)
          exact ⟨rfl, (Or.inl ⟨(by omega : (H1.1 1826 35) = 0), X1, rch_st hq1 (by show (if ((H1.1 1853) (n - 1)) < ar X1 ((H1.1 1852) (n - 1)) then _ else _) = _; rw [if_neg (by omega), if_pos (by omega), show n - 1 = 0 by omega]; rfl), hR1, hV1⟩), hf, (by omega : (H.1 1826 30) ≤ (H1.1 1826 30) ∧ (H1.1 1826 30) ≤ (H.1 1826 29)), (by omega : 0 ≤ (H1.1 1826 35) ∧ (H1.1 1826 35) ≤ 5), (by omega : (H.1 1826 35) ≠ 0 → (H1.1 1826 35) ≠ 0), (by omega : 0 ≤ (H1.1 1826 32) ∧ (H1.1 1826 32) ≤ 1000), fun _ => PT_end hPT1 (by omega) hend⟩
        · refine h_run 0 (pc' := 41) (l' := [(0, .inr (.inr 1826)), (1, .inl (f : Int))]) (st' := [.inl (aty H1 (H1.1 1852 ((H1.1 1826 47) - 1).toNat) (H1.1 1853 ((H1.1 1826 47) - 1).toNat))]) rfl ?_
          refine h_run 1 (pc' := 42) (l' := [(0, .inr (.inr 1826)), (1, .inl (f : Int))]) (st' := [.inl (-1), .inl (aty H1 (H1.1 1852 ((H1.1 1826 47) - 1).toNat) (H1.1 1853 ((H1.1 1826 47) - 1).toNat))]) rfl ?_
          refine h_ieq (off := 225) (t := 267) rfl rfl (by omega) (by decide) (fun c188 => ?_) (fun c188 => ?_)
          · have hend : ma (H1.1 1833) (H1.1 1830) ((H1.1 1852) 0) ≤ (H1.1 1853) 0 := by rw [show (0 : Nat) = ((H1.1 1826 47) - 1).toNat by omega]; omega
            have hno : ma (H1.1 1833) (H1.1 1830) ((H1.1 1852) (n - 1)) ≤ (H1.1 1853) (n - 1) := by rw [← hidx]; omega
            refine h_ret rfl rfl ?_
            have g189 : -2147483648 ≤ (H1.1 1826 30) ∧ (H1.1 1826 30) ≤ 2147483647 := hrg1.1 1826 13 30 _ .int rfl rfl
            have g190 : -2147483648 ≤ (H1.1 1826 32) ∧ (H1.1 1826 32) ≤ 2147483647 := hrg1.1 1826 13 32 _ .int rfl rfl
            have g191 : -2147483648 ≤ (H1.1 1826 29) ∧ (H1.1 1826 29) ≤ 2147483647 := hrg1.1 1826 13 29 _ .int rfl rfl
            have e192 : (H1.1 1826 29) = (H.1 1826 29) := hf.2.2 29 (by decide)
            exact ⟨rfl, (Or.inl ⟨(by omega : (H1.1 1826 35) = 0), X1, rch_st hq1 (by show (if ((H1.1 1853) (n - 1)) < ar X1 ((H1.1 1852) (n - 1)) then _ else _) = _; rw [if_neg (by omega), if_pos (by omega), show n - 1 = 0 by omega]; rfl), hR1, hV1⟩), hf, (by omega : (H.1 1826 30) ≤ (H1.1 1826 30) ∧ (H1.1 1826 30) ≤ (H.1 1826 29)), (by omega : 0 ≤ (H1.1 1826 35) ∧ (H1.1 1826 35) ≤ 5), (by omega : (H.1 1826 35) ≠ 0 → (H1.1 1826 35) ≠ 0), (by omega : 0 ≤ (H1.1 1826 32) ∧ (H1.1 1826 32) ≤ 1000), fun _ => PT_end hPT1 (by omega) hend⟩
          · refine h_run 1 (pc' := 46) (l' := [(0, .inr (.inr 1826)), (1, .inl (f : Int))]) (st' := [.inr (.inr 1826)]) rfl ?_
            refine h_cv (i := 341) (j := 174) (b := 1826) (M' := mt_174) (xs := []) (rest := []) rfl rfl rfl rfl rfl rfl (Nat.le_of_ble_eq_true rfl) (Nat.le_of_ble_eq_true rfl) (by omega) (m_wanted (by omega) (by omega) hP1 ps1 ps2) ?_
            rintro _ _ ⟨⟨rfl, wn193⟩ | ⟨rfl, wn193, wn193x⟩, rfl⟩
            · refine h_run 0 (pc' := 49) (l' := [(0, .inr (.inr 1826)), (1, .inl (f : Int))]) (st' := [.inl (-1)]) rfl ?_
              refine h_run 3 (pc' := 52) (l' := [(0, .inr (.inr 1826)), (1, .inl (f : Int)), (2, .inl (-1))]) (st' := [.inl (-1), .inl (-1)]) rfl ?_
              refine h_ine (off := 32) (t := 84) rfl rfl (by decide) (by decide) (fun c => absurd c (by decide)) (fun _ => ?_)
              have hno : ma (H1.1 1833) (H1.1 1830) ((H1.1 1852) (n - 1)) ≤ (H1.1 1853) (n - 1) := by rw [← hidx]; omega
              have hqw : rch Y c0 ((1, 41, 0, 0) :: (spk (H1.1 1852) (H1.1 1853) (n - 1) ++ K), X1) := rch_st hq1 (by show (if ((H1.1 1853) (n - 1)) < ar X1 ((H1.1 1852) (n - 1)) then _ else _) = _; rw [if_neg (by omega), if_neg (by omega)]; rfl)
              refine h_run 2 (pc' := 58) (l' := [(0, .inr (.inr 1826)), (1, .inl (f : Int)), (2, .inl (-1))]) (st' := [.inl 41, .inr (.inr 1826)]) rfl ?_
              have g194 : -2147483648 ≤ (H1.1 1826 30) ∧ (H1.1 1826 30) ≤ 2147483647 := hrg1.1 1826 13 30 _ .int rfl rfl
              have g195 : -2147483648 ≤ (H1.1 1826 29) ∧ (H1.1 1826 29) ≤ 2147483647 := hrg1.1 1826 13 29 _ .int rfl rfl
              have e196 : (H1.1 1826 29) = (H.1 1826 29) := hf.2.2 29 (by decide)
              have g197 : -2147483648 ≤ (H1.1 1826 31) ∧ (H1.1 1826 31) ≤ 2147483647 := hrg1.1 1826 13 31 _ .int rfl rfl
              have g199 : -2147483648 ≤ (H1.1 1826 32) ∧ (H1.1 1826 32) ≤ 2147483647 := hrg1.1 1826 13 32 _ .int rfl rfl
              refine h_cv (i := 313) (j := 166) (b := 1826) (M' := mt_166) (xs := [.inl 41]) (rest := []) rfl rfl rfl rfl rfl rfl (Nat.le_of_ble_eq_true rfl) (Nat.le_of_ble_eq_true rfl) (by omega) (n_want (by omega) (by omega : 0 ≤ (H1.1 1826 30) ∧ (H1.1 1826 30) ≤ (H1.1 1826 29) ∧ (H1.1 1826 29) ≤ 1000) (by omega : 0 ≤ (H1.1 1826 35) ∧ (H1.1 1826 35) ≤ 5) (by omega : 0 ≤ (H1.1 1826 32) ∧ (H1.1 1826 32) ≤ 1000) (by omega) (by omega : (H1.1 1826 35) = 0) hR1 hqw (lk_app hK spk_ok)) ?_
              rintro _ H198 ⟨rfl, hx198n, hx198f, hx198a, hx198b, hx198c, -, hx198e, hx198g⟩
              refine h_rng (fun hrg200 => ?_)
              have hf201 : fr [30, 31, 32, 33, 35, 36, 39, 40, 41, 43, 47] [1849, 1850, 1851, 1852, 1853] H H198 := fr_t hf hx198f (by decide) (by decide)
              replace hx198a : (H1.1 1826 30) ≤ (H198.1 1826 30) := hx198a
              replace hx198b : (H198.1 1826 30) ≤ (H1.1 1826 29) := hx198b
              replace hx198g : (H198.1 1826 35) = 0 → (H1.1 1826 31) = (41 : Int) ∧ ((H198.1 1826 31) = 0 ∨ (H1.1 1826 30) < (H198.1 1826 30)) := hx198g
              refine h_run 0 (pc' := 61) (l' := [(0, .inr (.inr 1826)), (1, .inl (f : Int)), (2, .inl (-1))]) (st' := []) rfl ?_
              refine h_run 3 (pc' := 66) (l' := [(0, .inr (.inr 1826)), (1, .inl (f : Int)), (2, .inl (-1))]) (st' := [.inl (H198.1 1826 41), .inr (.inr 1826)]) rfl ?_
              have g202 : -2147483648 ≤ (H198.1 1826 41) ∧ (H198.1 1826 41) ≤ 2147483647 := hrg200.1 1826 13 41 _ .int rfl rfl
              have e203 : (H198.1 1826 41) = (H1.1 1826 41) := hx198f.2.2 41 (by decide)
              refine h_run 2 (pc' := 68) (l' := [(0, .inr (.inr 1826)), (1, .inl (f : Int)), (2, .inl (-1))]) (st' := [.inl ((H198.1 1826 41) - 1), .inr (.inr 1826)]) rfl ?_
              refine h_puti (i := 335) (ci := 13) (k := 41) (a := 1826) (x := ((H198.1 1826 41) - 1)) rfl rfl rfl rfl rfl rfl (by decide) (by omega) ?_
              refine h_run 3 (pc' := 76) (l' := [(0, .inr (.inr 1826)), (1, .inl (f : Int)), (2, .inl (-1))]) (st' := [.inl (H198.1 1826 47), .inr (.inr 1826)]) rfl ?_
              have g204 : -2147483648 ≤ (H198.1 1826 47) ∧ (H198.1 1826 47) ≤ 2147483647 := hrg200.1 1826 13 47 _ .int rfl rfl
              have e205 : (H198.1 1826 47) = (H1.1 1826 47) := hx198f.2.2 47 (by decide)
              refine h_run 2 (pc' := 78) (l' := [(0, .inr (.inr 1826)), (1, .inl (f : Int)), (2, .inl (-1))]) (st' := [.inl ((H198.1 1826 47) - 1), .inr (.inr 1826)]) rfl ?_
              refine h_puti (i := 328) (ci := 13) (k := 47) (a := 1826) (x := ((H198.1 1826 47) - 1)) rfl rfl rfl rfl rfl rfl (by decide) (by omega) ?_
              refine h_run 2 (pc' := 22) (l' := [(0, .inr (.inr 1826)), (1, .inl (f : Int)), (2, .inl (-1))]) (st' := []) rfl ?_
              have g206 : -2147483648 ≤ (H198.1 1826 30) ∧ (H198.1 1826 30) ≤ 2147483647 := hrg200.1 1826 13 30 _ .int rfl rfl
              have g207 : -2147483648 ≤ (H198.1 1826 35) ∧ (H198.1 1826 35) ≤ 2147483647 := hrg200.1 1826 13 35 _ .int rfl rfl
              have g208 : -2147483648 ≤ (H198.1 1826 32) ∧ (H198.1 1826 32) ≤ 2147483647 := hrg200.1 1826 13 32 _ .int rfl rfl
              have g209 : -2147483648 ≤ (H198.1 1826 31) ∧ (H198.1 1826 31) ≤ 2147483647 := hrg200.1 1826 13 31 _ .int rfl rfl
              have g210 : -2147483648 ≤ (H198.1 1826 29) ∧ (H198.1 1826 29) ≤ 2147483647 := hrg200.1 1826 13 29 _ .int rfl rfl
              have e211 : (H198.1 1826 29) = (H1.1 1826 29) := hx198f.2.2 29 (by decide)
              refine h_loc [0, 1] rfl ?_
              exact ih _ (fr_o (fr_o hf201 (by decide)) (by decide)) (by omega : (H.1 1826 30) ≤ (H198.1 1826 30) ∧ (H198.1 1826 30) ≤ (H.1 1826 29)) (by omega : 0 ≤ (H198.1 1826 35) ∧ (H198.1 1826 35) ≤ 5) (by omega : 0 ≤ (H198.1 1826 32) ∧ (H198.1 1826 32) ≤ 1000) (by omega : (H.1 1826 35) ≠ 0 → (H198.1 1826 35) ≠ 0) (fun _ => ⟨_, PT_shut hPT1 (by omega) hno (hx198f.2.1 1833 (by decide) (by decide)) (hx198f.2.1 1830 (by decide) (by decide)) ⟨hx198f.2.2 3 (by decide), hx198f.2.2 8 (by decide)⟩ ⟨hx198f.2.2 40 (by decide), hx198f.2.2 43 (by decide), hx198f.2.2 39 (by decide)⟩ (hx198f.2.1 1851 (by decide) (by decide)) ⟨(by omega : ((H198.1 1826 47) - 1) = (H1.1 1826 47) - 1), (by omega : ((H198.1 1826 41) - 1) = (H1.1 1826 41) - 1)⟩ (hx198f.2.1 1852 (by decide) (by decide)) (hx198f.2.1 1853 (by decide) (by decide))⟩) (GB_t hx198n (fr_o (fr_o (fr_rf [41, 47] [] H198) (by decide)) (by decide)) (by decide) (by decide) (fun _ q => q.elim (fun X2 g => by obtain ⟨g1, g2, rfl⟩ := g; exact ⟨_, (by rw [SP_of (H := (zu (zu H198 1826 (up (H198.1 1826) 41 ((H198.1 1826 41) - 1))) 1826 (up ((zu H198 1826 (up (H198.1 1826) 41 ((H198.1 1826 41) - 1))).1 1826) 47 ((H198.1 1826 47) - 1)))) (n := n - 1) (show ((H198.1 1826 47) - 1) = ((n - 1 : Nat) : Int) by omega) (hx198f.2.1 1852 (by decide) (by decide)) (hx198f.2.1 1853 (by decide) (by decide))]; exact g1), RK_fr g2 (fr_o (fr_o (fr_rf [41, 47] [] H198) (by decide)) (by decide)) (by decide) (by decide), VP_adv hV1 (hx198f.2.2 40 (by decide)) (hx198f.2.2 39 (by decide)) (hx198f.2.1 1849 (by decide) (by decide)) (hx198f.2.1 1850 (by decide) (by decide)) (hx198f.2.2 43 (by decide)) (hx198f.2.1 1851 (by decide) (by decide))⟩))) (mu_lt hw (by omega) (by omega : (H198.1 1826 35) ≠ 0 ∨ ((H1.1 1826 30) ≤ (H198.1 1826 30) ∧ (H198.1 1826 30) ≤ (H.1 1826 29) ∧ (((H198.1 1826 31) = 0 ∧ (H1.1 1826 31) ≠ 0) ∨ (H1.1 1826 30) < (H198.1 1826 30)))))
            · refine h_run 0 (pc' := 49) (l' := [(0, .inr (.inr 1826)), (1, .inl (f : Int))]) (st' := [.inl (aty H1 (H1.1 1852 ((H1.1 1826 47) - 1).toNat) (H1.1 1853 ((H1.1 1826 47) - 1).toNat))]) rfl ?_
              refine h_run 3 (pc' := 52) (l' := [(0, .inr (.inr 1826)), (1, .inl (f : Int)), (2, .inl (aty H1 (H1.1 1852 ((H1.1 1826 47) - 1).toNat) (H1.1 1853 ((H1.1 1826 47) - 1).toNat)))]) (st' := [.inl (-1), .inl (aty H1 (H1.1 1852 ((H1.1 1826 47) - 1).toNat) (H1.1 1853 ((H1.1 1826 47) - 1).toNat))]) rfl ?_
              refine h_ine (off := 32) (t := 84) rfl rfl (by omega) (by decide) (fun c212 => ?_) (fun c212 => ?_)
              · have hno : (H1.1 1853) (n - 1) < ma (H1.1 1833) (H1.1 1830) ((H1.1 1852) (n - 1)) := by rw [← hidx]; omega
                have hat := aty_H hR1 (by omega) ps1n (by omega) (i := ((H1.1 1853) (n - 1))) (by omega) (by omega)
                have hq4 : rch Y c0 ((4, (aty H1 ((H1.1 1852) (n - 1)) ((H1.1 1853) (n - 1))), ((n - 1 : Nat) : Int), 0) :: (spk (H1.1 1852) (up (H1.1 1853) (n - 1) (((H1.1 1853) (n - 1)) + 1)) n ++ K), X1) := by rw [← hat, spk_inc pa2]; exact rch_st hq1 (by show (if ((H1.1 1853) (n - 1)) < ar X1 ((H1.1 1852) (n - 1)) then _ else _) = _; rw [if_pos (by omega)]; rfl)
                refine h_run 2 (pc' := 88) (l' := [(0, .inr (.inr 1826)), (1, .inl (f : Int)), (2, .inl (aty H1 (H1.1 1852 ((H1.1 1826 47) - 1).toNat) (H1.1 1853 ((H1.1 1826 47) - 1).toNat)))]) (st' := [.inl (H1.1 1826 31)]) rfl ?_
                have g213 : -2147483648 ≤ (H1.1 1826 31) ∧ (H1.1 1826 31) ≤ 2147483647 := hrg1.1 1826 13 31 _ .int rfl rfl
                refine h_run 1 (pc' := 89) (l' := [(0, .inr (.inr 1826)), (1, .inl (f : Int)), (2, .inl (aty H1 (H1.1 1852 ((H1.1 1826 47) - 1).toNat) (H1.1 1853 ((H1.1 1826 47) - 1).toNat)))]) (st' := [.inl 1, .inl (H1.1 1826 31)]) rfl ?_
                refine h_ine (off := 100) (t := 189) rfl rfl (by omega) (by decide) (fun c214 => ?_) (fun c214 => ?_)
                · refine h_run 2 (pc' := 193) (l' := [(0, .inr (.inr 1826)), (1, .inl (f : Int)), (2, .inl (aty H1 (H1.1 1852 ((H1.1 1826 47) - 1).toNat) (H1.1 1853 ((H1.1 1826 47) - 1).toNat)))]) (st' := [.inl (H1.1 1826 31)]) rfl ?_
                  refine h_run 1 (pc' := 194) (l' := [(0, .inr (.inr 1826)), (1, .inl (f : Int)), (2, .inl (aty H1 (H1.1 1852 ((H1.1 1826 47) - 1).toNat) (H1.1 1853 ((H1.1 1826 47) - 1).toNat)))]) (st' := [.inl 2, .inl (H1.1 1826 31)]) rfl ?_
                  refine h_ine (off := 12) (t := 206) rfl rfl (by omega) (by decide) (fun c215 => ?_) (fun c215 => ?_)
                  · refine h_run 2 (pc' := 210) (l' := [(0, .inr (.inr 1826)), (1, .inl (f : Int)), (2, .inl (aty H1 (H1.1 1852 ((H1.1 1826 47) - 1).toNat) (H1.1 1853 ((H1.1 1826 47) - 1).toNat)))]) (st' := [.inl (H1.1 1826 31)]) rfl ?_
                    refine h_run 1 (pc' := 212) (l' := [(0, .inr (.inr 1826)), (1, .inl (f : Int)), (2, .inl (aty H1 (H1.1 1852 ((H1.1 1826 47) - 1).toNat) (H1.1 1853 ((H1.1 1826 47) - 1).toNat)))]) (st' := [.inl 40, .inl (H1.1 1826 31)]) rfl ?_
                    refine h_ine (off := 47) (t := 259) rfl rfl (by omega) (by decide) (fun c216 => ?_) (fun c216 => ?_)
                    · refine h_run 2 (pc' := 261) (l' := [(0, .inr (.inr 1826)), (1, .inl (f : Int)), (2, .inl (aty H1 (H1.1 1852 ((H1.1 1826 47) - 1).toNat) (H1.1 1853 ((H1.1 1826 47) - 1).toNat)))]) (st' := [.inl 2, .inr (.inr 1826)]) rfl ?_
                      refine h_cv (i := 278) (j := 159) (b := 1826) (M' := mt_159) (xs := [.inl 2]) (rest := []) rfl rfl rfl rfl rfl rfl (Nat.le_of_ble_eq_true rfl) (Nat.le_of_ble_eq_true rfl) (by omega) (m_bad0 (by omega) (by omega) (by omega : (H1.1 1826 35) = 0)) ?_
                      rintro _ _ ⟨rfl, rfl⟩
                      refine h_run 0 (pc' := 264) (l' := [(0, .inr (.inr 1826)), (1, .inl (f : Int)), (2, .inl (aty H1 (H1.1 1852 ((H1.1 1826 47) - 1).toNat) (H1.1 1853 ((H1.1 1826 47) - 1).toNat)))]) (st' := []) rfl ?_
                      refine h_run 1 (pc' := 22) (l' := [(0, .inr (.inr 1826)), (1, .inl (f : Int)), (2, .inl (aty H1 (H1.1 1852 ((H1.1 1826 47) - 1).toNat) (H1.1 1853 ((H1.1 1826 47) - 1).toNat)))]) (st' := []) rfl ?_
                      have g217 : -2147483648 ≤ (H1.1 1826 30) ∧ (H1.1 1826 30) ≤ 2147483647 := hrg1.1 1826 13 30 _ .int rfl rfl
                      have g218 : -2147483648 ≤ (H1.1 1826 32) ∧ (H1.1 1826 32) ≤ 2147483647 := hrg1.1 1826 13 32 _ .int rfl rfl
                      have g219 : -2147483648 ≤ (H1.1 1826 29) ∧ (H1.1 1826 29) ≤ 2147483647 := hrg1.1 1826 13 29 _ .int rfl rfl
                      have e220 : (H1.1 1826 29) = (H.1 1826 29) := hf.2.2 29 (by decide)
                      have g221 : -2147483648 ≤ (H1.1 1826 41) ∧ (H1.1 1826 41) ≤ 2147483647 := hrg1.1 1826 13 41 _ .int rfl rfl
                      refine h_loc [0, 1] rfl ?_
                      exact ih _ (fr_o (fr_o hf (by decide)) (by decide)) (by omega : (H.1 1826 30) ≤ (H1.1 1826 30) ∧ (H1.1 1826 30) ≤ (H.1 1826 29)) (by omega : 0 ≤ (2 : Int) ∧ (2 : Int) ≤ 5) (by omega : 0 ≤ (H1.1 1826 32) ∧ (H1.1 1826 32) ≤ 1000) (by omega : (H.1 1826 35) ≠ 0 → (2 : Int) ≠ 0) (fun (q : (2 : Int) = 0) => absurd q (by omega)) (Or.inr ⟨(by omega : (2 : Int) ≠ 0), (BD_mk hR1 (fr_o (fr_o (fr_rf [35, 36] [] H1) (by decide)) (by decide)) (by decide) (by decide) (by decide : (2 : Int) ≠ 0) rfl rfl (rch_st hq4 (by show stPat Y (aty H1 ((H1.1 1852) (n - 1)) ((H1.1 1853) (n - 1))) ((n - 1 : Nat) : Int) (spk (H1.1 1852) (up (H1.1 1853) (n - 1) (((H1.1 1853) (n - 1)) + 1)) n ++ K) X1 = _; unfold stPat miss; (repeat (first | rw [if_pos (by omega)] | rw [if_neg (by omega)])); try (first | rfl | (exfalso; omega)))))⟩) (mu_lt hw (by omega) (by omega : (2 : Int) ≠ 0 ∨ ((H1.1 1826 30) ≤ (H1.1 1826 30) ∧ (H1.1 1826 30) ≤ (H.1 1826 29) ∧ (((H1.1 1826 31) = 0 ∧ (H1.1 1826 31) ≠ 0) ∨ (H1.1 1826 30) < (H1.1 1826 30)))))
                    · refine h_run 1 (pc' := 216) (l' := [(0, .inr (.inr 1826)), (1, .inl (f : Int)), (2, .inl (aty H1 (H1.1 1852 ((H1.1 1826 47) - 1).toNat) (H1.1 1853 ((H1.1 1826 47) - 1).toNat)))]) (st' := [.inr (.inr 1826)]) rfl ?_
                      have g222 : -2147483648 ≤ (H1.1 1826 41) ∧ (H1.1 1826 41) ≤ 2147483647 := hrg1.1 1826 13 41 _ .int rfl rfl
                      by_cases b223 : (H1.1 1826 41) = 10
                      · refine h_cv (i := 357) (j := 176) (b := 1826) (M' := mt_176) (xs := []) (rest := []) rfl rfl rfl rfl rfl rfl (Nat.le_of_ble_eq_true rfl) (Nat.le_of_ble_eq_true rfl) (by omega) (m_deepB (by omega) (by omega : (H1.1 1826 35) = 0) (by omega : (H1.1 1826 41) = 10)) ?_
                        rintro _ _ ⟨rfl, rfl⟩
                        refine h_run 0 (pc' := 219) (l' := [(0, .inr (.inr 1826)), (1, .inl (f : Int)), (2, .inl (aty H1 (H1.1 1852 ((H1.1 1826 47) - 1).toNat) (H1.1 1853 ((H1.1 1826 47) - 1).toNat)))]) (st' := []) rfl ?_
                        refine h_run 1 (pc' := 220) (l' := [(0, .inr (.inr 1826)), (1, .inl (f : Int)), (2, .inl (aty H1 (H1.1 1852 ((H1.1 1826 47) - 1).toNat) (H1.1 1853 ((H1.1 1826 47) - 1).toNat)))]) (st' := [.inr (.inr 1826)]) rfl ?_
                        refine h_cv (i := 293) (j := 158) (b := 1826) (M' := mt_158) (xs := []) (rest := []) rfl rfl rfl rfl rfl rfl (Nat.le_of_ble_eq_true rfl) (Nat.le_of_ble_eq_true rfl) (by omega) (m_good0 (by omega) (by omega : (5 : Int) ≠ 0)) ?_
                        rintro _ _ ⟨rfl, rfl⟩
                        refine h_run 0 (pc' := 223) (l' := [(0, .inr (.inr 1826)), (1, .inl (f : Int)), (2, .inl (aty H1 (H1.1 1852 ((H1.1 1826 47) - 1).toNat) (H1.1 1853 ((H1.1 1826 47) - 1).toNat)))]) (st' := [.inl 0]) rfl ?_
                        refine h_zeq (off := 7) (t := 230) rfl rfl (by decide) (fun _ => ?_) (fun c => absurd c (by decide))
                        refine h_run 1 (pc' := 231) (l' := [(0, .inr (.inr 1826)), (1, .inl (f : Int)), (2, .inl (aty H1 (H1.1 1852 ((H1.1 1826 47) - 1).toNat) (H1.1 1853 ((H1.1 1826 47) - 1).toNat)))]) (st' := [.inr (.inr 1826)]) rfl ?_
                        refine h_cv (i := 293) (j := 158) (b := 1826) (M' := mt_158) (xs := []) (rest := []) rfl rfl rfl rfl rfl rfl (Nat.le_of_ble_eq_true rfl) (Nat.le_of_ble_eq_true rfl) (by omega) (m_good0 (by omega) (by omega : (5 : Int) ≠ 0)) ?_
                        rintro _ _ ⟨rfl, rfl⟩
                        refine h_run 0 (pc' := 234) (l' := [(0, .inr (.inr 1826)), (1, .inl (f : Int)), (2, .inl (aty H1 (H1.1 1852 ((H1.1 1826 47) - 1).toNat) (H1.1 1853 ((H1.1 1826 47) - 1).toNat)))]) (st' := [.inl 0]) rfl ?_
                        refine h_zeq (off := 16) (t := 250) rfl rfl (by decide) (fun _ => ?_) (fun c => absurd c (by decide))
                        refine h_run 3 (pc' := 253) (l' := [(0, .inr (.inr 1826)), (1, .inl (f : Int)), (2, .inl (aty H1 (H1.1 1852 ((H1.1 1826 47) - 1).toNat) (H1.1 1853 ((H1.1 1826 47) - 1).toNat)))]) (st' := [.inl 1, .inl (aty H1 (H1.1 1852 ((H1.1 1826 47) - 1).toNat) (H1.1 1853 ((H1.1 1826 47) - 1).toNat)), .inr (.inr 1826)]) rfl ?_
                        have g224 : -2147483648 ≤ (H1.1 1826 40) ∧ (H1.1 1826 40) ≤ 2147483647 := hrg1.1 1826 13 40 _ .int rfl rfl
                        refine h_cv (i := 353) (j := 179) (b := 1826) (M' := mt_179) (xs := [.inl 1, .inl (aty H1 (H1.1 1852 ((H1.1 1826 47) - 1).toNat) (H1.1 1853 ((H1.1 1826 47) - 1).toNat))]) (rest := []) rfl rfl rfl rfl rfl rfl (Nat.le_of_ble_eq_true rfl) (Nat.le_of_ble_eq_true rfl) (by omega) (n_patC01 (by omega) (by omega : (5 : Int) ≠ 0) (by omega : 0 ≤ (H1.1 1826 40) ∧ (H1.1 1826 40) ≤ 999)) ?_
                        rintro _ _ ⟨rfl, rfl⟩
                        refine h_run 0 (pc' := 256) (l' := [(0, .inr (.inr 1826)), (1, .inl (f : Int)), (2, .inl (aty H1 (H1.1 1852 ((H1.1 1826 47) - 1).toNat) (H1.1 1853 ((H1.1 1826 47) - 1).toNat)))]) (st' := []) rfl ?_
                        refine h_run 2 (pc' := 22) (l' := [(0, .inr (.inr 1826)), (1, .inl (f : Int)), (2, .inl (aty H1 (H1.1 1852 ((H1.1 1826 47) - 1).toNat) (H1.1 1853 ((H1.1 1826 47) - 1).toNat)))]) (st' := []) rfl ?_
                        have g225 : -2147483648 ≤ (H1.1 1826 30) ∧ (H1.1 1826 30) ≤ 2147483647 := hrg1.1 1826 13 30 _ .int rfl rfl
                        have g226 : -2147483648 ≤ (H1.1 1826 32) ∧ (H1.1 1826 32) ≤ 2147483647 := hrg1.1 1826 13 32 _ .int rfl rfl
                        have g227 : -2147483648 ≤ (H1.1 1826 29) ∧ (H1.1 1826 29) ≤ 2147483647 := hrg1.1 1826 13 29 _ .int rfl rfl
                        have e228 : (H1.1 1826 29) = (H.1 1826 29) := hf.2.2 29 (by decide)
                        refine h_loc [0, 1] rfl ?_
                        exact ih _ (fr_o (fr_o (fr_o (fr_o hf (by decide)) (by decide)) (by decide)) (by decide)) (by omega : (H.1 1826 30) ≤ (H1.1 1826 30) ∧ (H1.1 1826 30) ≤ (H.1 1826 29)) (by omega : 0 ≤ (5 : Int) ∧ (5 : Int) ≤ 5) (by omega : 0 ≤ (H1.1 1826 32) ∧ (H1.1 1826 32) ≤ 1000) (by omega : (H.1 1826 35) ≠ 0 → (5 : Int) ≠ 0) (fun (q : (5 : Int) = 0) => absurd q (by omega)) (Or.inr ⟨(by omega : (5 : Int) ≠ 0), (BD_mk hR1 (fr_o (fr_o (fr_o (fr_o (fr_rf [35, 36, 40, 41] [] H1) (by decide)) (by decide)) (by decide)) (by decide)) (by decide) (by decide) (by decide : (5 : Int) ≠ 0) rfl rfl (rch_st hq4 (by show stPat Y (aty H1 ((H1.1 1852) (n - 1)) ((H1.1 1853) (n - 1))) ((n - 1 : Nat) : Int) (spk (H1.1 1852) (up (H1.1 1853) (n - 1) (((H1.1 1853) (n - 1)) + 1)) n ++ K) X1 = _; unfold stPat miss; (repeat (first | rw [if_pos (by omega)] | rw [if_neg (by omega)])); try (first | rfl | (exfalso; omega)))))⟩) (mu_lt hw (by omega) (by omega : (5 : Int) ≠ 0 ∨ ((H1.1 1826 30) ≤ (H1.1 1826 30) ∧ (H1.1 1826 30) ≤ (H.1 1826 29) ∧ (((H1.1 1826 31) = 0 ∧ (H1.1 1826 31) ≠ 0) ∨ (H1.1 1826 30) < (H1.1 1826 30)))))
                      · refine h_cv (i := 357) (j := 176) (b := 1826) (M' := mt_176) (xs := []) (rest := []) rfl rfl rfl rfl rfl rfl (Nat.le_of_ble_eq_true rfl) (Nat.le_of_ble_eq_true rfl) (by omega) (m_deepA (by omega) (by omega : (H1.1 1826 35) = 0) (by omega : 0 ≤ (H1.1 1826 41) ∧ (H1.1 1826 41) ≤ 1000) (by omega : (H1.1 1826 41) ≠ 10)) ?_
                        rintro _ _ ⟨rfl, rfl⟩
                        refine h_run 0 (pc' := 219) (l' := [(0, .inr (.inr 1826)), (1, .inl (f : Int)), (2, .inl (aty H1 (H1.1 1852 ((H1.1 1826 47) - 1).toNat) (H1.1 1853 ((H1.1 1826 47) - 1).toNat)))]) (st' := []) rfl ?_
                        refine h_run 1 (pc' := 220) (l' := [(0, .inr (.inr 1826)), (1, .inl (f : Int)), (2, .inl (aty H1 (H1.1 1852 ((H1.1 1826 47) - 1).toNat) (H1.1 1853 ((H1.1 1826 47) - 1).toNat)))]) (st' := [.inr (.inr 1826)]) rfl ?_
                        refine h_cv (i := 293) (j := 158) (b := 1826) (M' := mt_158) (xs := []) (rest := []) rfl rfl rfl rfl rfl rfl (Nat.le_of_ble_eq_true rfl) (Nat.le_of_ble_eq_true rfl) (by omega) (m_good1 (by omega) (by omega : (H1.1 1826 35) = 0)) ?_
                        rintro _ _ ⟨rfl, rfl⟩
                        refine h_run 0 (pc' := 223) (l' := [(0, .inr (.inr 1826)), (1, .inl (f : Int)), (2, .inl (aty H1 (H1.1 1852 ((H1.1 1826 47) - 1).toNat) (H1.1 1853 ((H1.1 1826 47) - 1).toNat)))]) (st' := [.inl 1]) rfl ?_
                        refine h_zeq (off := 7) (t := 230) rfl rfl (by decide) (fun c => absurd c (by decide)) (fun _ => ?_)
                        refine h_run 1 (pc' := 227) (l' := [(0, .inr (.inr 1826)), (1, .inl (f : Int)), (2, .inl (aty H1 (H1.1 1852 ((H1.1 1826 47) - 1).toNat) (H1.1 1853 ((H1.1 1826 47) - 1).toNat)))]) (st' := [.inr (.inr 1826)]) rfl ?_
                        have g229 : -2147483648 ≤ (H1.1 1826 30) ∧ (H1.1 1826 30) ≤ 2147483647 := hrg1.1 1826 13 30 _ .int rfl rfl
                        have g230 : -2147483648 ≤ (H1.1 1826 29) ∧ (H1.1 1826 29) ≤ 2147483647 := hrg1.1 1826 13 29 _ .int rfl rfl
                        have e231 : (H1.1 1826 29) = (H.1 1826 29) := hf.2.2 29 (by decide)
                        have g232 : -2147483648 ≤ (H1.1 1826 32) ∧ (H1.1 1826 32) ≤ 2147483647 := hrg1.1 1826 13 32 _ .int rfl rfl
                        refine h_cv (i := 297) (j := 165) (b := 1826) (M' := mt_165) (xs := []) (rest := []) rfl rfl rfl rfl rfl rfl (Nat.le_of_ble_eq_true rfl) (Nat.le_of_ble_eq_true rfl) (by omega) (n_nx2 (by omega) (by omega : 0 ≤ (H1.1 1826 30) ∧ (H1.1 1826 30) ≤ (H1.1 1826 29) ∧ (H1.1 1826 29) ≤ 1000) (by omega : 0 ≤ (H1.1 1826 35) ∧ (H1.1 1826 35) ≤ 5) (by omega : 0 ≤ (H1.1 1826 32) ∧ (H1.1 1826 32) ≤ 1000) (by omega : (H1.1 1826 35) = 0) (X := (adv X1)) (RN_adv hR1 (fr_o (fr_rf [41] [] H1) (by decide)) (by decide) (by decide)) (fun q9 => (rch_st hq4 (by show stPat Y (aty H1 ((H1.1 1852) (n - 1)) ((H1.1 1853) (n - 1))) ((n - 1 : Nat) : Int) (spk (H1.1 1852) (up (H1.1 1853) (n - 1) (((H1.1 1853) (n - 1)) + 1)) n ++ K) X1 = _; unfold stPat miss; (repeat (first | rw [if_pos (by omega)] | rw [if_neg (by omega)])); try (first | rfl | (exfalso; omega)))))) ?_
                        rintro _ H233 ⟨rfl, hx233n, hx233f, hx233a, hx233b, hx233c, -, hx233e, hx233g⟩
                        refine h_rng (fun hrg234 => ?_)
                        have hf235 : fr [30, 31, 32, 33, 35, 36, 39, 40, 41, 43, 47] [1849, 1850, 1851, 1852, 1853] H H233 := fr_t (fr_o hf (by decide)) hx233f (by decide) (by decide)
                        replace hx233a : (H1.1 1826 30) ≤ (H233.1 1826 30) := hx233a
                        replace hx233b : (H233.1 1826 30) ≤ (H1.1 1826 29) := hx233b
                        replace hx233g : (H233.1 1826 35) = 0 → ((H233.1 1826 31) = 0 ∨ (H1.1 1826 30) < (H233.1 1826 30)) := hx233g
                        refine h_run 0 (pc' := 230) (l' := [(0, .inr (.inr 1826)), (1, .inl (f : Int)), (2, .inl (aty H1 (H1.1 1852 ((H1.1 1826 47) - 1).toNat) (H1.1 1853 ((H1.1 1826 47) - 1).toNat)))]) (st' := []) rfl ?_
                        refine h_run 1 (pc' := 231) (l' := [(0, .inr (.inr 1826)), (1, .inl (f : Int)), (2, .inl (aty H1 (H1.1 1852 ((H1.1 1826 47) - 1).toNat) (H1.1 1853 ((H1.1 1826 47) - 1).toNat)))]) (st' := [.inr (.inr 1826)]) rfl ?_
                        have g236 : -2147483648 ≤ (H233.1 1826 35) ∧ (H233.1 1826 35) ≤ 2147483647 := hrg234.1 1826 13 35 _ .int rfl rfl
                        refine h_cv (i := 293) (j := 158) (b := 1826) (M' := mt_158) (xs := []) (rest := []) rfl rfl rfl rfl rfl rfl (Nat.le_of_ble_eq_true rfl) (Nat.le_of_ble_eq_true rfl) (by omega) (m_good (by omega)) ?_
                        rintro _ _ ⟨⟨rfl, b237⟩ | ⟨rfl, b237⟩, rfl⟩
                        · have b237x : (H233.1 1826 35) = 0 := b237
                          replace hx233g := hx233g b237x
                          refine h_run 0 (pc' := 234) (l' := [(0, .inr (.inr 1826)), (1, .inl (f : Int)), (2, .inl (aty H1 (H1.1 1852 ((H1.1 1826 47) - 1).toNat) (H1.1 1853 ((H1.1 1826 47) - 1).toNat)))]) (st' := [.inl 1]) rfl ?_
                          refine h_zeq (off := 16) (t := 250) rfl rfl (by decide) (fun c => absurd c (by decide)) (fun _ => ?_)
                          have hR2 := GB_g hx233n (by omega)
                          have htk2 := RK_t hR2
                          refine h_run 2 (pc' := 241) (l' := [(0, .inr (.inr 1826)), (1, .inl (f : Int)), (2, .inl (aty H1 (H1.1 1852 ((H1.1 1826 47) - 1).toNat) (H1.1 1853 ((H1.1 1826 47) - 1).toNat)))]) (st' := [.inl (H233.1 1826 31)]) rfl ?_
                          have g238 : -2147483648 ≤ (H233.1 1826 31) ∧ (H233.1 1826 31) ≤ 2147483647 := hrg234.1 1826 13 31 _ .int rfl rfl
                          refine h_run 1 (pc' := 242) (l' := [(0, .inr (.inr 1826)), (1, .inl (f : Int)), (2, .inl (aty H1 (H1.1 1852 ((H1.1 1826 47) - 1).toNat) (H1.1 1853 ((H1.1 1826 47) - 1).toNat)))]) (st' := [.inl 2, .inl (H233.1 1826 31)]) rfl ?_
                          refine h_ieq (off := 8) (t := 250) rfl rfl (by omega) (by decide) (fun c239 => ?_) (fun c239 => ?_)
                          · refine h_run 3 (pc' := 253) (l' := [(0, .inr (.inr 1826)), (1, .inl (f : Int)), (2, .inl (aty H1 (H1.1 1852 ((H1.1 1826 47) - 1).toNat) (H1.1 1853 ((H1.1 1826 47) - 1).toNat)))]) (st' := [.inl 1, .inl (aty H1 (H1.1 1852 ((H1.1 1826 47) - 1).toNat) (H1.1 1853 ((H1.1 1826 47) - 1).toNat)), .inr (.inr 1826)]) rfl ?_
                            have g240 : -2147483648 ≤ (H233.1 1826 40) ∧ (H233.1 1826 40) ≤ 2147483647 := hrg234.1 1826 13 40 _ .int rfl rfl
                            have e241 : (H233.1 1826 40) = (H1.1 1826 40) := hx233f.2.2 40 (by decide)
                            have g242 : -2147483648 ≤ (H233.1 1826 30) ∧ (H233.1 1826 30) ≤ 2147483647 := hrg234.1 1826 13 30 _ .int rfl rfl
                            have g243 : -2147483648 ≤ (H233.1 1826 29) ∧ (H233.1 1826 29) ≤ 2147483647 := hrg234.1 1826 13 29 _ .int rfl rfl
                            have e244 : (H233.1 1826 29) = (H1.1 1826 29) := hx233f.2.2 29 (by decide)
                            have g245 : -2147483648 ≤ (H233.1 1826 43) ∧ (H233.1 1826 43) ≤ 2147483647 := hrg234.1 1826 13 43 _ .int rfl rfl
                            have e246 : (H233.1 1826 43) = (H1.1 1826 43) := hx233f.2.2 43 (by decide)
                            have g247 : -2147483648 ≤ (H233.1 1826 47) ∧ (H233.1 1826 47) ≤ 2147483647 := hrg234.1 1826 13 47 _ .int rfl rfl
                            have e248 : (H233.1 1826 47) = (H1.1 1826 47) := hx233f.2.2 47 (by decide)
                            have g249 : -2147483648 ≤ (H233.1 1826 41) ∧ (H233.1 1826 41) ≤ 2147483647 := hrg234.1 1826 13 41 _ .int rfl rfl
                            have e250 : (H233.1 1826 41) = ((H1.1 1826 41) + 1) := hx233f.2.2 41 (by decide)
                            have g252 : -2147483648 ≤ (H233.1 1826 32) ∧ (H233.1 1826 32) ≤ 2147483647 := hrg234.1 1826 13 32 _ .int rfl rfl
                            refine h_cv (i := 353) (j := 179) (b := 1826) (M' := mt_179) (xs := [.inl 1, .inl (aty H1 (H1.1 1852 ((H1.1 1826 47) - 1).toNat) (H1.1 1853 ((H1.1 1826 47) - 1).toNat))]) (rest := []) rfl rfl rfl rfl rfl rfl (Nat.le_of_ble_eq_true rfl) (Nat.le_of_ble_eq_true rfl) (by omega) (n_patCon1 (by omega) (by omega : 0 ≤ (H233.1 1826 30) ∧ (H233.1 1826 30) ≤ (H233.1 1826 29) ∧ (H233.1 1826 29) ≤ 1000) (by omega : 0 ≤ (H233.1 1826 35) ∧ (H233.1 1826 35) ≤ 5) (by omega : 0 ≤ (H233.1 1826 32) ∧ (H233.1 1826 32) ≤ 1000) (PWc_fr hP1 (H := H1) (K := H233) (ob := [30, 31, 32, 33, 35, 36, 41]) (ar := []) (fr_t (fr_o (fr_rf _ _ _) (by decide)) hx233f (by decide) (by decide)) (by decide) (by decide)) (by omega : 1 ≤ (H233.1 1826 47) ∧ (H233.1 1826 47) ≤ 63) (by omega : 0 ≤ (H233.1 1826 40) ∧ (H233.1 1826 40) ≤ 999) (by omega : 0 ≤ (H233.1 1826 43) ∧ (H233.1 1826 43) ≤ 46) (by show 0 ≤ (H233.1 1853 ((H233.1 1826 47) - 1).toNat) ∧ (H233.1 1853 ((H233.1 1826 47) - 1).toNat) ≤ 1000; rw [show (H233.1 1853) = (H1.1 1853) from hx233f.2.1 1853 (by decide) (by decide), show (H233.1 1826 47) = (H1.1 1826 47) from hx233f.2.2 47 (by decide)]; omega) (by omega) (by omega : (H233.1 1826 35) = 0) (by omega : (H233.1 1826 40) ≤ 40) (by omega : (H233.1 1826 31) = 2) (GB_g hx233n (by omega)) (VP_adv hV1 (hx233f.2.2 40 (by decide)) (hx233f.2.2 39 (by decide)) (hx233f.2.1 1849 (by decide) (by decide)) (hx233f.2.1 1850 (by decide) (by decide)) (hx233f.2.2 43 (by decide)) (hx233f.2.1 1851 (by decide) (by decide))) (show rch Y c0 (stPcon Y (aty H1 (H1.1 1852 ((H1.1 1826 47) - 1).toNat) (H1.1 1853 ((H1.1 1826 47) - 1).toNat)) (n : Int) 1 (cfd Y (adv X1)) ((1, 41, 0, 0) :: (spk (H1.1 1852) (up (H1.1 1853) (n - 1) (((H1.1 1853) (n - 1)) + 1)) n ++ K)) (adv X1)) from (by rw [hidx, show (n : Int) = ((n - 1 : Nat) : Int) + 1 by omega]; exact (rch_st hq4 (by show stPat Y (aty H1 ((H1.1 1852) (n - 1)) ((H1.1 1853) (n - 1))) ((n - 1 : Nat) : Int) (spk (H1.1 1852) (up (H1.1 1853) (n - 1) (((H1.1 1853) (n - 1)) + 1)) n ++ K) X1 = _; unfold stPat miss; (repeat (first | rw [if_pos (by omega)] | rw [if_neg (by omega)])); try (first | rfl | (exfalso; omega)))))) (lk_1 (by decide))) ?_
                            rintro _ H251 ⟨rfl, hx251gb, hx251f, hx251a, hx251c, -, hx251e, hx251n, hx251g, hx251p⟩
                            refine h_rng (fun hrg253 => ?_)
                            have hf254 : fr [30, 31, 32, 33, 35, 36, 39, 40, 41, 43, 47] [1849, 1850, 1851, 1852, 1853] H H251 := fr_t hf235 hx251f (by decide) (by decide)
                            replace hx251a : (H233.1 1826 30) ≤ (H251.1 1826 30) ∧ (H251.1 1826 30) ≤ (H233.1 1826 29) := hx251a
                            replace hx251g : (H251.1 1826 35) = 0 → (H251.1 1826 31) = 0 ∨ (H233.1 1826 30) < (H251.1 1826 30) := hx251g
                            replace hx251n : 0 ≤ (H251.1 1826 40) ∧ (H251.1 1826 40) ≤ (H233.1 1826 40) + 1 := hx251n
                            refine h_run 0 (pc' := 256) (l' := [(0, .inr (.inr 1826)), (1, .inl (f : Int)), (2, .inl (aty H1 (H1.1 1852 ((H1.1 1826 47) - 1).toNat) (H1.1 1853 ((H1.1 1826 47) - 1).toNat)))]) (st' := []) rfl ?_
                            refine h_run 2 (pc' := 22) (l' := [(0, .inr (.inr 1826)), (1, .inl (f : Int)), (2, .inl (aty H1 (H1.1 1852 ((H1.1 1826 47) - 1).toNat) (H1.1 1853 ((H1.1 1826 47) - 1).toNat)))]) (st' := []) rfl ?_
                            have g255 : -2147483648 ≤ (H251.1 1826 30) ∧ (H251.1 1826 30) ≤ 2147483647 := hrg253.1 1826 13 30 _ .int rfl rfl
                            have g256 : -2147483648 ≤ (H251.1 1826 35) ∧ (H251.1 1826 35) ≤ 2147483647 := hrg253.1 1826 13 35 _ .int rfl rfl
                            have g257 : -2147483648 ≤ (H251.1 1826 32) ∧ (H251.1 1826 32) ≤ 2147483647 := hrg253.1 1826 13 32 _ .int rfl rfl
                            have g258 : -2147483648 ≤ (H251.1 1826 31) ∧ (H251.1 1826 31) ≤ 2147483647 := hrg253.1 1826 13 31 _ .int rfl rfl
                            have g259 : -2147483648 ≤ (H251.1 1826 29) ∧ (H251.1 1826 29) ≤ 2147483647 := hrg253.1 1826 13 29 _ .int rfl rfl
                            have e260 : (H251.1 1826 29) = (H233.1 1826 29) := hx251f.2.2 29 (by decide)
                            have g261 : -2147483648 ≤ (H251.1 1826 47) ∧ (H251.1 1826 47) ≤ 2147483647 := hrg253.1 1826 13 47 _ .int rfl rfl
                            have g262 : -2147483648 ≤ (H251.1 1826 41) ∧ (H251.1 1826 41) ≤ 2147483647 := hrg253.1 1826 13 41 _ .int rfl rfl
                            have e263 : (H251.1 1826 41) = (H233.1 1826 41) := hx251f.2.2 41 (by decide)
                            refine h_loc [0, 1] rfl ?_
                            exact ih _ hf254 (by omega : (H.1 1826 30) ≤ (H251.1 1826 30) ∧ (H251.1 1826 30) ≤ (H.1 1826 29)) (by omega : 0 ≤ (H251.1 1826 35) ∧ (H251.1 1826 35) ≤ 5) (by omega : 0 ≤ (H251.1 1826 32) ∧ (H251.1 1826 32) ≤ 1000) (by omega : (H.1 1826 35) ≠ 0 → (H251.1 1826 35) ≠ 0) (fun q => by obtain ⟨c, k1, k3, ⟨k5, k6, k7⟩, k8, k9, k10⟩ := hx251p q; rw [show (H233.1 1826 3) = (H1.1 1826 3) from hx233f.2.2 3 (by decide)] at k1; have hcc := (pw1c c (by omega)).1; have es : ((1 : Int) + c - 1).toNat = c := (by omega); rw [show (H233.1 1826 40) = (H1.1 1826 40) from hx233f.2.2 40 (by decide)] at k3 k5; rw [show (H233.1 1826 43) = (H1.1 1826 43) from hx233f.2.2 43 (by decide)] at k6 k8; rw [show (H233.1 1826 47) = (H1.1 1826 47) from hx233f.2.2 47 (by decide)] at k7 k9 k10; rw [show (H233.1 1851) = (H1.1 1851) from hx233f.2.1 1851 (by decide) (by decide)] at k8; rw [show (H233.1 1852) = (H1.1 1852) from hx233f.2.1 1852 (by decide) (by decide), hidy] at k9; rw [show (H233.1 1853) = (H1.1 1853) from hx233f.2.1 1853 (by decide) (by decide), hidx, hidy] at k10; exact PT_step (q := ((H1.1 1830) c).toNat) hPT1 (Or.inl ⟨by omega, by omega⟩) (by rw [ma_c (by omega), es]; omega) (by omega) hno ((hx251f.2.1 1833 (by decide) (by decide)).trans (hx233f.2.1 1833 (by decide) (by decide))) ((hx251f.2.1 1830 (by decide) (by decide)).trans (hx233f.2.1 1830 (by decide) (by decide))) ⟨(hx251f.2.2 3 (by decide)).trans (hx233f.2.2 3 (by decide)), (hx251f.2.2 8 (by decide)).trans (hx233f.2.2 8 (by decide))⟩ (by omega) ⟨k5, k6⟩ k8 (Or.inl ((hx251f.2.2 39 (by decide)).trans (hx233f.2.2 39 (by decide)))) (Or.inr ⟨by omega, by omega, by omega, k7, (hx251f.2.2 41 (by decide)).trans (hx233f.2.2 41 (by decide)), k9, k10⟩)) (GB_i hx251gb (fun q => q.elim (fun c g => by obtain ⟨⟨g1, g2⟩, ⟨g4, g5, g6⟩, g7, g8, g9⟩ := g; rw [show (H233.1 1826 47) = (H1.1 1826 47) from hx233f.2.2 47 (by decide)] at g4 g5 g6; rw [show (H233.1 1852) = (H1.1 1852) from hx233f.2.1 1852 (by decide) (by decide), hidy] at g5; rw [show (H233.1 1853) = (H1.1 1853) from hx233f.2.1 1853 (by decide) (by decide), hidx, hidy] at g6; exact ⟨_, (by rw [SP_of (H := H251) (n := n + 1) (g4.trans (by omega)) g5 g6, spk_push (by omega)]; exact g7), g8, g9⟩))) (mu_lt hw (by omega) (by omega : (H251.1 1826 35) ≠ 0 ∨ ((H1.1 1826 30) ≤ (H251.1 1826 30) ∧ (H251.1 1826 30) ≤ (H.1 1826 29) ∧ (((H251.1 1826 31) = 0 ∧ (H1.1 1826 31) ≠ 0) ∨ (H1.1 1826 30) < (H251.1 1826 30)))))
                          · refine h_run 2 (pc' := 247) (l' := [(0, .inr (.inr 1826)), (1, .inl (f : Int)), (2, .inl (aty H1 (H1.1 1852 ((H1.1 1826 47) - 1).toNat) (H1.1 1853 ((H1.1 1826 47) - 1).toNat)))]) (st' := [.inl 2, .inr (.inr 1826)]) rfl ?_
                            refine h_cv (i := 278) (j := 159) (b := 1826) (M' := mt_159) (xs := [.inl 2]) (rest := []) rfl rfl rfl rfl rfl rfl (Nat.le_of_ble_eq_true rfl) (Nat.le_of_ble_eq_true rfl) (by omega) (m_bad0 (by omega) (by omega) (by omega : (H233.1 1826 35) = 0)) ?_
                            rintro _ _ ⟨rfl, rfl⟩
                            refine h_run 0 (pc' := 250) (l' := [(0, .inr (.inr 1826)), (1, .inl (f : Int)), (2, .inl (aty H1 (H1.1 1852 ((H1.1 1826 47) - 1).toNat) (H1.1 1853 ((H1.1 1826 47) - 1).toNat)))]) (st' := []) rfl ?_
                            refine h_run 3 (pc' := 253) (l' := [(0, .inr (.inr 1826)), (1, .inl (f : Int)), (2, .inl (aty H1 (H1.1 1852 ((H1.1 1826 47) - 1).toNat) (H1.1 1853 ((H1.1 1826 47) - 1).toNat)))]) (st' := [.inl 1, .inl (aty H1 (H1.1 1852 ((H1.1 1826 47) - 1).toNat) (H1.1 1853 ((H1.1 1826 47) - 1).toNat)), .inr (.inr 1826)]) rfl ?_
                            have g264 : -2147483648 ≤ (H233.1 1826 40) ∧ (H233.1 1826 40) ≤ 2147483647 := hrg234.1 1826 13 40 _ .int rfl rfl
                            have e265 : (H233.1 1826 40) = (H1.1 1826 40) := hx233f.2.2 40 (by decide)
                            refine h_cv (i := 353) (j := 179) (b := 1826) (M' := mt_179) (xs := [.inl 1, .inl (aty H1 (H1.1 1852 ((H1.1 1826 47) - 1).toNat) (H1.1 1853 ((H1.1 1826 47) - 1).toNat))]) (rest := []) rfl rfl rfl rfl rfl rfl (Nat.le_of_ble_eq_true rfl) (Nat.le_of_ble_eq_true rfl) (by omega) (n_patC01 (by omega) (by omega : (2 : Int) ≠ 0) (by omega : 0 ≤ (H233.1 1826 40) ∧ (H233.1 1826 40) ≤ 999)) ?_
                            rintro _ _ ⟨rfl, rfl⟩
                            refine h_run 0 (pc' := 256) (l' := [(0, .inr (.inr 1826)), (1, .inl (f : Int)), (2, .inl (aty H1 (H1.1 1852 ((H1.1 1826 47) - 1).toNat) (H1.1 1853 ((H1.1 1826 47) - 1).toNat)))]) (st' := []) rfl ?_
                            refine h_run 2 (pc' := 22) (l' := [(0, .inr (.inr 1826)), (1, .inl (f : Int)), (2, .inl (aty H1 (H1.1 1852 ((H1.1 1826 47) - 1).toNat) (H1.1 1853 ((H1.1 1826 47) - 1).toNat)))]) (st' := []) rfl ?_
                            have g266 : -2147483648 ≤ (H233.1 1826 30) ∧ (H233.1 1826 30) ≤ 2147483647 := hrg234.1 1826 13 30 _ .int rfl rfl
                            have g267 : -2147483648 ≤ (H233.1 1826 32) ∧ (H233.1 1826 32) ≤ 2147483647 := hrg234.1 1826 13 32 _ .int rfl rfl
                            have g268 : -2147483648 ≤ (H233.1 1826 29) ∧ (H233.1 1826 29) ≤ 2147483647 := hrg234.1 1826 13 29 _ .int rfl rfl
                            have e269 : (H233.1 1826 29) = (H1.1 1826 29) := hx233f.2.2 29 (by decide)
                            have g270 : -2147483648 ≤ (H233.1 1826 47) ∧ (H233.1 1826 47) ≤ 2147483647 := hrg234.1 1826 13 47 _ .int rfl rfl
                            have e271 : (H233.1 1826 47) = (H1.1 1826 47) := hx233f.2.2 47 (by decide)
                            have g272 : -2147483648 ≤ (H233.1 1826 41) ∧ (H233.1 1826 41) ≤ 2147483647 := hrg234.1 1826 13 41 _ .int rfl rfl
                            have e273 : (H233.1 1826 41) = ((H1.1 1826 41) + 1) := hx233f.2.2 41 (by decide)
                            refine h_loc [0, 1] rfl ?_
                            exact ih _ (fr_o (fr_o (fr_o hf235 (by decide)) (by decide)) (by decide)) (by omega : (H.1 1826 30) ≤ (H233.1 1826 30) ∧ (H233.1 1826 30) ≤ (H.1 1826 29)) (by omega : 0 ≤ (2 : Int) ∧ (2 : Int) ≤ 5) (by omega : 0 ≤ (H233.1 1826 32) ∧ (H233.1 1826 32) ≤ 1000) (by omega : (H.1 1826 35) ≠ 0 → (2 : Int) ≠ 0) (fun (q : (2 : Int) = 0) => absurd q (by omega)) (Or.inr ⟨(by omega : (2 : Int) ≠ 0), (BD_mk hR2 (fr_o (fr_o (fr_o (fr_rf [35, 36, 40] [] H233) (by decide)) (by decide)) (by decide)) (by decide) (by decide) (by decide : (2 : Int) ≠ 0) rfl rfl (rch_st hq4 (by show stPat Y (aty H1 ((H1.1 1852) (n - 1)) ((H1.1 1853) (n - 1))) ((n - 1 : Nat) : Int) (spk (H1.1 1852) (up (H1.1 1853) (n - 1) (((H1.1 1853) (n - 1)) + 1)) n ++ K) X1 = _; unfold stPat miss; (repeat (first | rw [if_pos (by omega)] | rw [if_neg (by omega)])); try (first | rfl | (exfalso; omega)))))⟩) (mu_lt hw (by omega) (by omega : (2 : Int) ≠ 0 ∨ ((H1.1 1826 30) ≤ (H233.1 1826 30) ∧ (H233.1 1826 30) ≤ (H.1 1826 29) ∧ (((H233.1 1826 31) = 0 ∧ (H1.1 1826 31) ≠ 0) ∨ (H1.1 1826 30) < (H233.1 1826 30)))))
                        · have b237x : (H233.1 1826 35) ≠ 0 := b237
                          clear hx233g
                          refine h_run 0 (pc' := 234) (l' := [(0, .inr (.inr 1826)), (1, .inl (f : Int)), (2, .inl (aty H1 (H1.1 1852 ((H1.1 1826 47) - 1).toNat) (H1.1 1853 ((H1.1 1826 47) - 1).toNat)))]) (st' := [.inl 0]) rfl ?_
                          refine h_zeq (off := 16) (t := 250) rfl rfl (by decide) (fun _ => ?_) (fun c => absurd c (by decide))
                          refine h_run 3 (pc' := 253) (l' := [(0, .inr (.inr 1826)), (1, .inl (f : Int)), (2, .inl (aty H1 (H1.1 1852 ((H1.1 1826 47) - 1).toNat) (H1.1 1853 ((H1.1 1826 47) - 1).toNat)))]) (st' := [.inl 1, .inl (aty H1 (H1.1 1852 ((H1.1 1826 47) - 1).toNat) (H1.1 1853 ((H1.1 1826 47) - 1).toNat)), .inr (.inr 1826)]) rfl ?_
                          have g274 : -2147483648 ≤ (H233.1 1826 40) ∧ (H233.1 1826 40) ≤ 2147483647 := hrg234.1 1826 13 40 _ .int rfl rfl
                          have e275 : (H233.1 1826 40) = (H1.1 1826 40) := hx233f.2.2 40 (by decide)
                          refine h_cv (i := 353) (j := 179) (b := 1826) (M' := mt_179) (xs := [.inl 1, .inl (aty H1 (H1.1 1852 ((H1.1 1826 47) - 1).toNat) (H1.1 1853 ((H1.1 1826 47) - 1).toNat))]) (rest := []) rfl rfl rfl rfl rfl rfl (Nat.le_of_ble_eq_true rfl) (Nat.le_of_ble_eq_true rfl) (by omega) (n_patC01 (by omega) (by omega : (H233.1 1826 35) ≠ 0) (by omega : 0 ≤ (H233.1 1826 40) ∧ (H233.1 1826 40) ≤ 999)) ?_
                          rintro _ _ ⟨rfl, rfl⟩
                          refine h_run 0 (pc' := 256) (l' := [(0, .inr (.inr 1826)), (1, .inl (f : Int)), (2, .inl (aty H1 (H1.1 1852 ((H1.1 1826 47) - 1).toNat) (H1.1 1853 ((H1.1 1826 47) - 1).toNat)))]) (st' := []) rfl ?_
                          refine h_run 2 (pc' := 22) (l' := [(0, .inr (.inr 1826)), (1, .inl (f : Int)), (2, .inl (aty H1 (H1.1 1852 ((H1.1 1826 47) - 1).toNat) (H1.1 1853 ((H1.1 1826 47) - 1).toNat)))]) (st' := []) rfl ?_
                          have g276 : -2147483648 ≤ (H233.1 1826 30) ∧ (H233.1 1826 30) ≤ 2147483647 := hrg234.1 1826 13 30 _ .int rfl rfl
                          have g277 : -2147483648 ≤ (H233.1 1826 32) ∧ (H233.1 1826 32) ≤ 2147483647 := hrg234.1 1826 13 32 _ .int rfl rfl
                          have g278 : -2147483648 ≤ (H233.1 1826 31) ∧ (H233.1 1826 31) ≤ 2147483647 := hrg234.1 1826 13 31 _ .int rfl rfl
                          have g279 : -2147483648 ≤ (H233.1 1826 29) ∧ (H233.1 1826 29) ≤ 2147483647 := hrg234.1 1826 13 29 _ .int rfl rfl
                          have e280 : (H233.1 1826 29) = (H1.1 1826 29) := hx233f.2.2 29 (by decide)
                          have g281 : -2147483648 ≤ (H233.1 1826 47) ∧ (H233.1 1826 47) ≤ 2147483647 := hrg234.1 1826 13 47 _ .int rfl rfl
                          have e282 : (H233.1 1826 47) = (H1.1 1826 47) := hx233f.2.2 47 (by decide)
                          have g283 : -2147483648 ≤ (H233.1 1826 41) ∧ (H233.1 1826 41) ≤ 2147483647 := hrg234.1 1826 13 41 _ .int rfl rfl
                          have e284 : (H233.1 1826 41) = ((H1.1 1826 41) + 1) := hx233f.2.2 41 (by decide)
                          refine h_loc [0, 1] rfl ?_
                          exact ih _ (fr_o hf235 (by decide)) (by omega : (H.1 1826 30) ≤ (H233.1 1826 30) ∧ (H233.1 1826 30) ≤ (H.1 1826 29)) (by omega : 0 ≤ (H233.1 1826 35) ∧ (H233.1 1826 35) ≤ 5) (by omega : 0 ≤ (H233.1 1826 32) ∧ (H233.1 1826 32) ≤ 1000) (by omega : (H.1 1826 35) ≠ 0 → (H233.1 1826 35) ≠ 0) (fun (q : (H233.1 1826 35) = 0) => absurd q (by omega)) (Or.inr ⟨(by omega : (H233.1 1826 35) ≠ 0), BD_fr (GB_b hx233n (by omega)) (fr_o (fr_rf [40] [] H233) (by decide)) (by decide) (by decide)⟩) (mu_lt hw (by omega) (by omega : (H233.1 1826 35) ≠ 0 ∨ ((H1.1 1826 30) ≤ (H233.1 1826 30) ∧ (H233.1 1826 30) ≤ (H.1 1826 29) ∧ (((H233.1 1826 31) = 0 ∧ (H1.1 1826 31) ≠ 0) ∨ (H1.1 1826 30) < (H233.1 1826 30)))))
                  · refine h_run 3 (pc' := 200) (l' := [(0, .inr (.inr 1826)), (1, .inl (f : Int)), (2, .inl (aty H1 (H1.1 1852 ((H1.1 1826 47) - 1).toNat) (H1.1 1853 ((H1.1 1826 47) - 1).toNat)))]) (st' := [.inl 0, .inl (aty H1 (H1.1 1852 ((H1.1 1826 47) - 1).toNat) (H1.1 1853 ((H1.1 1826 47) - 1).toNat)), .inr (.inr 1826)]) rfl ?_
                    have g285 : -2147483648 ≤ (H1.1 1826 40) ∧ (H1.1 1826 40) ≤ 2147483647 := hrg1.1 1826 13 40 _ .int rfl rfl
                    have g286 : -2147483648 ≤ (H1.1 1826 30) ∧ (H1.1 1826 30) ≤ 2147483647 := hrg1.1 1826 13 30 _ .int rfl rfl
                    have g287 : -2147483648 ≤ (H1.1 1826 29) ∧ (H1.1 1826 29) ≤ 2147483647 := hrg1.1 1826 13 29 _ .int rfl rfl
                    have e288 : (H1.1 1826 29) = (H.1 1826 29) := hf.2.2 29 (by decide)
                    have g289 : -2147483648 ≤ (H1.1 1826 43) ∧ (H1.1 1826 43) ≤ 2147483647 := hrg1.1 1826 13 43 _ .int rfl rfl
                    have g290 : -2147483648 ≤ (H1.1 1826 41) ∧ (H1.1 1826 41) ≤ 2147483647 := hrg1.1 1826 13 41 _ .int rfl rfl
                    have g292 : -2147483648 ≤ (H1.1 1826 32) ∧ (H1.1 1826 32) ≤ 2147483647 := hrg1.1 1826 13 32 _ .int rfl rfl
                    refine h_cv (i := 353) (j := 179) (b := 1826) (M' := mt_179) (xs := [.inl 0, .inl (aty H1 (H1.1 1852 ((H1.1 1826 47) - 1).toNat) (H1.1 1853 ((H1.1 1826 47) - 1).toNat))]) (rest := []) rfl rfl rfl rfl rfl rfl (Nat.le_of_ble_eq_true rfl) (Nat.le_of_ble_eq_true rfl) (by omega) (n_patCon0 (by omega) (by omega : 0 ≤ (H1.1 1826 30) ∧ (H1.1 1826 30) ≤ (H1.1 1826 29) ∧ (H1.1 1826 29) ≤ 1000) (by omega : 0 ≤ (H1.1 1826 35) ∧ (H1.1 1826 35) ≤ 5) (by omega : 0 ≤ (H1.1 1826 32) ∧ (H1.1 1826 32) ≤ 1000) hP1 (by omega : 1 ≤ (H1.1 1826 47) ∧ (H1.1 1826 47) ≤ 63) (by omega : 0 ≤ (H1.1 1826 40) ∧ (H1.1 1826 40) ≤ 999) (by omega : 0 ≤ (H1.1 1826 43) ∧ (H1.1 1826 43) ≤ 46) (by omega : 0 ≤ (H1.1 1853 ((H1.1 1826 47) - 1).toNat) ∧ (H1.1 1853 ((H1.1 1826 47) - 1).toNat) ≤ 1000) (by omega) (by omega : (H1.1 1826 35) = 0) (by omega : (H1.1 1826 40) ≤ 40) (by omega : (H1.1 1826 31) = 2) hR1 hV1 (show rch Y c0 (stPcon Y (aty H1 (H1.1 1852 ((H1.1 1826 47) - 1).toNat) (H1.1 1853 ((H1.1 1826 47) - 1).toNat)) ((n - 1 : Nat) : Int) 0 (cfd Y X1) (spk (H1.1 1852) (up (H1.1 1853) (n - 1) (((H1.1 1853) (n - 1)) + 1)) n ++ K) X1) from (by rw [hidx]; exact (rch_st hq4 (by show stPat Y (aty H1 ((H1.1 1852) (n - 1)) ((H1.1 1853) (n - 1))) ((n - 1 : Nat) : Int) (spk (H1.1 1852) (up (H1.1 1853) (n - 1) (((H1.1 1853) (n - 1)) + 1)) n ++ K) X1 = _; unfold stPat miss; (repeat (first | rw [if_pos (by omega)] | rw [if_neg (by omega)])); try (first | rfl | (exfalso; omega)))))) (lk_app hK spk_ok)) ?_
                    rintro _ H291 ⟨rfl, hx291gb, hx291f, hx291a, hx291c, -, hx291e, hx291n, hx291g, hx291p⟩
                    refine h_rng (fun hrg293 => ?_)
                    have hf294 : fr [30, 31, 32, 33, 35, 36, 39, 40, 41, 43, 47] [1849, 1850, 1851, 1852, 1853] H H291 := fr_t hf hx291f (by decide) (by decide)
                    replace hx291a : (H1.1 1826 30) ≤ (H291.1 1826 30) ∧ (H291.1 1826 30) ≤ (H1.1 1826 29) := hx291a
                    replace hx291g : (H291.1 1826 35) = 0 → (H291.1 1826 31) = 0 ∨ (H1.1 1826 30) < (H291.1 1826 30) := hx291g
                    replace hx291n : 0 ≤ (H291.1 1826 40) ∧ (H291.1 1826 40) ≤ (H1.1 1826 40) + 1 := hx291n
                    refine h_run 0 (pc' := 203) (l' := [(0, .inr (.inr 1826)), (1, .inl (f : Int)), (2, .inl (aty H1 (H1.1 1852 ((H1.1 1826 47) - 1).toNat) (H1.1 1853 ((H1.1 1826 47) - 1).toNat)))]) (st' := []) rfl ?_
                    refine h_run 2 (pc' := 22) (l' := [(0, .inr (.inr 1826)), (1, .inl (f : Int)), (2, .inl (aty H1 (H1.1 1852 ((H1.1 1826 47) - 1).toNat) (H1.1 1853 ((H1.1 1826 47) - 1).toNat)))]) (st' := []) rfl ?_
                    have g295 : -2147483648 ≤ (H291.1 1826 30) ∧ (H291.1 1826 30) ≤ 2147483647 := hrg293.1 1826 13 30 _ .int rfl rfl
                    have g296 : -2147483648 ≤ (H291.1 1826 35) ∧ (H291.1 1826 35) ≤ 2147483647 := hrg293.1 1826 13 35 _ .int rfl rfl
                    have g297 : -2147483648 ≤ (H291.1 1826 32) ∧ (H291.1 1826 32) ≤ 2147483647 := hrg293.1 1826 13 32 _ .int rfl rfl
                    have g298 : -2147483648 ≤ (H291.1 1826 31) ∧ (H291.1 1826 31) ≤ 2147483647 := hrg293.1 1826 13 31 _ .int rfl rfl
                    have g299 : -2147483648 ≤ (H291.1 1826 29) ∧ (H291.1 1826 29) ≤ 2147483647 := hrg293.1 1826 13 29 _ .int rfl rfl
                    have e300 : (H291.1 1826 29) = (H1.1 1826 29) := hx291f.2.2 29 (by decide)
                    have g301 : -2147483648 ≤ (H291.1 1826 47) ∧ (H291.1 1826 47) ≤ 2147483647 := hrg293.1 1826 13 47 _ .int rfl rfl
                    have g302 : -2147483648 ≤ (H291.1 1826 41) ∧ (H291.1 1826 41) ≤ 2147483647 := hrg293.1 1826 13 41 _ .int rfl rfl
                    have e303 : (H291.1 1826 41) = (H1.1 1826 41) := hx291f.2.2 41 (by decide)
                    refine h_loc [0, 1] rfl ?_
                    exact ih _ hf294 (by omega : (H.1 1826 30) ≤ (H291.1 1826 30) ∧ (H291.1 1826 30) ≤ (H.1 1826 29)) (by omega : 0 ≤ (H291.1 1826 35) ∧ (H291.1 1826 35) ≤ 5) (by omega : 0 ≤ (H291.1 1826 32) ∧ (H291.1 1826 32) ≤ 1000) (by omega : (H.1 1826 35) ≠ 0 → (H291.1 1826 35) ≠ 0) (fun q => by obtain ⟨c, k1, k2, k3, ⟨k5, k6, k7⟩, k8, k9, k10⟩ := hx291p q; have hcc := (pw1c c (by omega)).1; have es : ((1 : Int) + c - 1).toNat = c := (by omega); rw [hidx] at k10; exact PT_step (q := 0) hPT1 (Or.inl ⟨by omega, by omega⟩) (by rw [ma_c (by omega), es]; omega) (by omega) hno (hx291f.2.1 1833 (by decide) (by decide)) (hx291f.2.1 1830 (by decide) (by decide)) ⟨hx291f.2.2 3 (by decide), hx291f.2.2 8 (by decide)⟩ (by omega) ⟨k5, k6⟩ k8 (Or.inl (hx291f.2.2 39 (by decide))) (Or.inl ⟨rfl, k7, hx291f.2.2 41 (by decide), k9, k10⟩)) (GB_i hx291gb (fun q => q.elim (fun c g => by obtain ⟨⟨g1, g2, g3⟩, ⟨g4, g5, g6⟩, g7, g8, g9⟩ := g; rw [hidx] at g6; exact ⟨_, (by rw [SP_of (H := H291) (n := n) (g4.trans (by omega)) g5 g6]; exact rch_st g7 (by show (if (0 : Int) < ar (xput X1 (1 + (c : Int))) (1 + (c : Int)) then _ else _) = _; rw [if_neg (by rw [ar_put, ar_H hR1 (by omega) (Or.inl ⟨by omega, by omega⟩) (by omega), ma_c (by omega), show ((1 : Int) + c - 1).toNat = c by omega]; omega)])), g8, g9⟩))) (mu_lt hw (by omega) (by omega : (H291.1 1826 35) ≠ 0 ∨ ((H1.1 1826 30) ≤ (H291.1 1826 30) ∧ (H291.1 1826 30) ≤ (H.1 1826 29) ∧ (((H291.1 1826 31) = 0 ∧ (H1.1 1826 31) ≠ 0) ∨ (H1.1 1826 30) < (H291.1 1826 30)))))
                · refine h_run 4 (pc' := 100) (l' := [(0, .inr (.inr 1826)), (1, .inl (f : Int)), (2, .inl (aty H1 (H1.1 1852 ((H1.1 1826 47) - 1).toNat) (H1.1 1853 ((H1.1 1826 47) - 1).toNat)))]) (st' := [.inl (H1.1 1826 8), .inr (.inr 1832)]) rfl ?_
                  have g304 : -2147483648 ≤ (H1.1 1826 8) ∧ (H1.1 1826 8) ≤ 2147483647 := hrg1.1 1826 13 8 _ .int rfl rfl
                  have e305 : (H1.1 1826 8) = (H.1 1826 8) := hf.2.2 8 (by decide)
                  refine h_run 2 (pc' := 104) (l' := [(0, .inr (.inr 1826)), (1, .inl (f : Int)), (2, .inl (aty H1 (H1.1 1852 ((H1.1 1826 47) - 1).toNat) (H1.1 1853 ((H1.1 1826 47) - 1).toNat)))]) (st' := [.inr (.inl (H1.1 1826 33)), .inl (H1.1 1826 8), .inr (.inr 1832)]) rfl ?_
                  have g306 : -9223372036854775808 ≤ (H1.1 1826 33) ∧ (H1.1 1826 33) ≤ 9223372036854775807 := hrg1.1 1826 13 33 _ .long rfl rfl
                  refine h_cs (i := 309) (j := 167) (M' := mt_167) (xs := [.inr (.inl (H1.1 1826 33)), .inl (H1.1 1826 8), .inr (.inr 1832)]) (rest := []) rfl rfl rfl rfl rfl (Nat.le_of_ble_eq_true rfl) (Nat.le_of_ble_eq_true rfl) (by omega) (n_find (by omega) (m := 16) (z := ffd Y X1) rfl (by omega : 0 ≤ (H1.1 1826 8) ∧ (H1.1 1826 8) ≤ ((16 : Nat) : Int) ∧ 16 ≤ 100) (by omega) (RK_ff hR1 (Or.inl (by omega)))) ?_
                  rintro _ _ ⟨⟨k307, rfl, f308, f308x⟩ | ⟨rfl, f308⟩, rfl⟩
                  · refine h_run 0 (pc' := 107) (l' := [(0, .inr (.inr 1826)), (1, .inl (f : Int)), (2, .inl (aty H1 (H1.1 1852 ((H1.1 1826 47) - 1).toNat) (H1.1 1853 ((H1.1 1826 47) - 1).toNat)))]) (st' := [.inl (k307 : Int)]) rfl ?_
                    refine h_run 1 (pc' := 108) (l' := [(0, .inr (.inr 1826)), (1, .inl (f : Int)), (2, .inl (aty H1 (H1.1 1852 ((H1.1 1826 47) - 1).toNat) (H1.1 1853 ((H1.1 1826 47) - 1).toNat)))]) (st' := [.inl (-1), .inl (k307 : Int)]) rfl ?_
                    refine h_ieq (off := 11) (t := 119) rfl rfl (by omega) (by decide) (fun c309 => ?_) (fun c309 => ?_)
                    · exfalso
                      omega
                    · refine h_run 2 (pc' := 113) (l' := [(0, .inr (.inr 1826)), (1, .inl (f : Int)), (2, .inl (aty H1 (H1.1 1852 ((H1.1 1826 47) - 1).toNat) (H1.1 1853 ((H1.1 1826 47) - 1).toNat)))]) (st' := [.inl 2, .inr (.inr 1826)]) rfl ?_
                      refine h_cv (i := 278) (j := 159) (b := 1826) (M' := mt_159) (xs := [.inl 2]) (rest := []) rfl rfl rfl rfl rfl rfl (Nat.le_of_ble_eq_true rfl) (Nat.le_of_ble_eq_true rfl) (by omega) (m_bad0 (by omega) (by omega) (by omega : (H1.1 1826 35) = 0)) ?_
                      rintro _ _ ⟨rfl, rfl⟩
                      refine h_run 0 (pc' := 116) (l' := [(0, .inr (.inr 1826)), (1, .inl (f : Int)), (2, .inl (aty H1 (H1.1 1852 ((H1.1 1826 47) - 1).toNat) (H1.1 1853 ((H1.1 1826 47) - 1).toNat)))]) (st' := []) rfl ?_
                      refine h_run 2 (pc' := 144) (l' := [(0, .inr (.inr 1826)), (1, .inl (f : Int)), (2, .inl (aty H1 (H1.1 1852 ((H1.1 1826 47) - 1).toNat) (H1.1 1853 ((H1.1 1826 47) - 1).toNat)))]) (st' := [.inr (.inr 1826)]) rfl ?_
                      have g310 : -2147483648 ≤ (H1.1 1826 40) ∧ (H1.1 1826 40) ≤ 2147483647 := hrg1.1 1826 13 40 _ .int rfl rfl
                      refine h_cv (i := 344) (j := 168) (b := 1826) (M' := mt_168) (xs := []) (rest := []) rfl rfl rfl rfl rfl rfl (Nat.le_of_ble_eq_true rfl) (Nat.le_of_ble_eq_true rfl) (by omega) (m_countC (by omega) (by omega : (2 : Int) ≠ 0) (by omega : 0 ≤ (H1.1 1826 40) ∧ (H1.1 1826 40) ≤ 1000)) ?_
                      rintro _ _ ⟨rfl, rfl⟩
                      refine h_run 0 (pc' := 147) (l' := [(0, .inr (.inr 1826)), (1, .inl (f : Int)), (2, .inl (aty H1 (H1.1 1852 ((H1.1 1826 47) - 1).toNat) (H1.1 1853 ((H1.1 1826 47) - 1).toNat)))]) (st' := []) rfl ?_
                      refine h_run 1 (pc' := 148) (l' := [(0, .inr (.inr 1826)), (1, .inl (f : Int)), (2, .inl (aty H1 (H1.1 1852 ((H1.1 1826 47) - 1).toNat) (H1.1 1853 ((H1.1 1826 47) - 1).toNat)))]) (st' := [.inr (.inr 1826)]) rfl ?_
                      refine h_cv (i := 293) (j := 158) (b := 1826) (M' := mt_158) (xs := []) (rest := []) rfl rfl rfl rfl rfl rfl (Nat.le_of_ble_eq_true rfl) (Nat.le_of_ble_eq_true rfl) (by omega) (m_good0 (by omega) (by omega : (2 : Int) ≠ 0)) ?_
                      rintro _ _ ⟨rfl, rfl⟩
                      refine h_run 0 (pc' := 151) (l' := [(0, .inr (.inr 1826)), (1, .inl (f : Int)), (2, .inl (aty H1 (H1.1 1852 ((H1.1 1826 47) - 1).toNat) (H1.1 1853 ((H1.1 1826 47) - 1).toNat)))]) (st' := [.inl 0]) rfl ?_
                      refine h_zeq (off := 113) (t := 264) rfl rfl (by decide) (fun _ => ?_) (fun c => absurd c (by decide))
                      refine h_run 1 (pc' := 22) (l' := [(0, .inr (.inr 1826)), (1, .inl (f : Int)), (2, .inl (aty H1 (H1.1 1852 ((H1.1 1826 47) - 1).toNat) (H1.1 1853 ((H1.1 1826 47) - 1).toNat)))]) (st' := []) rfl ?_
                      have g311 : -2147483648 ≤ (H1.1 1826 30) ∧ (H1.1 1826 30) ≤ 2147483647 := hrg1.1 1826 13 30 _ .int rfl rfl
                      have g312 : -2147483648 ≤ (H1.1 1826 32) ∧ (H1.1 1826 32) ≤ 2147483647 := hrg1.1 1826 13 32 _ .int rfl rfl
                      have g313 : -2147483648 ≤ (H1.1 1826 29) ∧ (H1.1 1826 29) ≤ 2147483647 := hrg1.1 1826 13 29 _ .int rfl rfl
                      have e314 : (H1.1 1826 29) = (H.1 1826 29) := hf.2.2 29 (by decide)
                      have g315 : -2147483648 ≤ (H1.1 1826 41) ∧ (H1.1 1826 41) ≤ 2147483647 := hrg1.1 1826 13 41 _ .int rfl rfl
                      refine h_loc [0, 1] rfl ?_
                      exact ih _ (fr_o (fr_o (fr_o hf (by decide)) (by decide)) (by decide)) (by omega : (H.1 1826 30) ≤ (H1.1 1826 30) ∧ (H1.1 1826 30) ≤ (H.1 1826 29)) (by omega : 0 ≤ (2 : Int) ∧ (2 : Int) ≤ 5) (by omega : 0 ≤ (H1.1 1826 32) ∧ (H1.1 1826 32) ≤ 1000) (by omega : (H.1 1826 35) ≠ 0 → (2 : Int) ≠ 0) (fun (q : (2 : Int) = 0) => absurd q (by omega)) (Or.inr ⟨(by omega : (2 : Int) ≠ 0), (BD_mk hR1 (fr_o (fr_o (fr_o (fr_rf [35, 36, 40] [] H1) (by decide)) (by decide)) (by decide)) (by decide) (by decide) (by decide : (2 : Int) ≠ 0) rfl rfl (rch_st hq4 (by show stPat Y (aty H1 ((H1.1 1852) (n - 1)) ((H1.1 1853) (n - 1))) ((n - 1 : Nat) : Int) (spk (H1.1 1852) (up (H1.1 1853) (n - 1) (((H1.1 1853) (n - 1)) + 1)) n ++ K) X1 = _; unfold stPat miss; (repeat (first | rw [if_pos (by omega)] | rw [if_neg (by omega)])); try (first | rfl | (exfalso; omega)))))⟩) (mu_lt hw (by omega) (by omega : (2 : Int) ≠ 0 ∨ ((H1.1 1826 30) ≤ (H1.1 1826 30) ∧ (H1.1 1826 30) ≤ (H.1 1826 29) ∧ (((H1.1 1826 31) = 0 ∧ (H1.1 1826 31) ≠ 0) ∨ (H1.1 1826 30) < (H1.1 1826 30)))))
                  · refine h_run 0 (pc' := 107) (l' := [(0, .inr (.inr 1826)), (1, .inl (f : Int)), (2, .inl (aty H1 (H1.1 1852 ((H1.1 1826 47) - 1).toNat) (H1.1 1853 ((H1.1 1826 47) - 1).toNat)))]) (st' := [.inl (-1)]) rfl ?_
                    refine h_run 1 (pc' := 108) (l' := [(0, .inr (.inr 1826)), (1, .inl (f : Int)), (2, .inl (aty H1 (H1.1 1852 ((H1.1 1826 47) - 1).toNat) (H1.1 1853 ((H1.1 1826 47) - 1).toNat)))]) (st' := [.inl (-1), .inl (-1)]) rfl ?_
                    refine h_ieq (off := 11) (t := 119) rfl rfl (by decide) (by decide) (fun _ => ?_) (fun c => absurd c (by decide))
                    refine h_run 4 (pc' := 127) (l' := [(0, .inr (.inr 1826)), (1, .inl (f : Int)), (2, .inl (aty H1 (H1.1 1852 ((H1.1 1826 47) - 1).toNat) (H1.1 1853 ((H1.1 1826 47) - 1).toNat)))]) (st' := [.inl (H1.1 1826 39), .inr (.inr 1849)]) rfl ?_
                    have g316 : -2147483648 ≤ (H1.1 1826 39) ∧ (H1.1 1826 39) ≤ 2147483647 := hrg1.1 1826 13 39 _ .int rfl rfl
                    refine h_run 2 (pc' := 131) (l' := [(0, .inr (.inr 1826)), (1, .inl (f : Int)), (2, .inl (aty H1 (H1.1 1852 ((H1.1 1826 47) - 1).toNat) (H1.1 1853 ((H1.1 1826 47) - 1).toNat)))]) (st' := [.inr (.inl (H1.1 1826 33)), .inl (H1.1 1826 39), .inr (.inr 1849)]) rfl ?_
                    refine h_cs (i := 309) (j := 167) (M' := mt_167) (xs := [.inr (.inl (H1.1 1826 33)), .inl (H1.1 1826 39), .inr (.inr 1849)]) (rest := []) rfl rfl rfl rfl rfl (Nat.le_of_ble_eq_true rfl) (Nat.le_of_ble_eq_true rfl) (by omega) (n_find (by omega) (m := 48) (z := fnd (X1 10) (X1 0 1) (tn Y (xi X1))) rfl (by omega : 0 ≤ (H1.1 1826 39) ∧ (H1.1 1826 39) ≤ ((48 : Nat) : Int) ∧ 48 ≤ 100) (by omega) (VP_vf hR1 hV1 (Or.inl (by omega)))) ?_
                    rintro _ _ ⟨⟨k317, rfl, f318, f318x⟩ | ⟨rfl, f318⟩, rfl⟩
                    · refine h_run 0 (pc' := 134) (l' := [(0, .inr (.inr 1826)), (1, .inl (f : Int)), (2, .inl (aty H1 (H1.1 1852 ((H1.1 1826 47) - 1).toNat) (H1.1 1853 ((H1.1 1826 47) - 1).toNat)))]) (st' := [.inl (k317 : Int)]) rfl ?_
                      refine h_run 1 (pc' := 135) (l' := [(0, .inr (.inr 1826)), (1, .inl (f : Int)), (2, .inl (aty H1 (H1.1 1852 ((H1.1 1826 47) - 1).toNat) (H1.1 1853 ((H1.1 1826 47) - 1).toNat)))]) (st' := [.inl (-1), .inl (k317 : Int)]) rfl ?_
                      refine h_ieq (off := 8) (t := 143) rfl rfl (by omega) (by decide) (fun c319 => ?_) (fun c319 => ?_)
                      · exfalso
                        omega
                      · refine h_run 2 (pc' := 140) (l' := [(0, .inr (.inr 1826)), (1, .inl (f : Int)), (2, .inl (aty H1 (H1.1 1852 ((H1.1 1826 47) - 1).toNat) (H1.1 1853 ((H1.1 1826 47) - 1).toNat)))]) (st' := [.inl 3, .inr (.inr 1826)]) rfl ?_
                        refine h_cv (i := 278) (j := 159) (b := 1826) (M' := mt_159) (xs := [.inl 3]) (rest := []) rfl rfl rfl rfl rfl rfl (Nat.le_of_ble_eq_true rfl) (Nat.le_of_ble_eq_true rfl) (by omega) (m_bad0 (by omega) (by omega) (by omega : (H1.1 1826 35) = 0)) ?_
                        rintro _ _ ⟨rfl, rfl⟩
                        refine h_run 0 (pc' := 143) (l' := [(0, .inr (.inr 1826)), (1, .inl (f : Int)), (2, .inl (aty H1 (H1.1 1852 ((H1.1 1826 47) - 1).toNat) (H1.1 1853 ((H1.1 1826 47) - 1).toNat)))]) (st' := []) rfl ?_
                        refine h_run 1 (pc' := 144) (l' := [(0, .inr (.inr 1826)), (1, .inl (f : Int)), (2, .inl (aty H1 (H1.1 1852 ((H1.1 1826 47) - 1).toNat) (H1.1 1853 ((H1.1 1826 47) - 1).toNat)))]) (st' := [.inr (.inr 1826)]) rfl ?_
                        have g320 : -2147483648 ≤ (H1.1 1826 40) ∧ (H1.1 1826 40) ≤ 2147483647 := hrg1.1 1826 13 40 _ .int rfl rfl
                        refine h_cv (i := 344) (j := 168) (b := 1826) (M' := mt_168) (xs := []) (rest := []) rfl rfl rfl rfl rfl rfl (Nat.le_of_ble_eq_true rfl) (Nat.le_of_ble_eq_true rfl) (by omega) (m_countC (by omega) (by omega : (3 : Int) ≠ 0) (by omega : 0 ≤ (H1.1 1826 40) ∧ (H1.1 1826 40) ≤ 1000)) ?_
                        rintro _ _ ⟨rfl, rfl⟩
                        refine h_run 0 (pc' := 147) (l' := [(0, .inr (.inr 1826)), (1, .inl (f : Int)), (2, .inl (aty H1 (H1.1 1852 ((H1.1 1826 47) - 1).toNat) (H1.1 1853 ((H1.1 1826 47) - 1).toNat)))]) (st' := []) rfl ?_
                        refine h_run 1 (pc' := 148) (l' := [(0, .inr (.inr 1826)), (1, .inl (f : Int)), (2, .inl (aty H1 (H1.1 1852 ((H1.1 1826 47) - 1).toNat) (H1.1 1853 ((H1.1 1826 47) - 1).toNat)))]) (st' := [.inr (.inr 1826)]) rfl ?_
                        refine h_cv (i := 293) (j := 158) (b := 1826) (M' := mt_158) (xs := []) (rest := []) rfl rfl rfl rfl rfl rfl (Nat.le_of_ble_eq_true rfl) (Nat.le_of_ble_eq_true rfl) (by omega) (m_good0 (by omega) (by omega : (3 : Int) ≠ 0)) ?_
                        rintro _ _ ⟨rfl, rfl⟩
                        refine h_run 0 (pc' := 151) (l' := [(0, .inr (.inr 1826)), (1, .inl (f : Int)), (2, .inl (aty H1 (H1.1 1852 ((H1.1 1826 47) - 1).toNat) (H1.1 1853 ((H1.1 1826 47) - 1).toNat)))]) (st' := [.inl 0]) rfl ?_
                        refine h_zeq (off := 113) (t := 264) rfl rfl (by decide) (fun _ => ?_) (fun c => absurd c (by decide))
                        refine h_run 1 (pc' := 22) (l' := [(0, .inr (.inr 1826)), (1, .inl (f : Int)), (2, .inl (aty H1 (H1.1 1852 ((H1.1 1826 47) - 1).toNat) (H1.1 1853 ((H1.1 1826 47) - 1).toNat)))]) (st' := []) rfl ?_
                        have g321 : -2147483648 ≤ (H1.1 1826 30) ∧ (H1.1 1826 30) ≤ 2147483647 := hrg1.1 1826 13 30 _ .int rfl rfl
                        have g322 : -2147483648 ≤ (H1.1 1826 32) ∧ (H1.1 1826 32) ≤ 2147483647 := hrg1.1 1826 13 32 _ .int rfl rfl
                        have g323 : -2147483648 ≤ (H1.1 1826 29) ∧ (H1.1 1826 29) ≤ 2147483647 := hrg1.1 1826 13 29 _ .int rfl rfl
                        have e324 : (H1.1 1826 29) = (H.1 1826 29) := hf.2.2 29 (by decide)
                        have g325 : -2147483648 ≤ (H1.1 1826 41) ∧ (H1.1 1826 41) ≤ 2147483647 := hrg1.1 1826 13 41 _ .int rfl rfl
                        refine h_loc [0, 1] rfl ?_
                        exact ih _ (fr_o (fr_o (fr_o hf (by decide)) (by decide)) (by decide)) (by omega : (H.1 1826 30) ≤ (H1.1 1826 30) ∧ (H1.1 1826 30) ≤ (H.1 1826 29)) (by omega : 0 ≤ (3 : Int) ∧ (3 : Int) ≤ 5) (by omega : 0 ≤ (H1.1 1826 32) ∧ (H1.1 1826 32) ≤ 1000) (by omega : (H.1 1826 35) ≠ 0 → (3 : Int) ≠ 0) (fun (q : (3 : Int) = 0) => absurd q (by omega)) (Or.inr ⟨(by omega : (3 : Int) ≠ 0), (BD_mk hR1 (fr_o (fr_o (fr_o (fr_rf [35, 36, 40] [] H1) (by decide)) (by decide)) (by decide)) (by decide) (by decide) (by decide : (3 : Int) ≠ 0) rfl rfl (rch_st hq4 (by show stPat Y (aty H1 ((H1.1 1852) (n - 1)) ((H1.1 1853) (n - 1))) ((n - 1 : Nat) : Int) (spk (H1.1 1852) (up (H1.1 1853) (n - 1) (((H1.1 1853) (n - 1)) + 1)) n ++ K) X1 = _; unfold stPat miss; (repeat (first | rw [if_pos (by omega)] | rw [if_neg (by omega)])); try (first | rfl | (exfalso; omega)))))⟩) (mu_lt hw (by omega) (by omega : (3 : Int) ≠ 0 ∨ ((H1.1 1826 30) ≤ (H1.1 1826 30) ∧ (H1.1 1826 30) ≤ (H.1 1826 29) ∧ (((H1.1 1826 31) = 0 ∧ (H1.1 1826 31) ≠ 0) ∨ (H1.1 1826 30) < (H1.1 1826 30)))))
                    · refine h_run 0 (pc' := 134) (l' := [(0, .inr (.inr 1826)), (1, .inl (f : Int)), (2, .inl (aty H1 (H1.1 1852 ((H1.1 1826 47) - 1).toNat) (H1.1 1853 ((H1.1 1826 47) - 1).toNat)))]) (st' := [.inl (-1)]) rfl ?_
                      refine h_run 1 (pc' := 135) (l' := [(0, .inr (.inr 1826)), (1, .inl (f : Int)), (2, .inl (aty H1 (H1.1 1852 ((H1.1 1826 47) - 1).toNat) (H1.1 1853 ((H1.1 1826 47) - 1).toNat)))]) (st' := [.inl (-1), .inl (-1)]) rfl ?_
                      refine h_ieq (off := 8) (t := 143) rfl rfl (by decide) (by decide) (fun _ => ?_) (fun c => absurd c (by decide))
                      refine h_run 1 (pc' := 144) (l' := [(0, .inr (.inr 1826)), (1, .inl (f : Int)), (2, .inl (aty H1 (H1.1 1852 ((H1.1 1826 47) - 1).toNat) (H1.1 1853 ((H1.1 1826 47) - 1).toNat)))]) (st' := [.inr (.inr 1826)]) rfl ?_
                      have g326 : -2147483648 ≤ (H1.1 1826 40) ∧ (H1.1 1826 40) ≤ 2147483647 := hrg1.1 1826 13 40 _ .int rfl rfl
                      by_cases b327 : (H1.1 1826 40) = 40
                      · refine h_cv (i := 344) (j := 168) (b := 1826) (M' := mt_168) (xs := []) (rest := []) rfl rfl rfl rfl rfl rfl (Nat.le_of_ble_eq_true rfl) (Nat.le_of_ble_eq_true rfl) (by omega) (m_countB (by omega) (by omega : (H1.1 1826 35) = 0) (by omega : (H1.1 1826 40) = 40)) ?_
                        rintro _ _ ⟨rfl, rfl⟩
                        refine h_run 0 (pc' := 147) (l' := [(0, .inr (.inr 1826)), (1, .inl (f : Int)), (2, .inl (aty H1 (H1.1 1852 ((H1.1 1826 47) - 1).toNat) (H1.1 1853 ((H1.1 1826 47) - 1).toNat)))]) (st' := []) rfl ?_
                        refine h_run 1 (pc' := 148) (l' := [(0, .inr (.inr 1826)), (1, .inl (f : Int)), (2, .inl (aty H1 (H1.1 1852 ((H1.1 1826 47) - 1).toNat) (H1.1 1853 ((H1.1 1826 47) - 1).toNat)))]) (st' := [.inr (.inr 1826)]) rfl ?_
                        refine h_cv (i := 293) (j := 158) (b := 1826) (M' := mt_158) (xs := []) (rest := []) rfl rfl rfl rfl rfl rfl (Nat.le_of_ble_eq_true rfl) (Nat.le_of_ble_eq_true rfl) (by omega) (m_good0 (by omega) (by omega : (5 : Int) ≠ 0)) ?_
                        rintro _ _ ⟨rfl, rfl⟩
                        refine h_run 0 (pc' := 151) (l' := [(0, .inr (.inr 1826)), (1, .inl (f : Int)), (2, .inl (aty H1 (H1.1 1852 ((H1.1 1826 47) - 1).toNat) (H1.1 1853 ((H1.1 1826 47) - 1).toNat)))]) (st' := [.inl 0]) rfl ?_
                        refine h_zeq (off := 113) (t := 264) rfl rfl (by decide) (fun _ => ?_) (fun c => absurd c (by decide))
                        refine h_run 1 (pc' := 22) (l' := [(0, .inr (.inr 1826)), (1, .inl (f : Int)), (2, .inl (aty H1 (H1.1 1852 ((H1.1 1826 47) - 1).toNat) (H1.1 1853 ((H1.1 1826 47) - 1).toNat)))]) (st' := []) rfl ?_
                        have g328 : -2147483648 ≤ (H1.1 1826 30) ∧ (H1.1 1826 30) ≤ 2147483647 := hrg1.1 1826 13 30 _ .int rfl rfl
                        have g329 : -2147483648 ≤ (H1.1 1826 32) ∧ (H1.1 1826 32) ≤ 2147483647 := hrg1.1 1826 13 32 _ .int rfl rfl
                        have g330 : -2147483648 ≤ (H1.1 1826 29) ∧ (H1.1 1826 29) ≤ 2147483647 := hrg1.1 1826 13 29 _ .int rfl rfl
                        have e331 : (H1.1 1826 29) = (H.1 1826 29) := hf.2.2 29 (by decide)
                        have g332 : -2147483648 ≤ (H1.1 1826 41) ∧ (H1.1 1826 41) ≤ 2147483647 := hrg1.1 1826 13 41 _ .int rfl rfl
                        refine h_loc [0, 1] rfl ?_
                        exact ih _ (fr_o (fr_o (fr_o hf (by decide)) (by decide)) (by decide)) (by omega : (H.1 1826 30) ≤ (H1.1 1826 30) ∧ (H1.1 1826 30) ≤ (H.1 1826 29)) (by omega : 0 ≤ (5 : Int) ∧ (5 : Int) ≤ 5) (by omega : 0 ≤ (H1.1 1826 32) ∧ (H1.1 1826 32) ≤ 1000) (by omega : (H.1 1826 35) ≠ 0 → (5 : Int) ≠ 0) (fun (q : (5 : Int) = 0) => absurd q (by omega)) (Or.inr ⟨(by omega : (5 : Int) ≠ 0), (BD_mk hR1 (fr_o (fr_o (fr_o (fr_rf [35, 36, 40] [] H1) (by decide)) (by decide)) (by decide)) (by decide) (by decide) (by decide : (5 : Int) ≠ 0) rfl rfl (rch_st hq4 (by show stPat Y (aty H1 ((H1.1 1852) (n - 1)) ((H1.1 1853) (n - 1))) ((n - 1 : Nat) : Int) (spk (H1.1 1852) (up (H1.1 1853) (n - 1) (((H1.1 1853) (n - 1)) + 1)) n ++ K) X1 = _; unfold stPat miss; (repeat (first | rw [if_pos (by omega)] | rw [if_neg (by omega)])); try (first | rfl | (exfalso; omega)))))⟩) (mu_lt hw (by omega) (by omega : (5 : Int) ≠ 0 ∨ ((H1.1 1826 30) ≤ (H1.1 1826 30) ∧ (H1.1 1826 30) ≤ (H.1 1826 29) ∧ (((H1.1 1826 31) = 0 ∧ (H1.1 1826 31) ≠ 0) ∨ (H1.1 1826 30) < (H1.1 1826 30)))))
                      · refine h_cv (i := 344) (j := 168) (b := 1826) (M' := mt_168) (xs := []) (rest := []) rfl rfl rfl rfl rfl rfl (Nat.le_of_ble_eq_true rfl) (Nat.le_of_ble_eq_true rfl) (by omega) (m_countA (by omega) (by omega : (H1.1 1826 35) = 0) (by omega : 0 ≤ (H1.1 1826 40) ∧ (H1.1 1826 40) ≤ 1000) (by omega : (H1.1 1826 40) ≠ 40)) ?_
                        rintro _ _ ⟨rfl, rfl⟩
                        refine h_run 0 (pc' := 147) (l' := [(0, .inr (.inr 1826)), (1, .inl (f : Int)), (2, .inl (aty H1 (H1.1 1852 ((H1.1 1826 47) - 1).toNat) (H1.1 1853 ((H1.1 1826 47) - 1).toNat)))]) (st' := []) rfl ?_
                        refine h_run 1 (pc' := 148) (l' := [(0, .inr (.inr 1826)), (1, .inl (f : Int)), (2, .inl (aty H1 (H1.1 1852 ((H1.1 1826 47) - 1).toNat) (H1.1 1853 ((H1.1 1826 47) - 1).toNat)))]) (st' := [.inr (.inr 1826)]) rfl ?_
                        refine h_cv (i := 293) (j := 158) (b := 1826) (M' := mt_158) (xs := []) (rest := []) rfl rfl rfl rfl rfl rfl (Nat.le_of_ble_eq_true rfl) (Nat.le_of_ble_eq_true rfl) (by omega) (m_good1 (by omega) (by omega : (H1.1 1826 35) = 0)) ?_
                        rintro _ _ ⟨rfl, rfl⟩
                        refine h_run 0 (pc' := 151) (l' := [(0, .inr (.inr 1826)), (1, .inl (f : Int)), (2, .inl (aty H1 (H1.1 1852 ((H1.1 1826 47) - 1).toNat) (H1.1 1853 ((H1.1 1826 47) - 1).toNat)))]) (st' := [.inl 1]) rfl ?_
                        refine h_zeq (off := 113) (t := 264) rfl rfl (by decide) (fun c => absurd c (by decide)) (fun _ => ?_)
                        refine h_run 4 (pc' := 160) (l' := [(0, .inr (.inr 1826)), (1, .inl (f : Int)), (2, .inl (aty H1 (H1.1 1852 ((H1.1 1826 47) - 1).toNat) (H1.1 1853 ((H1.1 1826 47) - 1).toNat)))]) (st' := [.inl (aty H1 (H1.1 1852 ((H1.1 1826 47) - 1).toNat) (H1.1 1853 ((H1.1 1826 47) - 1).toNat)), .inr (.inr 1826), .inl 1000, .inr (.inr 1826)]) rfl ?_
                        refine h_cv (i := 347) (j := 177) (b := 1826) (M' := mt_177) (xs := [.inl (aty H1 (H1.1 1852 ((H1.1 1826 47) - 1).toNat) (H1.1 1853 ((H1.1 1826 47) - 1).toNat))]) (rest := [.inl 1000, .inr (.inr 1826)]) rfl rfl rfl rfl rfl rfl (Nat.le_of_ble_eq_true rfl) (Nat.le_of_ble_eq_true rfl) (by omega) (m_addVariable (by omega) (by omega : 0 ≤ (H1.1 1826 39) ∧ (H1.1 1826 39) ≤ 47) (by omega)) ?_
                        rintro _ _ ⟨rfl, rfl⟩
                        refine h_run 0 (pc' := 163) (l' := [(0, .inr (.inr 1826)), (1, .inl (f : Int)), (2, .inl (aty H1 (H1.1 1852 ((H1.1 1826 47) - 1).toNat) (H1.1 1853 ((H1.1 1826 47) - 1).toNat)))]) (st' := [.inl (((H1.1 1826 39) + 1) - 1), .inl 1000, .inr (.inr 1826)]) rfl ?_
                        refine h_run 1 (pc' := 164) (l' := [(0, .inr (.inr 1826)), (1, .inl (f : Int)), (2, .inl (aty H1 (H1.1 1852 ((H1.1 1826 47) - 1).toNat) (H1.1 1853 ((H1.1 1826 47) - 1).toNat)))]) (st' := [.inl (1000 + (((H1.1 1826 39) + 1) - 1)), .inr (.inr 1826)]) rfl ?_
                        have g333 : -2147483648 ≤ (H1.1 1826 43) ∧ (H1.1 1826 43) ≤ 2147483647 := hrg1.1 1826 13 43 _ .int rfl rfl
                        refine h_cv (i := 350) (j := 169) (b := 1826) (M' := mt_169) (xs := [.inl (1000 + (((H1.1 1826 39) + 1) - 1))]) (rest := []) rfl rfl rfl rfl rfl rfl (Nat.le_of_ble_eq_true rfl) (Nat.le_of_ble_eq_true rfl) (by omega) (m_put1 (by omega) (by omega : (H1.1 1826 35) = 0) (by omega : 0 ≤ (H1.1 1826 43) ∧ (H1.1 1826 43) ≤ 47) (by omega)) ?_
                        rintro _ _ ⟨rfl, rfl⟩
                        refine h_run 0 (pc' := 167) (l' := [(0, .inr (.inr 1826)), (1, .inl (f : Int)), (2, .inl (aty H1 (H1.1 1852 ((H1.1 1826 47) - 1).toNat) (H1.1 1853 ((H1.1 1826 47) - 1).toNat)))]) (st' := []) rfl ?_
                        refine h_run 4 (pc' := 175) (l' := [(0, .inr (.inr 1826)), (1, .inl (f : Int)), (2, .inl (aty H1 (H1.1 1852 ((H1.1 1826 47) - 1).toNat) (H1.1 1853 ((H1.1 1826 47) - 1).toNat)))]) (st' := [.inl (H1.1 1826 47), .inr (.inr 1853)]) rfl ?_
                        refine h_run 3 (pc' := 178) (l' := [(0, .inr (.inr 1826)), (1, .inl (f : Int)), (2, .inl (aty H1 (H1.1 1852 ((H1.1 1826 47) - 1).toNat) (H1.1 1853 ((H1.1 1826 47) - 1).toNat)))]) (st' := [.inl ((H1.1 1826 47) - 1), .inr (.inr 1853), .inl ((H1.1 1826 47) - 1), .inr (.inr 1853)]) rfl ?_
                        refine h_ild (c := 1853) (j := (((H1.1 1826 47) - 1)).toNat) (i := ((H1.1 1826 47) - 1)) rfl rfl (by decide) (by omega) (by omega) ?_
                        have g334 : -2147483648 ≤ (H1.1 1853 (((H1.1 1826 47) - 1)).toNat) ∧ (H1.1 1853 (((H1.1 1826 47) - 1)).toNat) ≤ 2147483647 := hrg1.2 1853 (((H1.1 1826 47) - 1)).toNat 64 .int rfl (by omega)
                        refine h_run 0 (pc' := 179) (l' := [(0, .inr (.inr 1826)), (1, .inl (f : Int)), (2, .inl (aty H1 (H1.1 1852 ((H1.1 1826 47) - 1).toNat) (H1.1 1853 ((H1.1 1826 47) - 1).toNat)))]) (st' := [.inl (H1.1 1853 (((H1.1 1826 47) - 1)).toNat), .inl ((H1.1 1826 47) - 1), .inr (.inr 1853)]) rfl ?_
                        refine h_run 2 (pc' := 181) (l' := [(0, .inr (.inr 1826)), (1, .inl (f : Int)), (2, .inl (aty H1 (H1.1 1852 ((H1.1 1826 47) - 1).toNat) (H1.1 1853 ((H1.1 1826 47) - 1).toNat)))]) (st' := [.inl ((H1.1 1853 (((H1.1 1826 47) - 1)).toNat) + 1), .inl ((H1.1 1826 47) - 1), .inr (.inr 1853)]) rfl ?_
                        refine h_ist (c := 1853) (j := (((H1.1 1826 47) - 1)).toNat) (i := ((H1.1 1826 47) - 1)) (x := ((H1.1 1853 (((H1.1 1826 47) - 1)).toNat) + 1)) rfl rfl (by decide) (by decide) (by omega) (by omega) (by omega) ?_
                        have hq9 : rch Y c0 ((spk (H1.1 1852) (up (H1.1 1853) (n - 1) (((H1.1 1853) (n - 1)) + 1)) n ++ K), xput (xvar X1 (tn Y (xi X1)) (aty H1 ((H1.1 1852) (n - 1)) ((H1.1 1853) (n - 1)))) (1000 + (((H1.1 1826 39) + 1) - 1))) := by rw [show (1000 + (((H1.1 1826 39) + 1) - 1)) = 1000 + X1 0 1 by omega]; exact (rch_st hq4 (by show stPat Y (aty H1 ((H1.1 1852) (n - 1)) ((H1.1 1853) (n - 1))) ((n - 1 : Nat) : Int) (spk (H1.1 1852) (up (H1.1 1853) (n - 1) (((H1.1 1853) (n - 1)) + 1)) n ++ K) X1 = _; unfold stPat miss; (repeat (first | rw [if_pos (by omega)] | rw [if_neg (by omega)])); try (first | rfl | (exfalso; omega))))
                        refine h_run 1 (pc' := 183) (l' := [(0, .inr (.inr 1826)), (1, .inl (f : Int)), (2, .inl (aty H1 (H1.1 1852 ((H1.1 1826 47) - 1).toNat) (H1.1 1853 ((H1.1 1826 47) - 1).toNat)))]) (st' := [.inr (.inr 1826)]) rfl ?_
                        have g335 : -2147483648 ≤ (H1.1 1826 30) ∧ (H1.1 1826 30) ≤ 2147483647 := hrg1.1 1826 13 30 _ .int rfl rfl
                        have g336 : -2147483648 ≤ (H1.1 1826 29) ∧ (H1.1 1826 29) ≤ 2147483647 := hrg1.1 1826 13 29 _ .int rfl rfl
                        have e337 : (H1.1 1826 29) = (H.1 1826 29) := hf.2.2 29 (by decide)
                        have g338 : -2147483648 ≤ (H1.1 1826 32) ∧ (H1.1 1826 32) ≤ 2147483647 := hrg1.1 1826 13 32 _ .int rfl rfl
                        refine h_cv (i := 297) (j := 165) (b := 1826) (M' := mt_165) (xs := []) (rest := []) rfl rfl rfl rfl rfl rfl (Nat.le_of_ble_eq_true rfl) (Nat.le_of_ble_eq_true rfl) (by omega) (n_nx (by omega) (by omega : 0 ≤ (H1.1 1826 30) ∧ (H1.1 1826 30) ≤ (H1.1 1826 29) ∧ (H1.1 1826 29) ≤ 1000) (by omega : 0 ≤ (H1.1 1826 35) ∧ (H1.1 1826 35) ≤ 5) (by omega : 0 ≤ (H1.1 1826 32) ∧ (H1.1 1826 32) ≤ 1000) (by omega : (H1.1 1826 35) = 0) (X := (xput (xvar X1 (tn Y (xi X1)) (aty H1 ((H1.1 1852) (n - 1)) ((H1.1 1853) (n - 1)))) (1000 + (((H1.1 1826 39) + 1) - 1)))) (RN_mk hR1 (fr_a (fr_o (fr_a (fr_o (fr_a (fr_a (fr_o (fr_rf [39, 40, 43] [1849, 1850, 1851, 1853] H1) (by decide)) (by decide)) (by decide)) (by decide)) (by decide)) (by decide)) (by decide)) (by decide) (by decide) (xpv_0 _ _ _ _).1 (TA_sT (TA_fr hR1.2.2.2.2 (fr_a (fr_o (fr_a (fr_o (fr_a (fr_a (fr_o (fr_rf [39, 40, 43] [1849, 1850, 1851, 1853] H1) (by decide)) (by decide)) (by decide)) (by decide)) (by decide)) (by decide)) (by decide)) (by decide) (by decide)) (sT_tr (sT_var X1 _ _) (sT_put _ _)))) hq9 (lk_app hK spk_ok)) ?_
                        rintro _ H339 ⟨rfl, hx339n, hx339f, hx339a, hx339b, hx339c, -, hx339e, hx339g⟩
                        refine h_rng (fun hrg340 => ?_)
                        have hf341 : fr [30, 31, 32, 33, 35, 36, 39, 40, 41, 43, 47] [1849, 1850, 1851, 1852, 1853] H H339 := fr_t (fr_a (fr_o (fr_a (fr_o (fr_a (fr_a (fr_o hf (by decide)) (by decide)) (by decide)) (by decide)) (by decide)) (by decide)) (by decide)) hx339f (by decide) (by decide)
                        replace hx339a : (H1.1 1826 30) ≤ (H339.1 1826 30) := hx339a
                        replace hx339b : (H339.1 1826 30) ≤ (H1.1 1826 29) := hx339b
                        replace hx339g : (H339.1 1826 35) = 0 → ((H339.1 1826 31) = 0 ∨ (H1.1 1826 30) < (H339.1 1826 30)) := hx339g
                        refine h_run 0 (pc' := 186) (l' := [(0, .inr (.inr 1826)), (1, .inl (f : Int)), (2, .inl (aty H1 (H1.1 1852 ((H1.1 1826 47) - 1).toNat) (H1.1 1853 ((H1.1 1826 47) - 1).toNat)))]) (st' := []) rfl ?_
                        refine h_run 2 (pc' := 22) (l' := [(0, .inr (.inr 1826)), (1, .inl (f : Int)), (2, .inl (aty H1 (H1.1 1852 ((H1.1 1826 47) - 1).toNat) (H1.1 1853 ((H1.1 1826 47) - 1).toNat)))]) (st' := []) rfl ?_
                        have g342 : -2147483648 ≤ (H339.1 1826 30) ∧ (H339.1 1826 30) ≤ 2147483647 := hrg340.1 1826 13 30 _ .int rfl rfl
                        have g343 : -2147483648 ≤ (H339.1 1826 35) ∧ (H339.1 1826 35) ≤ 2147483647 := hrg340.1 1826 13 35 _ .int rfl rfl
                        have g344 : -2147483648 ≤ (H339.1 1826 32) ∧ (H339.1 1826 32) ≤ 2147483647 := hrg340.1 1826 13 32 _ .int rfl rfl
                        have g345 : -2147483648 ≤ (H339.1 1826 31) ∧ (H339.1 1826 31) ≤ 2147483647 := hrg340.1 1826 13 31 _ .int rfl rfl
                        have g346 : -2147483648 ≤ (H339.1 1826 29) ∧ (H339.1 1826 29) ≤ 2147483647 := hrg340.1 1826 13 29 _ .int rfl rfl
                        have e347 : (H339.1 1826 29) = (H1.1 1826 29) := hx339f.2.2 29 (by decide)
                        have g348 : -2147483648 ≤ (H339.1 1826 47) ∧ (H339.1 1826 47) ≤ 2147483647 := hrg340.1 1826 13 47 _ .int rfl rfl
                        have e349 : (H339.1 1826 47) = (H1.1 1826 47) := hx339f.2.2 47 (by decide)
                        have g350 : -2147483648 ≤ (H339.1 1826 41) ∧ (H339.1 1826 41) ≤ 2147483647 := hrg340.1 1826 13 41 _ .int rfl rfl
                        have e351 : (H339.1 1826 41) = (H1.1 1826 41) := hx339f.2.2 41 (by decide)
                        refine h_loc [0, 1] rfl ?_
                        exact ih _ hf341 (by omega : (H.1 1826 30) ≤ (H339.1 1826 30) ∧ (H339.1 1826 30) ≤ (H.1 1826 29)) (by omega : 0 ≤ (H339.1 1826 35) ∧ (H339.1 1826 35) ≤ 5) (by omega : 0 ≤ (H339.1 1826 32) ∧ (H339.1 1826 32) ≤ 1000) (by omega : (H.1 1826 35) ≠ 0 → (H339.1 1826 35) ≠ 0) (fun _ => PT_step (q := 0) hPT1 (Or.inr ⟨(by omega : 1000 ≤ 1000 + ((H1.1 1826 39) + 1 - 1)), by omega⟩) (ma_0 (by omega)) (by omega) hno (hx339f.2.1 1833 (by decide) (by decide)) (hx339f.2.1 1830 (by decide) (by decide)) ⟨hx339f.2.2 3 (by decide), hx339f.2.2 8 (by decide)⟩ (by omega) ⟨hx339f.2.2 40 (by decide), hx339f.2.2 43 (by decide)⟩ (hx339f.2.1 1851 (by decide) (by decide)) (Or.inr ⟨hx339f.2.2 39 (by decide), by omega⟩) (Or.inl ⟨rfl, hx339f.2.2 47 (by decide), hx339f.2.2 41 (by decide), hx339f.2.1 1852 (by decide) (by decide), by rw [← hidx]; exact hx339f.2.1 1853 (by decide) (by decide)⟩)) (GB_i hx339n (fun q => ⟨_, (by rw [SP_of (H := H339) (ou := (H1.1 1852)) (no := up (H1.1 1853) (n - 1) (((H1.1 1853) (n - 1)) + 1)) (n := n) (show (H339.1 1826 47) = (n : Int) by omega) (hx339f.2.1 1852 (by decide) (by decide)) (by rw [← hidx]; exact (hx339f.2.1 1853 (by decide) (by decide)))]; exact hq9), q, VP_var hV1 (hx339f.2.2 40 (by decide)) (hx339f.2.2 39 (by decide)) (by rw [← RK_n hR1 (Or.inl (by omega))]; exact (hx339f.2.1 1849 (by decide) (by decide))) (by rw [← hidx]; exact (hx339f.2.1 1850 (by decide) (by decide))) (hx339f.2.2 43 (by decide)) (hx339f.2.1 1851 (by decide) (by decide))⟩)) (mu_lt hw (by omega) (by omega : (H339.1 1826 35) ≠ 0 ∨ ((H1.1 1826 30) ≤ (H339.1 1826 30) ∧ (H339.1 1826 30) ≤ (H.1 1826 29) ∧ (((H339.1 1826 31) = 0 ∧ (H1.1 1826 31) ≠ 0) ∨ (H1.1 1826 30) < (H339.1 1826 30)))))
              · exfalso
                omega
    · have b3x : (H1.1 1826 35) ≠ 0 := b3
      refine h_run 0 (pc' := 26) (l' := [(0, .inr (.inr 1826)), (1, .inl (f : Int))]) (st' := [.inl 0]) rfl ?_
      refine h_zeq (off := 241) (t := 267) rfl rfl (by decide) (fun _ => ?_) (fun c => absurd c (by decide))
      skip
      refine h_ret rfl rfl ?_
      have g352 : -2147483648 ≤ (H1.1 1826 30) ∧ (H1.1 1826 30) ≤ 2147483647 := hrg1.1 1826 13 30 _ .int rfl rfl
      have g353 : -2147483648 ≤ (H1.1 1826 32) ∧ (H1.1 1826 32) ≤ 2147483647 := hrg1.1 1826 13 32 _ .int rfl rfl
      have g354 : -2147483648 ≤ (H1.1 1826 29) ∧ (H1.1 1826 29) ≤ 2147483647 := hrg1.1 1826 13 29 _ .int rfl rfl
      have e355 : (H1.1 1826 29) = (H.1 1826 29) := hf.2.2 29 (by decide)
      exact ⟨rfl, (Or.inr ⟨(by omega : (H1.1 1826 35) ≠ 0), GB_b hPG (by omega)⟩), hf, (by omega : (H.1 1826 30) ≤ (H1.1 1826 30) ∧ (H1.1 1826 30) ≤ (H.1 1826 29)), (by omega : 0 ≤ (H1.1 1826 35) ∧ (H1.1 1826 35) ≤ 5), (by omega : (H.1 1826 35) ≠ 0 → (H1.1 1826 35) ≠ 0), (by omega : 0 ≤ (H1.1 1826 32) ∧ (H1.1 1826 32) ≤ 1000), (fun (q : (H1.1 1826 35) = 0) => absurd q (by omega))⟩
set_option maxRecDepth 100000 in
theorem n_patterns {zC : Nat → Option zsh} {d : Nat} (hd : 6 ≤ d) {H : hp} {f : Nat} {fz : Int} {Y : yx} {m : Int} {c0 : cf} {K : List tq} {X : rx} (h0 : 0 ≤ (H.1 1826 30) ∧ (H.1 1826 30) ≤ (H.1 1826 29) ∧ (H.1 1826 29) ≤ 1000) (hw : 0 ≤ (H.1 1826 35) ∧ (H.1 1826 35) ≤ 5) (hst : 0 ≤ (H.1 1826 32) ∧ (H.1 1826 32) ≤ 1000) (hP : PWc H) (hfu : (f : Int) < (H.1 1826 8)) (hst0 : (H.1 1826 35) = 0 → (H.1 1826 40) = 1 ∧ (H.1 1826 43) = 0 ∧ (H.1 1826 39) = 0 ∧ (H.1 1826 41) = 0) (hw0 : (H.1 1826 35) = 0) (hR : RK Y m H X) (hV : VP H X fz) (hq : rch Y c0 ((5, 100 + (f : Int), 0, 0) :: K, X)) (hK : lkK K) : hG (zs zC) d mt_178 0 (zargs 0 [.inr (.inr 1826), .inl (f : Int)]) [] H (fun r H2 => r = none ∧ GB Y m c0 H2 (∃ X2 : rx, rch Y c0 (K, X2) ∧ RK Y m H2 X2 ∧ VP H2 X2 fz) ∧ fr [30, 31, 32, 33, 35, 36, 39, 40, 41, 43, 47] [1849, 1850, 1851, 1852, 1853] H H2 ∧ ((H.1 1826 30) ≤ (H2.1 1826 30) ∧ (H2.1 1826 30) ≤ (H.1 1826 29)) ∧ (0 ≤ (H2.1 1826 35) ∧ (H2.1 1826 35) ≤ 5) ∧ ((H.1 1826 35) ≠ 0 → (H2.1 1826 35) ≠ 0) ∧ (0 ≤ (H2.1 1826 32) ∧ (H2.1 1826 32) ≤ 1000) ∧ hid ((H2.1 1826 35) = 0 → ∃ k q : Nat, (H2.1 1826 43) = k ∧ k ≤ 39 ∧ (H2.1 1833) f = q ∧ tm (ma (H2.1 1833) (H2.1 1830)) (m_sp (H2.1 1826 3)) (H2.1 1851) k 0 q ∧ (0 ≤ (H2.1 1826 39) ∧ (H2.1 1826 39) ≤ 39) ∧ ∀ v : Nat, (v : Int) < (H2.1 1826 39) → ∃ y : Nat, y < k ∧ (H2.1 1851) y = 1000 + v)) := by
  refine h_rng (fun hrg0 => ?_)
  refine h_run 0 (pc' := 0) (l' := [(0, .inr (.inr 1826)), (1, .inl (f : Int))]) (st' := []) rfl ?_
  obtain ⟨⟨pb1, pb2, pb3, pb4, pb5⟩, pw1, pw2, pw3, pw4⟩ := (id hP : PW H (H.1 1826 1) (H.1 1826 3) (H.1 1826 8) (H.1 1826 13) (H.1 1826 19))
  replace hst0 : hid _ := hst0
  refine h_run 2 (pc' := 2) (l' := [(0, .inr (.inr 1826)), (1, .inl (f : Int))]) (st' := [.inl 1, .inr (.inr 1826)]) rfl ?_
  refine h_puti (i := 328) (ci := 13) (k := 47) (a := 1826) (x := 1) rfl rfl rfl rfl rfl rfl (by decide) (by decide) ?_
  refine h_run 6 (pc' := 14) (l' := [(0, .inr (.inr 1826)), (1, .inl (f : Int))]) (st' := [.inl (100 + (f : Int)), .inl 0, .inr (.inr 1852)]) rfl ?_
  refine h_ist (c := 1852) (j := 0) (i := 0) (x := (100 + (f : Int))) rfl rfl (by decide) (by decide) rfl (by omega) (by omega) ?_
  refine h_run 4 (pc' := 21) (l' := [(0, .inr (.inr 1826)), (1, .inl (f : Int))]) (st' := [.inl 0, .inl 0, .inr (.inr 1853)]) rfl ?_
  refine h_ist (c := 1853) (j := 0) (i := 0) (x := 0) rfl rfl (by decide) (by decide) rfl (by omega) (by decide) ?_
  have g356 : -2147483648 ≤ (H.1 1826 30) ∧ (H.1 1826 30) ≤ 2147483647 := hrg0.1 1826 13 30 _ .int rfl rfl
  have g357 : -2147483648 ≤ (H.1 1826 35) ∧ (H.1 1826 35) ≤ 2147483647 := hrg0.1 1826 13 35 _ .int rfl rfl
  have g358 : -2147483648 ≤ (H.1 1826 32) ∧ (H.1 1826 32) ≤ 2147483647 := hrg0.1 1826 13 32 _ .int rfl rfl
  have g359 : -2147483648 ≤ (H.1 1826 31) ∧ (H.1 1826 31) ≤ 2147483647 := hrg0.1 1826 13 31 _ .int rfl rfl
  have g360 : -2147483648 ≤ (H.1 1826 29) ∧ (H.1 1826 29) ≤ 2147483647 := hrg0.1 1826 13 29 _ .int rfl rfl
  have g361 : -2147483648 ≤ (H.1 1826 41) ∧ (H.1 1826 41) ≤ 2147483647 := hrg0.1 1826 13 41 _ .int rfl rfl
  exact (n_patterns_cut hd h0 hw hst hP hfu hst0 hw0 hR hV hq hK _) _ (fr_a (fr_a (fr_o (fr_rf _ _ _) (by decide)) (by decide)) (by decide)) (by omega : (H.1 1826 30) ≤ (H.1 1826 30) ∧ (H.1 1826 30) ≤ (H.1 1826 29)) (by omega : 0 ≤ (H.1 1826 35) ∧ (H.1 1826 35) ≤ 5) (by omega : 0 ≤ (H.1 1826 32) ∧ (H.1 1826 32) ≤ 1000) (by omega : (H.1 1826 35) ≠ 0 → (H.1 1826 35) ≠ 0) (fun (q : (H.1 1826 35) = 0) => ⟨1, PT_start (PWc_a (PWc_a (PWc_o hP (by decide)) (by decide)) (by decide)) hfu ⟨rfl, (hst0 q).2.2.2⟩ ⟨(hst0 q).1, (hst0 q).2.1, (hst0 q).2.2.1⟩ rfl rfl⟩) (Or.inl ⟨(by omega : (H.1 1826 35) = 0), X, (by rw [SP_one (H := (zu (zu (zu H 1826 (up (H.1 1826) 47 1)) 1852 (up ((zu H 1826 (up (H.1 1826) 47 1)).1 1852) 0 (100 + (f : Int)))) 1853 (up ((zu (zu H 1826 (up (H.1 1826) 47 1)) 1852 (up ((zu H 1826 (up (H.1 1826) 47 1)).1 1852) 0 (100 + (f : Int)))).1 1853) 0 0))) (s := 100 + (f : Int)) rfl rfl rfl]; exact hq), RK_fr hR (fr_a (fr_a (fr_o (fr_rf [47] [1852, 1853] H) (by decide)) (by decide)) (by decide)) (by decide) (by decide), VP_eq hV rfl rfl rfl rfl rfl rfl⟩) (Nat.lt_succ_self _)

/-! patterns -/
set_option maxRecDepth 100000 in
theorem n_patterns0 {zC : Nat → Option zsh} {d : Nat} (hd : 6 ≤ d) {H : hp} {f : Nat} (hw0 : (H.1 1826 35) ≠ 0) (hf9 : f ≤ 100) : hG (zs zC) d mt_178 0 (zargs 0 [.inr (.inr 1826), .inl (f : Int)]) [] H (fun r H2 => r = none ∧ fr [47] [1852, 1853] H H2) := by
  refine h_rng (fun hrg0 => ?_)
  refine h_run 0 (pc' := 0) (l' := [(0, .inr (.inr 1826)), (1, .inl (f : Int))]) (st' := []) rfl ?_
  refine h_run 2 (pc' := 2) (l' := [(0, .inr (.inr 1826)), (1, .inl (f : Int))]) (st' := [.inl 1, .inr (.inr 1826)]) rfl ?_
  refine h_puti (i := 328) (ci := 13) (k := 47) (a := 1826) (x := 1) rfl rfl rfl rfl rfl rfl (by decide) (by decide) ?_
  refine h_run 6 (pc' := 14) (l' := [(0, .inr (.inr 1826)), (1, .inl (f : Int))]) (st' := [.inl (100 + (f : Int)), .inl 0, .inr (.inr 1852)]) rfl ?_
  refine h_ist (c := 1852) (j := 0) (i := 0) (x := (100 + (f : Int))) rfl rfl (by decide) (by decide) rfl (by omega) (by omega) ?_
  refine h_run 4 (pc' := 21) (l' := [(0, .inr (.inr 1826)), (1, .inl (f : Int))]) (st' := [.inl 0, .inl 0, .inr (.inr 1853)]) rfl ?_
  refine h_ist (c := 1853) (j := 0) (i := 0) (x := 0) rfl rfl (by decide) (by decide) rfl (by omega) (by decide) ?_
  refine h_run 1 (pc' := 23) (l' := [(0, .inr (.inr 1826)), (1, .inl (f : Int))]) (st' := [.inr (.inr 1826)]) rfl ?_
  have g1 : -2147483648 ≤ (H.1 1826 35) ∧ (H.1 1826 35) ≤ 2147483647 := hrg0.1 1826 13 35 _ .int rfl rfl
  refine h_cv (i := 293) (j := 158) (b := 1826) (M' := mt_158) (xs := []) (rest := []) rfl rfl rfl rfl rfl rfl (Nat.le_of_ble_eq_true rfl) (Nat.le_of_ble_eq_true rfl) (by omega) (m_good0 (by omega) (by omega : (H.1 1826 35) ≠ 0)) ?_
  rintro _ _ ⟨rfl, rfl⟩
  refine h_run 0 (pc' := 26) (l' := [(0, .inr (.inr 1826)), (1, .inl (f : Int))]) (st' := [.inl 0]) rfl ?_
  refine h_zeq (off := 241) (t := 267) rfl rfl (by decide) (fun _ => ?_) (fun c => absurd c (by decide))
  refine h_ret rfl rfl ?_
  exact ⟨rfl, (fr_a (fr_a (fr_o (fr_rf _ _ _) (by decide)) (by decide)) (by decide))⟩
