/-! the reference: laws and hypotheses are used -/
/-! lawAt -/
set_option maxRecDepth 100000 in
theorem m_lawAt {zC : Nat → Option zsh} {d : Nat} (hd : 6 ≤ d) {H : hp} {n o s q l : Nat} {bk wh : Int} (hP : PWc H) (hO : OS H H n) (hlu : (H.1 1826 97) = -1) (ho1 : (H.1 1871) 0 = (o : Int)) (hs : s < 2) (hq : q ≤ 2147483647) (hwh : wh = -1 ∨ (0 ≤ wh ∧ wh < (H.1 1874) (2 * o + s))) (hl : (l : Int) < (H.1 1826 19)) (hbk : 0 ≤ bk ∧ bk ≤ 1) : hG (zs zC) d mt_244 0 (zargs 0 [.inr (.inr 1826), .inl (l : Int), .inl bk, .inl (s : Int), .inl (q : Int), .inl wh]) [] H (fun r9 H2 => fr [50, 51, 53, 76, 93, 97] [1847, 1852, 1853, 1855, 1856, 1873, 1874, 1878, 1884, 1886] H H2 ∧ (H2.1 1826 97) = -1 ∧ OS H H2 n ∧ ∃ r0 : Int, r9 = some (.inl r0) ∧ -105 ≤ r0 ∧ r0 ≤ 12) := by
  refine h_rng (fun hrg0 => ?_)
  refine h_run 0 (pc' := 0) (l' := [(0, .inr (.inr 1826)), (1, .inl (l : Int)), (2, .inl bk), (3, .inl (s : Int)), (4, .inl (q : Int)), (5, .inl wh)]) (st' := []) rfl ?_
  obtain ⟨⟨pb1, pb2, pb3, pb4, pb5⟩, pw1, pw2, pw3, pw4⟩ := (id hP : PW H (H.1 1826 1) (H.1 1826 3) (H.1 1826 8) (H.1 1826 13) (H.1 1826 19))
  obtain ⟨ol, ou, og⟩ := RS_o hO ho1
  obtain ⟨N, hN1, hN2, hN3⟩ := og.1 s hs
  have hnn := hO.1
  have hN0 : 1 ≤ N := tm_le hN3
  obtain ⟨vn, ⟨hv1, hv2⟩, hv3, hv4⟩ := pw4 l (by omega)
  obtain ⟨k0, ⟨k01, k02⟩, k03⟩ := hv4 0 (by omega)
  obtain ⟨k1, ⟨k11, k12⟩, k13⟩ := hv4 1 (by omega)
  rw [Nat.add_zero] at k01 k03
  refine h_run 3 (pc' := 5) (l' := [(0, .inr (.inr 1826)), (1, .inl (l : Int)), (2, .inl bk), (3, .inl (s : Int)), (4, .inl (q : Int)), (5, .inl wh)]) (st' := [.inl 0, .inr (.inr 1871)]) rfl ?_
  refine h_ild (c := 1871) (j := 0) (i := 0) rfl rfl (by decide) rfl (by omega) ?_
  have g1 : -2147483648 ≤ (H.1 1871 0) ∧ (H.1 1871 0) ≤ 2147483647 := hrg0.2 1871 0 13 .int rfl (by omega)
  refine h_run 0 (pc' := 6) (l' := [(0, .inr (.inr 1826)), (1, .inl (l : Int)), (2, .inl bk), (3, .inl (s : Int)), (4, .inl (q : Int)), (5, .inl wh)]) (st' := [.inl (H.1 1871 0)]) rfl ?_
  rw [show (H.1 1871 0) = (o : Int) by omega]
  refine h_run 4 (pc' := 13) (l' := [(0, .inr (.inr 1826)), (1, .inl (l : Int)), (2, .inl bk), (3, .inl (s : Int)), (4, .inl (q : Int)), (5, .inl wh), (6, .inl (o : Int))]) (st' := [.inl (l : Int), .inr (.inr 1847)]) rfl ?_
  refine h_ild (c := 1847) (j := l) (i := (l : Int)) rfl rfl (by decide) rfl (by omega) ?_
  have g2 : -2147483648 ≤ (H.1 1847 l) ∧ (H.1 1847 l) ≤ 2147483647 := hrg0.2 1847 l 16 .int rfl (by omega)
  refine h_run 0 (pc' := 14) (l' := [(0, .inr (.inr 1826)), (1, .inl (l : Int)), (2, .inl bk), (3, .inl (s : Int)), (4, .inl (q : Int)), (5, .inl wh), (6, .inl (o : Int))]) (st' := [.inl (H.1 1847 l)]) rfl ?_
  refine h_zeq (off := 20) (t := 34) rfl rfl (by omega) (fun c3 => ?_) (fun c3 => ?_)
  · refine h_run 1 (pc' := 36) (l' := [(0, .inr (.inr 1826)), (1, .inl (l : Int)), (2, .inl bk), (3, .inl (s : Int)), (4, .inl (q : Int)), (5, .inl wh), (6, .inl (o : Int))]) (st' := [.inl (-104)]) rfl ?_
    refine h_reti (x := (-104)) rfl rfl ?_
    have g4 : -2147483648 ≤ (H.1 1826 97) ∧ (H.1 1826 97) ≤ 2147483647 := hrg0.1 1826 13 97 _ .int rfl rfl
    exact ⟨(fr_rf _ _ _), (show (H.1 1826 97) = -1 by omega), hO, _, rfl, by omega, by omega⟩
  · refine h_run 3 (pc' := 22) (l' := [(0, .inr (.inr 1826)), (1, .inl (l : Int)), (2, .inl bk), (3, .inl (s : Int)), (4, .inl (q : Int)), (5, .inl wh), (6, .inl (o : Int))]) (st' := [.inl (l : Int), .inr (.inr 1847)]) rfl ?_
    refine h_ild (c := 1847) (j := l) (i := (l : Int)) rfl rfl (by decide) rfl (by omega) ?_
    refine h_run 0 (pc' := 23) (l' := [(0, .inr (.inr 1826)), (1, .inl (l : Int)), (2, .inl bk), (3, .inl (s : Int)), (4, .inl (q : Int)), (5, .inl wh), (6, .inl (o : Int))]) (st' := [.inl (H.1 1847 l)]) rfl ?_
    refine h_run 1 (pc' := 24) (l' := [(0, .inr (.inr 1826)), (1, .inl (l : Int)), (2, .inl bk), (3, .inl (s : Int)), (4, .inl (q : Int)), (5, .inl wh), (6, .inl (o : Int))]) (st' := [.inl 1, .inl (H.1 1847 l)]) rfl ?_
    refine h_ine (off := 13) (t := 37) rfl rfl (by omega) (by decide) (fun c5 => ?_) (fun c5 => ?_)
    · refine h_run 3 (pc' := 41) (l' := [(0, .inr (.inr 1826)), (1, .inl (l : Int)), (2, .inl bk), (3, .inl (s : Int)), (4, .inl (q : Int)), (5, .inl wh), (6, .inl (o : Int))]) (st' := [.inl (s : Int), .inl (o : Int), .inr (.inr 1826)]) rfl ?_
      refine h_cv (i := 569) (j := 228) (b := 1826) (M' := mt_228) (xs := [.inl (s : Int), .inl (o : Int)]) (rest := []) rfl rfl rfl rfl rfl rfl (Nat.le_of_ble_eq_true rfl) (Nat.le_of_ble_eq_true rfl) (by omega) (m_bring (k := N) (by omega) (by omega) ⟨hN1, by omega⟩) ?_
      rintro _ H6 ⟨rfl, hfH6, hzH6, hcH6⟩
      refine h_rng (fun hrg7 => ?_)
      have hf8 : fr [50, 51, 53, 76, 93, 97] [1847, 1852, 1853, 1855, 1856, 1873, 1874, 1878, 1884, 1886] H H6 := fr_t (fr_rf _ _ _) hfH6 (by decide) (by decide)
      have hOSH6 : OS H H6 n := OS_fr hO hfH6 (by decide) (by decide) (by decide)
      have hooH6 : (H6.1 1871) 0 = (o : Int) := (congrFun (hfH6.2.1 1871 (by decide) (by decide)) 0).trans ho1
      have hTn : tm (ma (H.1 1833) (H.1 1830)) (m_sg (H.1 1826 3) (H.1 1826 8) 60) (H6.1 1884) N 0 1 := tm_at hN3 (fun x hx => by rw [Nat.zero_add]; exact hcH6 x hx)
      have hQb : sP H H6 := sP_fr (sP_rf H) hf8 (by decide) (by decide)
      have hPb : PWc H6 := PWc_fr hP hf8 (by decide) (by decide)
      refine h_run 0 (pc' := 44) (l' := [(0, .inr (.inr 1826)), (1, .inl (l : Int)), (2, .inl bk), (3, .inl (s : Int)), (4, .inl (q : Int)), (5, .inl wh), (6, .inl (o : Int))]) (st' := []) rfl ?_
      refine h_run 2 (pc' := 47) (l' := [(0, .inr (.inr 1826)), (1, .inl (l : Int)), (2, .inl bk), (3, .inl (s : Int)), (4, .inl (q : Int)), (5, .inl wh), (6, .inl (o : Int))]) (st' := [.inl (-1), .inl wh]) rfl ?_
      refine h_ieq (off := 8) (t := 55) rfl rfl (by omega) (by decide) (fun c9 => ?_) (fun c9 => ?_)
      · refine h_run 2 (pc' := 58) (l' := [(0, .inr (.inr 1826)), (1, .inl (l : Int)), (2, .inl bk), (3, .inl (s : Int)), (4, .inl (q : Int)), (5, .inl wh), (6, .inl (o : Int))]) (st' := [.inl (q : Int), .inr (.inr 1826)]) rfl ?_
        refine h_cv (i := 572) (j := 230) (b := 1826) (M' := mt_230) (xs := [.inl (q : Int)]) (rest := []) rfl rfl rfl rfl rfl rfl (Nat.le_of_ble_eq_true rfl) (Nat.le_of_ble_eq_true rfl) (by omega) (m_placeOf (ok := (m_sg (H.1 1826 3) (H.1 1826 8) 60)) (N := N) (by omega) (by omega) (fun s9 h9 => by unfold m_sg at h9; unfold sg0; omega) (by rw [hQb.1, hQb.2.1]; exact hTn) (by omega)) ?_
        rintro _ _ ⟨(rfl | ⟨i10, rfl, i10l⟩), rfl⟩
        · refine h_run 0 (pc' := 61) (l' := [(0, .inr (.inr 1826)), (1, .inl (l : Int)), (2, .inl bk), (3, .inl (s : Int)), (4, .inl (q : Int)), (5, .inl wh), (6, .inl (o : Int))]) (st' := [.inl (-1)]) rfl ?_
          refine h_run 3 (pc' := 66) (l' := [(0, .inr (.inr 1826)), (1, .inl (l : Int)), (2, .inl bk), (3, .inl (s : Int)), (4, .inl (q : Int)), (5, .inl wh), (6, .inl (o : Int)), (7, .inl (-1))]) (st' := [.inl (-1), .inl (-1)]) rfl ?_
          refine h_ine (off := 6) (t := 72) rfl rfl (by decide) (by decide) (fun c => absurd c (by decide)) (fun _ => ?_)
          refine h_run 1 (pc' := 71) (l' := [(0, .inr (.inr 1826)), (1, .inl (l : Int)), (2, .inl bk), (3, .inl (s : Int)), (4, .inl (q : Int)), (5, .inl wh), (6, .inl (o : Int)), (7, .inl (-1))]) (st' := [.inl (-104)]) rfl ?_
          refine h_reti (x := (-104)) rfl rfl ?_
          have g11 : -2147483648 ≤ (H6.1 1826 97) ∧ (H6.1 1826 97) ≤ 2147483647 := hrg7.1 1826 13 97 _ .int rfl rfl
          have e12 : (H6.1 1826 97) = (H.1 1826 97) := hfH6.2.2 97 (by decide)
          exact ⟨hf8, (show (H6.1 1826 97) = -1 by omega), hOSH6, _, rfl, by omega, by omega⟩
        · refine h_run 0 (pc' := 61) (l' := [(0, .inr (.inr 1826)), (1, .inl (l : Int)), (2, .inl bk), (3, .inl (s : Int)), (4, .inl (q : Int)), (5, .inl wh), (6, .inl (o : Int))]) (st' := [.inl (i10 : Int)]) rfl ?_
          refine h_run 3 (pc' := 66) (l' := [(0, .inr (.inr 1826)), (1, .inl (l : Int)), (2, .inl bk), (3, .inl (s : Int)), (4, .inl (q : Int)), (5, .inl wh), (6, .inl (o : Int)), (7, .inl (i10 : Int))]) (st' := [.inl (-1), .inl (i10 : Int)]) rfl ?_
          refine h_ine (off := 6) (t := 72) rfl rfl (by omega) (by decide) (fun c13 => ?_) (fun c13 => ?_)
          · obtain ⟨ki, hki, hTi⟩ := tm_sub hTn (p := i10) (by omega)
            have hki1 : 1 ≤ ki := tm_le hTi
            have hsi := tm_ok hTn i10 (by omega)
            rw [Nat.zero_add] at hsi
            have hsi9 := hsi
            unfold m_sg at hsi9
            refine h_run 4 (pc' := 76) (l' := [(0, .inr (.inr 1826)), (1, .inl (l : Int)), (2, .inl bk), (3, .inl (s : Int)), (4, .inl (q : Int)), (5, .inl wh), (6, .inl (o : Int)), (7, .inl (i10 : Int))]) (st' := [.inl bk, .inl (2 * (l : Int))]) rfl ?_
            refine h_zeq (off := 7) (t := 83) rfl rfl (by omega) (fun c14 => ?_) (fun c14 => ?_)
            · refine h_run 2 (pc' := 85) (l' := [(0, .inr (.inr 1826)), (1, .inl (l : Int)), (2, .inl bk), (3, .inl (s : Int)), (4, .inl (q : Int)), (5, .inl wh), (6, .inl (o : Int)), (7, .inl (i10 : Int))]) (st' := [.inl ((2 * (l : Int)) + 0)]) rfl ?_
              obtain ⟨a9, ha9⟩ : ∃ x9 : Nat, x9 = 2 * l + 0 := ⟨_, rfl⟩
              rw [show ((2 * (l : Int)) + 0) = ((a9 : Nat) : Int) from (by omega)]
              refine h_run 5 (pc' := 91) (l' := [(0, .inr (.inr 1826)), (1, .inl (l : Int)), (2, .inl bk), (3, .inl (s : Int)), (4, .inl (q : Int)), (5, .inl wh), (6, .inl (o : Int)), (7, .inl (i10 : Int)), (8, .inl (a9 : Int))]) (st' := [.inl bk, .inl (2 * (l : Int))]) rfl ?_
              refine h_zeq (off := 7) (t := 98) rfl rfl (by omega) (fun c15 => ?_) (fun c15 => ?_)
              · refine h_run 2 (pc' := 100) (l' := [(0, .inr (.inr 1826)), (1, .inl (l : Int)), (2, .inl bk), (3, .inl (s : Int)), (4, .inl (q : Int)), (5, .inl wh), (6, .inl (o : Int)), (7, .inl (i10 : Int)), (8, .inl (a9 : Int))]) (st' := [.inl ((2 * (l : Int)) + 1)]) rfl ?_
                obtain ⟨b9, hb9⟩ : ∃ x9 : Nat, x9 = 2 * l + 1 := ⟨_, rfl⟩
                rw [show ((2 * (l : Int)) + 1) = ((b9 : Nat) : Int) from (by omega)]
                refine h_run 3 (pc' := 104) (l' := [(0, .inr (.inr 1826)), (1, .inl (l : Int)), (2, .inl bk), (3, .inl (s : Int)), (4, .inl (q : Int)), (5, .inl wh), (6, .inl (o : Int)), (7, .inl (i10 : Int)), (8, .inl (a9 : Int)), (9, .inl (b9 : Int))]) (st' := [.inl (l : Int), .inr (.inr 1826)]) rfl ?_
                refine h_puti (i := 202) (ci := 13) (k := 97) (a := 1826) (x := (l : Int)) rfl rfl rfl rfl rfl rfl (by decide) (by omega) ?_
                refine h_run 9 (pc' := 123) (l' := [(0, .inr (.inr 1826)), (1, .inl (l : Int)), (2, .inl bk), (3, .inl (s : Int)), (4, .inl (q : Int)), (5, .inl wh), (6, .inl (o : Int)), (7, .inl (i10 : Int)), (8, .inl (a9 : Int)), (9, .inl (b9 : Int))]) (st' := [.inl (a9 : Int), .inr (.inr 1843), .inl (48 * (a9 : Int)), .inr (.inr 1842), .inr (.inr 1826)]) rfl ?_
                refine h_ild (c := 1843) (j := a9) (i := (a9 : Int)) rfl rfl (by decide) rfl (by omega) ?_
                have g16 : -2147483648 ≤ (H6.1 1843 a9) ∧ (H6.1 1843 a9) ≤ 2147483647 := hrg7.2 1843 a9 32 .int rfl (by omega)
                have e17 : (H6.1 1843 a9) = (H.1 1843 a9) := congrFun (hfH6.2.1 1843 (by decide) (by decide)) a9
                refine h_run 0 (pc' := 124) (l' := [(0, .inr (.inr 1826)), (1, .inl (l : Int)), (2, .inl bk), (3, .inl (s : Int)), (4, .inl (q : Int)), (5, .inl wh), (6, .inl (o : Int)), (7, .inl (i10 : Int)), (8, .inl (a9 : Int)), (9, .inl (b9 : Int))]) (st' := [.inl (H6.1 1843 a9), .inl (48 * (a9 : Int)), .inr (.inr 1842), .inr (.inr 1826)]) rfl ?_
                have hsza9 : (H6.1 1843) a9 = (k0 : Int) := by rw [show (H6.1 1843) = (H.1 1843) from hfH6.2.1 1843 (by decide) (by decide), ha9]; exact k01
                rw [show (H6.1 1843 a9) = (k0 : Int) by omega]
                refine h_run 5 (pc' := 135) (l' := [(0, .inr (.inr 1826)), (1, .inl (l : Int)), (2, .inl bk), (3, .inl (s : Int)), (4, .inl (q : Int)), (5, .inl wh), (6, .inl (o : Int)), (7, .inl (i10 : Int)), (8, .inl (a9 : Int)), (9, .inl (b9 : Int))]) (st' := [.inl (o : Int), .inr (.inr 1875), .inl (i10 : Int), .inl 1000, .inl (k0 : Int), .inl (48 * (a9 : Int)), .inr (.inr 1842), .inr (.inr 1826)]) rfl ?_
                refine h_ild (c := 1875) (j := o) (i := (o : Int)) rfl rfl (by decide) rfl (by omega) ?_
                have g18 : -2147483648 ≤ (H6.1 1875 o) ∧ (H6.1 1875 o) ≤ 2147483647 := hrg7.2 1875 o 40 .int rfl (by omega)
                have e19 : (H6.1 1875 o) = (H.1 1875 o) := congrFun (hfH6.2.1 1875 (by decide) (by decide)) o
                refine h_run 0 (pc' := 136) (l' := [(0, .inr (.inr 1826)), (1, .inl (l : Int)), (2, .inl bk), (3, .inl (s : Int)), (4, .inl (q : Int)), (5, .inl wh), (6, .inl (o : Int)), (7, .inl (i10 : Int)), (8, .inl (a9 : Int)), (9, .inl (b9 : Int))]) (st' := [.inl (H6.1 1875 o), .inl (i10 : Int), .inl 1000, .inl (k0 : Int), .inl (48 * (a9 : Int)), .inr (.inr 1842), .inr (.inr 1826)]) rfl ?_
                refine h_run 3 (pc' := 141) (l' := [(0, .inr (.inr 1826)), (1, .inl (l : Int)), (2, .inl bk), (3, .inl (s : Int)), (4, .inl (q : Int)), (5, .inl wh), (6, .inl (o : Int)), (7, .inl (i10 : Int)), (8, .inl (a9 : Int)), (9, .inl (b9 : Int))]) (st' := [.inl (l : Int), .inr (.inr 1847), .inl (H6.1 1875 o), .inl (i10 : Int), .inl 1000, .inl (k0 : Int), .inl (48 * (a9 : Int)), .inr (.inr 1842), .inr (.inr 1826)]) rfl ?_
                refine h_ild (c := 1847) (j := l) (i := (l : Int)) rfl rfl (by decide) rfl (by omega) ?_
                have g20 : -2147483648 ≤ (H6.1 1847 l) ∧ (H6.1 1847 l) ≤ 2147483647 := hrg7.2 1847 l 16 .int rfl (by omega)
                have e21 : (H6.1 1847 l) = (H.1 1847 l) := congrFun (hfH6.2.1 1847 (by decide) (by decide)) l
                refine h_run 0 (pc' := 142) (l' := [(0, .inr (.inr 1826)), (1, .inl (l : Int)), (2, .inl bk), (3, .inl (s : Int)), (4, .inl (q : Int)), (5, .inl wh), (6, .inl (o : Int)), (7, .inl (i10 : Int)), (8, .inl (a9 : Int)), (9, .inl (b9 : Int))]) (st' := [.inl (H6.1 1847 l), .inl (H6.1 1875 o), .inl (i10 : Int), .inl 1000, .inl (k0 : Int), .inl (48 * (a9 : Int)), .inr (.inr 1842), .inr (.inr 1826)]) rfl ?_
                refine h_run 1 (pc' := 143) (l' := [(0, .inr (.inr 1826)), (1, .inl (l : Int)), (2, .inl bk), (3, .inl (s : Int)), (4, .inl (q : Int)), (5, .inl wh), (6, .inl (o : Int)), (7, .inl (i10 : Int)), (8, .inl (a9 : Int)), (9, .inl (b9 : Int))]) (st' := [.inl 1, .inl (H6.1 1847 l), .inl (H6.1 1875 o), .inl (i10 : Int), .inl 1000, .inl (k0 : Int), .inl (48 * (a9 : Int)), .inr (.inr 1842), .inr (.inr 1826)]) rfl ?_
                refine h_ine (off := 7) (t := 150) rfl rfl (by omega) (by decide) (fun c22 => ?_) (fun c22 => ?_)
                · refine h_run 1 (pc' := 151) (l' := [(0, .inr (.inr 1826)), (1, .inl (l : Int)), (2, .inl bk), (3, .inl (s : Int)), (4, .inl (q : Int)), (5, .inl wh), (6, .inl (o : Int)), (7, .inl (i10 : Int)), (8, .inl (a9 : Int)), (9, .inl (b9 : Int))]) (st' := [.inl 0, .inl (H6.1 1875 o), .inl (i10 : Int), .inl 1000, .inl (k0 : Int), .inl (48 * (a9 : Int)), .inr (.inr 1842), .inr (.inr 1826)]) rfl ?_
                  have g24 : -2147483648 ≤ (H6.1 1826 93) ∧ (H6.1 1826 93) ≤ 2147483647 := hrg7.1 1826 13 93 _ .int rfl rfl
                  have hQl : sP H (zu H6 1826 (up (H6.1 1826) 97 (l : Int))) := sP_fr (sP_rf H) (fr_o hf8 (by decide)) (by decide) (by decide)
                  have hPl : PWc (zu H6 1826 (up (H6.1 1826) 97 (l : Int))) := PWc_fr hP (fr_o hf8 (by decide)) (by decide) (by decide)
                  refine h_cv (i := 593) (j := 239) (b := 1826) (M' := mt_239) (xs := [.inl 0, .inl (H6.1 1875 o), .inl (i10 : Int), .inl 1000, .inl (k0 : Int), .inl (48 * (a9 : Int)), .inr (.inr 1842)]) (rest := []) rfl rfl rfl rfl rfl rfl (Nat.le_of_ble_eq_true rfl) (Nat.le_of_ble_eq_true rfl) (by omega) (m_isLike (p := (48 * a9)) (ln := k0) (N := N) (k := ki) (V := 6) (okp := (m_sg (H.1 1826 3) (H.1 1826 8) (vn : Nat))) (by omega) rfl (by decide) (by decide) hPl (by rw [hQl.1, hQl.2.1, hQl.2.2.1, hQl.2.2.2]; exact hTn) ⟨by omega, (show (H6.1 1826 93) = (N : Int) by omega)⟩ (by rw [hQl.1, hQl.2.1, hQl.2.2.1, hQl.2.2.2]; exact hTi) (by omega) (by rw [hQl.1, hQl.2.1]; exact (by show tm _ _ (H6.1 1842) _ _ 1; rw [show (H6.1 1842) = (H.1 1842) from hfH6.2.1 1842 (by decide) (by decide), ha9]; exact k03)) (show 48 * a9 + k0 ≤ 1536 ∧ k0 ≤ 60 by omega) (by omega) (Or.inr (show 0 ≤ (l : Int) ∧ (l : Int) ≤ 15 ∧ 6 ≤ 6 by omega)) (fun s9 h9 => by unfold m_sg at h9; omega) (by omega)) ?_
                  rintro _ H23 ⟨(rfl | ⟨rfl, xH23⟩), hfH23⟩
                  · refine h_rng (fun hrg25 => ?_)
                    have hf26 : fr [50, 51, 53, 76, 93, 97] [1847, 1852, 1853, 1855, 1856, 1873, 1874, 1878, 1884, 1886] H H23 := fr_t (fr_o hf8 (by decide)) hfH23 (by decide) (by decide)
                    have hOSH23 : OS H H23 n := OS_fr (OS_fr hOSH6 (show fr [97] [] H6 (zu H6 1826 (up (H6.1 1826) 97 (l : Int))) from (fr_o (fr_rf _ _ _) (by decide))) (by decide) (by decide) (by decide)) hfH23 (by decide) (by decide) (by decide)
                    have hooH23 : (H23.1 1871) 0 = (o : Int) := (congrFun (hfH23.2.1 1871 (by decide) (by decide)) 0).trans hooH6
                    refine h_run 0 (pc' := 154) (l' := [(0, .inr (.inr 1826)), (1, .inl (l : Int)), (2, .inl bk), (3, .inl (s : Int)), (4, .inl (q : Int)), (5, .inl wh), (6, .inl (o : Int)), (7, .inl (i10 : Int)), (8, .inl (a9 : Int)), (9, .inl (b9 : Int))]) (st' := [.inl 0]) rfl ?_
                    refine h_zeq (off := 35) (t := 189) rfl rfl (by decide) (fun _ => ?_) (fun c => absurd c (by decide))
                    refine h_run 4 (pc' := 194) (l' := [(0, .inr (.inr 1826)), (1, .inl (l : Int)), (2, .inl bk), (3, .inl (s : Int)), (4, .inl (q : Int)), (5, .inl wh), (6, .inl (o : Int)), (7, .inl (i10 : Int)), (8, .inl (a9 : Int)), (9, .inl (b9 : Int)), (10, .inl 0)]) (st' := [.inl (-1), .inr (.inr 1826)]) rfl ?_
                    refine h_puti (i := 202) (ci := 13) (k := 97) (a := 1826) (x := (-1)) rfl rfl rfl rfl rfl rfl (by decide) (by decide) ?_
                    refine h_run 1 (pc' := 199) (l' := [(0, .inr (.inr 1826)), (1, .inl (l : Int)), (2, .inl bk), (3, .inl (s : Int)), (4, .inl (q : Int)), (5, .inl wh), (6, .inl (o : Int)), (7, .inl (i10 : Int)), (8, .inl (a9 : Int)), (9, .inl (b9 : Int)), (10, .inl 0)]) (st' := [.inl 0]) rfl ?_
                    refine h_zne (off := 8) (t := 207) rfl rfl (by decide) (fun c => absurd c (by decide)) (fun _ => ?_)
                    refine h_run 2 (pc' := 226) (l' := [(0, .inr (.inr 1826)), (1, .inl (l : Int)), (2, .inl bk), (3, .inl (s : Int)), (4, .inl (q : Int)), (5, .inl wh), (6, .inl (o : Int)), (7, .inl (i10 : Int)), (8, .inl (a9 : Int)), (9, .inl (b9 : Int)), (10, .inl 0)]) (st' := [.inl (-104)]) rfl ?_
                    refine h_reti (x := (-104)) rfl rfl ?_
                    exact ⟨(fr_o hf26 (by decide)), (show (-1 : Int) = -1 by omega), (OS_fr hOSH23 (show fr [97] [] H23 (zu H23 1826 (up (H23.1 1826) 97 (-1))) from (fr_o (fr_rf _ _ _) (by decide))) (by decide) (by decide) (by decide)), _, rfl, by omega, by omega⟩
                  · refine h_rng (fun hrg27 => ?_)
                    have hf28 : fr [50, 51, 53, 76, 93, 97] [1847, 1852, 1853, 1855, 1856, 1873, 1874, 1878, 1884, 1886] H H23 := fr_t (fr_o hf8 (by decide)) hfH23 (by decide) (by decide)
                    have hOSH23 : OS H H23 n := OS_fr (OS_fr hOSH6 (show fr [97] [] H6 (zu H6 1826 (up (H6.1 1826) 97 (l : Int))) from (fr_o (fr_rf _ _ _) (by decide))) (by decide) (by decide) (by decide)) hfH23 (by decide) (by decide) (by decide)
                    have hooH23 : (H23.1 1871) 0 = (o : Int) := (congrFun (hfH23.2.1 1871 (by decide) (by decide)) 0).trans hooH6
                    have eNH23 : (H23.1 1884) = (H6.1 1884) := hfH23.2.1 1884 (by decide) (by decide)
                    have yH23 : fre (ma (H.1 1833) (H.1 1830)) (m_sg (H.1 1826 3) (H.1 1826 8) 60) (H23.1 1884) (H23.1 1886) N := by have h9 := xH23; rw [hQl.1, hQl.2.1, hQl.2.2.1, hQl.2.2.2] at h9; rw [eNH23]; exact h9
                    have hTnH23 : tm (ma (H.1 1833) (H.1 1830)) (m_sg (H.1 1826 3) (H.1 1826 8) 60) (H23.1 1884) N 0 1 := by rw [eNH23]; exact hTn
                    have hTiH23 : tm (ma (H.1 1833) (H.1 1830)) (m_sg (H.1 1826 3) (H.1 1826 8) 60) (H23.1 1884) ki i10 1 := by rw [eNH23]; exact hTi
                    refine h_run 0 (pc' := 154) (l' := [(0, .inr (.inr 1826)), (1, .inl (l : Int)), (2, .inl bk), (3, .inl (s : Int)), (4, .inl (q : Int)), (5, .inl wh), (6, .inl (o : Int)), (7, .inl (i10 : Int)), (8, .inl (a9 : Int)), (9, .inl (b9 : Int))]) (st' := [.inl 1]) rfl ?_
                    refine h_zeq (off := 35) (t := 189) rfl rfl (by decide) (fun c => absurd c (by decide)) (fun _ => ?_)
                    refine h_run 9 (pc' := 173) (l' := [(0, .inr (.inr 1826)), (1, .inl (l : Int)), (2, .inl bk), (3, .inl (s : Int)), (4, .inl (q : Int)), (5, .inl wh), (6, .inl (o : Int)), (7, .inl (i10 : Int)), (8, .inl (a9 : Int)), (9, .inl (b9 : Int))]) (st' := [.inl (b9 : Int), .inr (.inr 1843), .inl (48 * (b9 : Int)), .inr (.inr 1842), .inr (.inr 1826)]) rfl ?_
                    refine h_ild (c := 1843) (j := b9) (i := (b9 : Int)) rfl rfl (by decide) rfl (by omega) ?_
                    have g29 : -2147483648 ≤ (H23.1 1843 b9) ∧ (H23.1 1843 b9) ≤ 2147483647 := hrg27.2 1843 b9 32 .int rfl (by omega)
                    have e30 : (H23.1 1843 b9) = (H6.1 1843 b9) := congrFun (hfH23.2.1 1843 (by decide) (by decide)) b9
                    have e31 : (H6.1 1843 b9) = (H.1 1843 b9) := congrFun (hfH6.2.1 1843 (by decide) (by decide)) b9
                    refine h_run 0 (pc' := 174) (l' := [(0, .inr (.inr 1826)), (1, .inl (l : Int)), (2, .inl bk), (3, .inl (s : Int)), (4, .inl (q : Int)), (5, .inl wh), (6, .inl (o : Int)), (7, .inl (i10 : Int)), (8, .inl (a9 : Int)), (9, .inl (b9 : Int))]) (st' := [.inl (H23.1 1843 b9), .inl (48 * (b9 : Int)), .inr (.inr 1842), .inr (.inr 1826)]) rfl ?_
                    have hszb9 : (H23.1 1843) b9 = (k1 : Int) := by rw [show (H23.1 1843) = (H6.1 1843) from hfH23.2.1 1843 (by decide) (by decide), show (H6.1 1843) = (H.1 1843) from hfH6.2.1 1843 (by decide) (by decide), hb9]; exact k11
                    rw [show (H23.1 1843 b9) = (k1 : Int) by omega]
                    refine h_run 2 (pc' := 179) (l' := [(0, .inr (.inr 1826)), (1, .inl (l : Int)), (2, .inl bk), (3, .inl (s : Int)), (4, .inl (q : Int)), (5, .inl wh), (6, .inl (o : Int)), (7, .inl (i10 : Int)), (8, .inl (a9 : Int)), (9, .inl (b9 : Int))]) (st' := [.inl (i10 : Int), .inl 1000, .inl (k1 : Int), .inl (48 * (b9 : Int)), .inr (.inr 1842), .inr (.inr 1826)]) rfl ?_
                    have g33 : -2147483648 ≤ (H23.1 1826 93) ∧ (H23.1 1826 93) ≤ 2147483647 := hrg27.1 1826 13 93 _ .int rfl rfl
                    have e34 : (H23.1 1826 93) = (H6.1 1826 93) := hfH23.2.2 93 (by decide)
                    have hQk : sP H H23 := sP_fr (sP_rf H) hf28 (by decide) (by decide)
                    have hPk : PWc H23 := PWc_fr hP hf28 (by decide) (by decide)
                    refine h_cv (i := 597) (j := 242) (b := 1826) (M' := mt_242) (xs := [.inl (i10 : Int), .inl 1000, .inl (k1 : Int), .inl (48 * (b9 : Int)), .inr (.inr 1842)]) (rest := []) rfl rfl rfl rfl rfl rfl (Nat.le_of_ble_eq_true rfl) (Nat.le_of_ble_eq_true rfl) (by omega) (m_isMade (p := (48 * b9)) (ln := k1) (N := N) (k := ki) (okp := (m_sg (H.1 1826 3) (H.1 1826 8) (vn : Nat))) (by omega) rfl (by decide) (by decide) hPk (by rw [hQk.1, hQk.2.1, hQk.2.2.1, hQk.2.2.2]; exact hTnH23) ⟨by omega, (show (H23.1 1826 93) = (N : Int) by omega)⟩ (by rw [hQk.1, hQk.2.1, hQk.2.2.1, hQk.2.2.2]; exact hTiH23) (by omega) (by rw [hQk.1, hQk.2.1]; exact (by show tm _ _ (H23.1 1842) _ _ 1; rw [show (H23.1 1842) = (H6.1 1842) from hfH23.2.1 1842 (by decide) (by decide), show (H6.1 1842) = (H.1 1842) from hfH6.2.1 1842 (by decide) (by decide), hb9]; exact k13)) (show 48 * b9 + k1 ≤ 1536 ∧ k1 ≤ 60 by omega) (by omega) (by rw [hQk.2.2.1, hQk.2.2.2]; exact (fun s9 h9 => by unfold m_sg at *; omega)) (by rw [hQk.1, hQk.2.1, hQk.2.2.1, hQk.2.2.2]; exact yH23)) ?_
                    rintro _ H32 ⟨(rfl | ⟨rfl, MH32, zH32, mH32, tH32⟩), hfH32⟩
                    · refine h_rng (fun hrg35 => ?_)
                      have hf36 : fr [50, 51, 53, 76, 93, 97] [1847, 1852, 1853, 1855, 1856, 1873, 1874, 1878, 1884, 1886] H H32 := fr_t hf28 hfH32 (by decide) (by decide)
                      have hOSH32 : OS H H32 n := OS_fr hOSH23 hfH32 (by decide) (by decide) (by decide)
                      have hooH32 : (H32.1 1871) 0 = (o : Int) := (congrFun (hfH32.2.1 1871 (by decide) (by decide)) 0).trans hooH23
                      refine h_run 0 (pc' := 182) (l' := [(0, .inr (.inr 1826)), (1, .inl (l : Int)), (2, .inl bk), (3, .inl (s : Int)), (4, .inl (q : Int)), (5, .inl wh), (6, .inl (o : Int)), (7, .inl (i10 : Int)), (8, .inl (a9 : Int)), (9, .inl (b9 : Int))]) (st' := [.inl 0]) rfl ?_
                      refine h_zeq (off := 7) (t := 189) rfl rfl (by decide) (fun _ => ?_) (fun c => absurd c (by decide))
                      refine h_run 4 (pc' := 194) (l' := [(0, .inr (.inr 1826)), (1, .inl (l : Int)), (2, .inl bk), (3, .inl (s : Int)), (4, .inl (q : Int)), (5, .inl wh), (6, .inl (o : Int)), (7, .inl (i10 : Int)), (8, .inl (a9 : Int)), (9, .inl (b9 : Int)), (10, .inl 0)]) (st' := [.inl (-1), .inr (.inr 1826)]) rfl ?_
                      refine h_puti (i := 202) (ci := 13) (k := 97) (a := 1826) (x := (-1)) rfl rfl rfl rfl rfl rfl (by decide) (by decide) ?_
                      refine h_run 1 (pc' := 199) (l' := [(0, .inr (.inr 1826)), (1, .inl (l : Int)), (2, .inl bk), (3, .inl (s : Int)), (4, .inl (q : Int)), (5, .inl wh), (6, .inl (o : Int)), (7, .inl (i10 : Int)), (8, .inl (a9 : Int)), (9, .inl (b9 : Int)), (10, .inl 0)]) (st' := [.inl 0]) rfl ?_
                      refine h_zne (off := 8) (t := 207) rfl rfl (by decide) (fun c => absurd c (by decide)) (fun _ => ?_)
                      refine h_run 2 (pc' := 226) (l' := [(0, .inr (.inr 1826)), (1, .inl (l : Int)), (2, .inl bk), (3, .inl (s : Int)), (4, .inl (q : Int)), (5, .inl wh), (6, .inl (o : Int)), (7, .inl (i10 : Int)), (8, .inl (a9 : Int)), (9, .inl (b9 : Int)), (10, .inl 0)]) (st' := [.inl (-104)]) rfl ?_
                      refine h_reti (x := (-104)) rfl rfl ?_
                      exact ⟨(fr_o hf36 (by decide)), (show (-1 : Int) = -1 by omega), (OS_fr hOSH32 (show fr [97] [] H32 (zu H32 1826 (up (H32.1 1826) 97 (-1))) from (fr_o (fr_rf _ _ _) (by decide))) (by decide) (by decide) (by decide)), _, rfl, by omega, by omega⟩
                    · refine h_rng (fun hrg37 => ?_)
                      have hf38 : fr [50, 51, 53, 76, 93, 97] [1847, 1852, 1853, 1855, 1856, 1873, 1874, 1878, 1884, 1886] H H32 := fr_t hf28 hfH32 (by decide) (by decide)
                      have hOSH32 : OS H H32 n := OS_fr hOSH23 hfH32 (by decide) (by decide) (by decide)
                      have hooH32 : (H32.1 1871) 0 = (o : Int) := (congrFun (hfH32.2.1 1871 (by decide) (by decide)) 0).trans hooH23
                      have tdH32 : tm (ma (H.1 1833) (H.1 1830)) (m_sg (H.1 1826 3) (H.1 1826 8) 60) (H32.1 1856) MH32 0 1 := by have h9 := tH32; rw [hQk.1, hQk.2.1, hQk.2.2.1, hQk.2.2.2] at h9; exact h9
                      refine h_run 0 (pc' := 182) (l' := [(0, .inr (.inr 1826)), (1, .inl (l : Int)), (2, .inl bk), (3, .inl (s : Int)), (4, .inl (q : Int)), (5, .inl wh), (6, .inl (o : Int)), (7, .inl (i10 : Int)), (8, .inl (a9 : Int)), (9, .inl (b9 : Int))]) (st' := [.inl 1]) rfl ?_
                      refine h_zeq (off := 7) (t := 189) rfl rfl (by decide) (fun c => absurd c (by decide)) (fun _ => ?_)
                      refine h_run 5 (pc' := 194) (l' := [(0, .inr (.inr 1826)), (1, .inl (l : Int)), (2, .inl bk), (3, .inl (s : Int)), (4, .inl (q : Int)), (5, .inl wh), (6, .inl (o : Int)), (7, .inl (i10 : Int)), (8, .inl (a9 : Int)), (9, .inl (b9 : Int)), (10, .inl 1)]) (st' := [.inl (-1), .inr (.inr 1826)]) rfl ?_
                      refine h_puti (i := 202) (ci := 13) (k := 97) (a := 1826) (x := (-1)) rfl rfl rfl rfl rfl rfl (by decide) (by decide) ?_
                      refine h_run 1 (pc' := 199) (l' := [(0, .inr (.inr 1826)), (1, .inl (l : Int)), (2, .inl bk), (3, .inl (s : Int)), (4, .inl (q : Int)), (5, .inl wh), (6, .inl (o : Int)), (7, .inl (i10 : Int)), (8, .inl (a9 : Int)), (9, .inl (b9 : Int)), (10, .inl 1)]) (st' := [.inl 1]) rfl ?_
                      refine h_zne (off := 8) (t := 207) rfl rfl (by decide) (fun _ => ?_) (fun c => absurd c (by decide))
                      refine h_run 3 (pc' := 211) (l' := [(0, .inr (.inr 1826)), (1, .inl (l : Int)), (2, .inl bk), (3, .inl (s : Int)), (4, .inl (q : Int)), (5, .inl wh), (6, .inl (o : Int)), (7, .inl (i10 : Int)), (8, .inl (a9 : Int)), (9, .inl (b9 : Int)), (10, .inl 1)]) (st' := [.inl (s : Int), .inl (o : Int), .inr (.inr 1826)]) rfl ?_
                      refine h_cv (i := 575) (j := 229) (b := 1826) (M' := mt_229) (xs := [.inl (s : Int), .inl (o : Int)]) (rest := []) rfl rfl rfl rfl rfl rfl (Nat.le_of_ble_eq_true rfl) (Nat.le_of_ble_eq_true rfl) (by omega) (m_isKept (M := MH32) (by omega) (by omega) ⟨zH32, mH32⟩) ?_
                      rintro _ H39 (⟨rfl, hxH39, rfl⟩ | ⟨rfl, hlH39, hfH39, hzH39, hcH39, hoH39⟩)
                      · refine h_run 0 (pc' := 214) (l' := [(0, .inr (.inr 1826)), (1, .inl (l : Int)), (2, .inl bk), (3, .inl (s : Int)), (4, .inl (q : Int)), (5, .inl wh), (6, .inl (o : Int)), (7, .inl (i10 : Int)), (8, .inl (a9 : Int)), (9, .inl (b9 : Int)), (10, .inl 1)]) (st' := [.inl 0]) rfl ?_
                        refine h_zeq (off := 10) (t := 224) rfl rfl (by decide) (fun _ => ?_) (fun c => absurd c (by decide))
                        refine h_run 1 (pc' := 226) (l' := [(0, .inr (.inr 1826)), (1, .inl (l : Int)), (2, .inl bk), (3, .inl (s : Int)), (4, .inl (q : Int)), (5, .inl wh), (6, .inl (o : Int)), (7, .inl (i10 : Int)), (8, .inl (a9 : Int)), (9, .inl (b9 : Int)), (10, .inl 1)]) (st' := [.inl (-105)]) rfl ?_
                        refine h_reti (x := (-105)) rfl rfl ?_
                        exact ⟨(fr_o hf38 (by decide)), (show (-1 : Int) = -1 by omega), (OS_fr hOSH32 (show fr [97] [] H32 (zu H32 1826 (up (H32.1 1826) 97 (-1))) from (fr_o (fr_rf _ _ _) (by decide))) (by decide) (by decide) (by decide)), _, rfl, by omega, by omega⟩
                      · refine h_rng (fun hrg40 => ?_)
                        have hf41 : fr [50, 51, 53, 76, 93, 97] [1847, 1852, 1853, 1855, 1856, 1873, 1874, 1878, 1884, 1886] H H39 := fr_t (fr_o hf38 (by decide)) hfH39 (by decide) (by decide)
                        have hOSH39 : OS H H39 n := OS_side (OS_fr hOSH32 (show fr [97] [] H32 (zu H32 1826 (up (H32.1 1826) 97 (-1))) from (fr_o (fr_rf _ _ _) (by decide))) (by decide) (by decide) (by decide)) hooH32 hfH39 hs hlH39 hzH39 hcH39 hoH39 tdH32
                        have hooH39 : (H39.1 1871) 0 = (o : Int) := (congrFun (hfH39.2.1 1871 (by decide) (by decide)) 0).trans hooH32
                        refine h_run 0 (pc' := 214) (l' := [(0, .inr (.inr 1826)), (1, .inl (l : Int)), (2, .inl bk), (3, .inl (s : Int)), (4, .inl (q : Int)), (5, .inl wh), (6, .inl (o : Int)), (7, .inl (i10 : Int)), (8, .inl (a9 : Int)), (9, .inl (b9 : Int)), (10, .inl 1)]) (st' := [.inl 1]) rfl ?_
                        refine h_zeq (off := 10) (t := 224) rfl rfl (by decide) (fun c => absurd c (by decide)) (fun _ => ?_)
                        refine h_run 1 (pc' := 218) (l' := [(0, .inr (.inr 1826)), (1, .inl (l : Int)), (2, .inl bk), (3, .inl (s : Int)), (4, .inl (q : Int)), (5, .inl wh), (6, .inl (o : Int)), (7, .inl (i10 : Int)), (8, .inl (a9 : Int)), (9, .inl (b9 : Int)), (10, .inl 1)]) (st' := [.inr (.inr 1826)]) rfl ?_
                        refine h_cv (i := 556) (j := 232) (b := 1826) (M' := mt_232) (xs := []) (rest := []) rfl rfl rfl rfl rfl rfl (Nat.le_of_ble_eq_true rfl) (Nat.le_of_ble_eq_true rfl) (by omega) (m_did (n := n) (by omega) hOSH39.1.1 (fun q9 => absurd q9 (by omega)) (by rw [show (H39.1 1871) 0 = (o : Int) from hooH39]; omega)) ?_
                        rintro _ H42 ⟨rfl, hfH42⟩
                        refine h_rng (fun hrg43 => ?_)
                        have hf44 : fr [50, 51, 53, 76, 93, 97] [1847, 1852, 1853, 1855, 1856, 1873, 1874, 1878, 1884, 1886] H H42 := fr_t hf41 hfH42 (by decide) (by decide)
                        have hOSH42 : OS H H42 n := OS_fr hOSH39 hfH42 (by decide) (by decide) (by decide)
                        have hooH42 : (H42.1 1871) 0 = (o : Int) := (congrFun (hfH42.2.1 1871 (by decide) (by decide)) 0).trans hooH39
                        refine h_run 0 (pc' := 221) (l' := [(0, .inr (.inr 1826)), (1, .inl (l : Int)), (2, .inl bk), (3, .inl (s : Int)), (4, .inl (q : Int)), (5, .inl wh), (6, .inl (o : Int)), (7, .inl (i10 : Int)), (8, .inl (a9 : Int)), (9, .inl (b9 : Int)), (10, .inl 1)]) (st' := [.inl (n : Int)]) rfl ?_
                        refine h_run 1 (pc' := 226) (l' := [(0, .inr (.inr 1826)), (1, .inl (l : Int)), (2, .inl bk), (3, .inl (s : Int)), (4, .inl (q : Int)), (5, .inl wh), (6, .inl (o : Int)), (7, .inl (i10 : Int)), (8, .inl (a9 : Int)), (9, .inl (b9 : Int)), (10, .inl 1)]) (st' := [.inl (n : Int)]) rfl ?_
                        refine h_reti (x := (n : Int)) rfl rfl ?_
                        have g45 : -2147483648 ≤ (H42.1 1826 97) ∧ (H42.1 1826 97) ≤ 2147483647 := hrg43.1 1826 13 97 _ .int rfl rfl
                        have e46 : (H42.1 1826 97) = (H39.1 1826 97) := hfH42.2.2 97 (by decide)
                        have e47 : (H39.1 1826 97) = (-1) := hfH39.2.2 97 (by decide)
                        exact ⟨hf44, (show (H42.1 1826 97) = -1 by omega), hOSH42, _, rfl, by omega, by omega⟩
                · refine h_run 2 (pc' := 151) (l' := [(0, .inr (.inr 1826)), (1, .inl (l : Int)), (2, .inl bk), (3, .inl (s : Int)), (4, .inl (q : Int)), (5, .inl wh), (6, .inl (o : Int)), (7, .inl (i10 : Int)), (8, .inl (a9 : Int)), (9, .inl (b9 : Int))]) (st' := [.inl 1, .inl (H6.1 1875 o), .inl (i10 : Int), .inl 1000, .inl (k0 : Int), .inl (48 * (a9 : Int)), .inr (.inr 1842), .inr (.inr 1826)]) rfl ?_
                  have g49 : -2147483648 ≤ (H6.1 1826 93) ∧ (H6.1 1826 93) ≤ 2147483647 := hrg7.1 1826 13 93 _ .int rfl rfl
                  have hQl : sP H (zu H6 1826 (up (H6.1 1826) 97 (l : Int))) := sP_fr (sP_rf H) (fr_o hf8 (by decide)) (by decide) (by decide)
                  have hPl : PWc (zu H6 1826 (up (H6.1 1826) 97 (l : Int))) := PWc_fr hP (fr_o hf8 (by decide)) (by decide) (by decide)
                  refine h_cv (i := 593) (j := 239) (b := 1826) (M' := mt_239) (xs := [.inl 1, .inl (H6.1 1875 o), .inl (i10 : Int), .inl 1000, .inl (k0 : Int), .inl (48 * (a9 : Int)), .inr (.inr 1842)]) (rest := []) rfl rfl rfl rfl rfl rfl (Nat.le_of_ble_eq_true rfl) (Nat.le_of_ble_eq_true rfl) (by omega) (m_isLike (p := (48 * a9)) (ln := k0) (N := N) (k := ki) (V := 6) (okp := (m_sg (H.1 1826 3) (H.1 1826 8) (vn : Nat))) (by omega) rfl (by decide) (by decide) hPl (by rw [hQl.1, hQl.2.1, hQl.2.2.1, hQl.2.2.2]; exact hTn) ⟨by omega, (show (H6.1 1826 93) = (N : Int) by omega)⟩ (by rw [hQl.1, hQl.2.1, hQl.2.2.1, hQl.2.2.2]; exact hTi) (by omega) (by rw [hQl.1, hQl.2.1]; exact (by show tm _ _ (H6.1 1842) _ _ 1; rw [show (H6.1 1842) = (H.1 1842) from hfH6.2.1 1842 (by decide) (by decide), ha9]; exact k03)) (show 48 * a9 + k0 ≤ 1536 ∧ k0 ≤ 60 by omega) (by omega) (Or.inr (show 0 ≤ (l : Int) ∧ (l : Int) ≤ 15 ∧ 6 ≤ 6 by omega)) (fun s9 h9 => by unfold m_sg at h9; omega) (by omega)) ?_
                  rintro _ H48 ⟨(rfl | ⟨rfl, xH48⟩), hfH48⟩
                  · refine h_rng (fun hrg50 => ?_)
                    have hf51 : fr [50, 51, 53, 76, 93, 97] [1847, 1852, 1853, 1855, 1856, 1873, 1874, 1878, 1884, 1886] H H48 := fr_t (fr_o hf8 (by decide)) hfH48 (by decide) (by decide)
                    have hOSH48 : OS H H48 n := OS_fr (OS_fr hOSH6 (show fr [97] [] H6 (zu H6 1826 (up (H6.1 1826) 97 (l : Int))) from (fr_o (fr_rf _ _ _) (by decide))) (by decide) (by decide) (by decide)) hfH48 (by decide) (by decide) (by decide)
                    have hooH48 : (H48.1 1871) 0 = (o : Int) := (congrFun (hfH48.2.1 1871 (by decide) (by decide)) 0).trans hooH6
                    refine h_run 0 (pc' := 154) (l' := [(0, .inr (.inr 1826)), (1, .inl (l : Int)), (2, .inl bk), (3, .inl (s : Int)), (4, .inl (q : Int)), (5, .inl wh), (6, .inl (o : Int)), (7, .inl (i10 : Int)), (8, .inl (a9 : Int)), (9, .inl (b9 : Int))]) (st' := [.inl 0]) rfl ?_
                    refine h_zeq (off := 35) (t := 189) rfl rfl (by decide) (fun _ => ?_) (fun c => absurd c (by decide))
                    refine h_run 4 (pc' := 194) (l' := [(0, .inr (.inr 1826)), (1, .inl (l : Int)), (2, .inl bk), (3, .inl (s : Int)), (4, .inl (q : Int)), (5, .inl wh), (6, .inl (o : Int)), (7, .inl (i10 : Int)), (8, .inl (a9 : Int)), (9, .inl (b9 : Int)), (10, .inl 0)]) (st' := [.inl (-1), .inr (.inr 1826)]) rfl ?_
                    refine h_puti (i := 202) (ci := 13) (k := 97) (a := 1826) (x := (-1)) rfl rfl rfl rfl rfl rfl (by decide) (by decide) ?_
                    refine h_run 1 (pc' := 199) (l' := [(0, .inr (.inr 1826)), (1, .inl (l : Int)), (2, .inl bk), (3, .inl (s : Int)), (4, .inl (q : Int)), (5, .inl wh), (6, .inl (o : Int)), (7, .inl (i10 : Int)), (8, .inl (a9 : Int)), (9, .inl (b9 : Int)), (10, .inl 0)]) (st' := [.inl 0]) rfl ?_
                    refine h_zne (off := 8) (t := 207) rfl rfl (by decide) (fun c => absurd c (by decide)) (fun _ => ?_)
                    refine h_run 2 (pc' := 226) (l' := [(0, .inr (.inr 1826)), (1, .inl (l : Int)), (2, .inl bk), (3, .inl (s : Int)), (4, .inl (q : Int)), (5, .inl wh), (6, .inl (o : Int)), (7, .inl (i10 : Int)), (8, .inl (a9 : Int)), (9, .inl (b9 : Int)), (10, .inl 0)]) (st' := [.inl (-104)]) rfl ?_
                    refine h_reti (x := (-104)) rfl rfl ?_
                    exact ⟨(fr_o hf51 (by decide)), (show (-1 : Int) = -1 by omega), (OS_fr hOSH48 (show fr [97] [] H48 (zu H48 1826 (up (H48.1 1826) 97 (-1))) from (fr_o (fr_rf _ _ _) (by decide))) (by decide) (by decide) (by decide)), _, rfl, by omega, by omega⟩
                  · refine h_rng (fun hrg52 => ?_)
                    have hf53 : fr [50, 51, 53, 76, 93, 97] [1847, 1852, 1853, 1855, 1856, 1873, 1874, 1878, 1884, 1886] H H48 := fr_t (fr_o hf8 (by decide)) hfH48 (by decide) (by decide)
                    have hOSH48 : OS H H48 n := OS_fr (OS_fr hOSH6 (show fr [97] [] H6 (zu H6 1826 (up (H6.1 1826) 97 (l : Int))) from (fr_o (fr_rf _ _ _) (by decide))) (by decide) (by decide) (by decide)) hfH48 (by decide) (by decide) (by decide)
                    have hooH48 : (H48.1 1871) 0 = (o : Int) := (congrFun (hfH48.2.1 1871 (by decide) (by decide)) 0).trans hooH6
                    have eNH48 : (H48.1 1884) = (H6.1 1884) := hfH48.2.1 1884 (by decide) (by decide)
                    have yH48 : fre (ma (H.1 1833) (H.1 1830)) (m_sg (H.1 1826 3) (H.1 1826 8) 60) (H48.1 1884) (H48.1 1886) N := by have h9 := xH48; rw [hQl.1, hQl.2.1, hQl.2.2.1, hQl.2.2.2] at h9; rw [eNH48]; exact h9
                    have hTnH48 : tm (ma (H.1 1833) (H.1 1830)) (m_sg (H.1 1826 3) (H.1 1826 8) 60) (H48.1 1884) N 0 1 := by rw [eNH48]; exact hTn
                    have hTiH48 : tm (ma (H.1 1833) (H.1 1830)) (m_sg (H.1 1826 3) (H.1 1826 8) 60) (H48.1 1884) ki i10 1 := by rw [eNH48]; exact hTi
                    refine h_run 0 (pc' := 154) (l' := [(0, .inr (.inr 1826)), (1, .inl (l : Int)), (2, .inl bk), (3, .inl (s : Int)), (4, .inl (q : Int)), (5, .inl wh), (6, .inl (o : Int)), (7, .inl (i10 : Int)), (8, .inl (a9 : Int)), (9, .inl (b9 : Int))]) (st' := [.inl 1]) rfl ?_
                    refine h_zeq (off := 35) (t := 189) rfl rfl (by decide) (fun c => absurd c (by decide)) (fun _ => ?_)
                    refine h_run 9 (pc' := 173) (l' := [(0, .inr (.inr 1826)), (1, .inl (l : Int)), (2, .inl bk), (3, .inl (s : Int)), (4, .inl (q : Int)), (5, .inl wh), (6, .inl (o : Int)), (7, .inl (i10 : Int)), (8, .inl (a9 : Int)), (9, .inl (b9 : Int))]) (st' := [.inl (b9 : Int), .inr (.inr 1843), .inl (48 * (b9 : Int)), .inr (.inr 1842), .inr (.inr 1826)]) rfl ?_
                    refine h_ild (c := 1843) (j := b9) (i := (b9 : Int)) rfl rfl (by decide) rfl (by omega) ?_
                    have g54 : -2147483648 ≤ (H48.1 1843 b9) ∧ (H48.1 1843 b9) ≤ 2147483647 := hrg52.2 1843 b9 32 .int rfl (by omega)
                    have e55 : (H48.1 1843 b9) = (H6.1 1843 b9) := congrFun (hfH48.2.1 1843 (by decide) (by decide)) b9
                    have e56 : (H6.1 1843 b9) = (H.1 1843 b9) := congrFun (hfH6.2.1 1843 (by decide) (by decide)) b9
                    refine h_run 0 (pc' := 174) (l' := [(0, .inr (.inr 1826)), (1, .inl (l : Int)), (2, .inl bk), (3, .inl (s : Int)), (4, .inl (q : Int)), (5, .inl wh), (6, .inl (o : Int)), (7, .inl (i10 : Int)), (8, .inl (a9 : Int)), (9, .inl (b9 : Int))]) (st' := [.inl (H48.1 1843 b9), .inl (48 * (b9 : Int)), .inr (.inr 1842), .inr (.inr 1826)]) rfl ?_
                    have hszb9 : (H48.1 1843) b9 = (k1 : Int) := by rw [show (H48.1 1843) = (H6.1 1843) from hfH48.2.1 1843 (by decide) (by decide), show (H6.1 1843) = (H.1 1843) from hfH6.2.1 1843 (by decide) (by decide), hb9]; exact k11
                    rw [show (H48.1 1843 b9) = (k1 : Int) by omega]
                    refine h_run 2 (pc' := 179) (l' := [(0, .inr (.inr 1826)), (1, .inl (l : Int)), (2, .inl bk), (3, .inl (s : Int)), (4, .inl (q : Int)), (5, .inl wh), (6, .inl (o : Int)), (7, .inl (i10 : Int)), (8, .inl (a9 : Int)), (9, .inl (b9 : Int))]) (st' := [.inl (i10 : Int), .inl 1000, .inl (k1 : Int), .inl (48 * (b9 : Int)), .inr (.inr 1842), .inr (.inr 1826)]) rfl ?_
                    have g58 : -2147483648 ≤ (H48.1 1826 93) ∧ (H48.1 1826 93) ≤ 2147483647 := hrg52.1 1826 13 93 _ .int rfl rfl
                    have e59 : (H48.1 1826 93) = (H6.1 1826 93) := hfH48.2.2 93 (by decide)
                    have hQk : sP H H48 := sP_fr (sP_rf H) hf53 (by decide) (by decide)
                    have hPk : PWc H48 := PWc_fr hP hf53 (by decide) (by decide)
                    refine h_cv (i := 597) (j := 242) (b := 1826) (M' := mt_242) (xs := [.inl (i10 : Int), .inl 1000, .inl (k1 : Int), .inl (48 * (b9 : Int)), .inr (.inr 1842)]) (rest := []) rfl rfl rfl rfl rfl rfl (Nat.le_of_ble_eq_true rfl) (Nat.le_of_ble_eq_true rfl) (by omega) (m_isMade (p := (48 * b9)) (ln := k1) (N := N) (k := ki) (okp := (m_sg (H.1 1826 3) (H.1 1826 8) (vn : Nat))) (by omega) rfl (by decide) (by decide) hPk (by rw [hQk.1, hQk.2.1, hQk.2.2.1, hQk.2.2.2]; exact hTnH48) ⟨by omega, (show (H48.1 1826 93) = (N : Int) by omega)⟩ (by rw [hQk.1, hQk.2.1, hQk.2.2.1, hQk.2.2.2]; exact hTiH48) (by omega) (by rw [hQk.1, hQk.2.1]; exact (by show tm _ _ (H48.1 1842) _ _ 1; rw [show (H48.1 1842) = (H6.1 1842) from hfH48.2.1 1842 (by decide) (by decide), show (H6.1 1842) = (H.1 1842) from hfH6.2.1 1842 (by decide) (by decide), hb9]; exact k13)) (show 48 * b9 + k1 ≤ 1536 ∧ k1 ≤ 60 by omega) (by omega) (by rw [hQk.2.2.1, hQk.2.2.2]; exact (fun s9 h9 => by unfold m_sg at *; omega)) (by rw [hQk.1, hQk.2.1, hQk.2.2.1, hQk.2.2.2]; exact yH48)) ?_
                    rintro _ H57 ⟨(rfl | ⟨rfl, MH57, zH57, mH57, tH57⟩), hfH57⟩
                    · refine h_rng (fun hrg60 => ?_)
                      have hf61 : fr [50, 51, 53, 76, 93, 97] [1847, 1852, 1853, 1855, 1856, 1873, 1874, 1878, 1884, 1886] H H57 := fr_t hf53 hfH57 (by decide) (by decide)
                      have hOSH57 : OS H H57 n := OS_fr hOSH48 hfH57 (by decide) (by decide) (by decide)
                      have hooH57 : (H57.1 1871) 0 = (o : Int) := (congrFun (hfH57.2.1 1871 (by decide) (by decide)) 0).trans hooH48
                      refine h_run 0 (pc' := 182) (l' := [(0, .inr (.inr 1826)), (1, .inl (l : Int)), (2, .inl bk), (3, .inl (s : Int)), (4, .inl (q : Int)), (5, .inl wh), (6, .inl (o : Int)), (7, .inl (i10 : Int)), (8, .inl (a9 : Int)), (9, .inl (b9 : Int))]) (st' := [.inl 0]) rfl ?_
                      refine h_zeq (off := 7) (t := 189) rfl rfl (by decide) (fun _ => ?_) (fun c => absurd c (by decide))
                      refine h_run 4 (pc' := 194) (l' := [(0, .inr (.inr 1826)), (1, .inl (l : Int)), (2, .inl bk), (3, .inl (s : Int)), (4, .inl (q : Int)), (5, .inl wh), (6, .inl (o : Int)), (7, .inl (i10 : Int)), (8, .inl (a9 : Int)), (9, .inl (b9 : Int)), (10, .inl 0)]) (st' := [.inl (-1), .inr (.inr 1826)]) rfl ?_
                      refine h_puti (i := 202) (ci := 13) (k := 97) (a := 1826) (x := (-1)) rfl rfl rfl rfl rfl rfl (by decide) (by decide) ?_
                      refine h_run 1 (pc' := 199) (l' := [(0, .inr (.inr 1826)), (1, .inl (l : Int)), (2, .inl bk), (3, .inl (s : Int)), (4, .inl (q : Int)), (5, .inl wh), (6, .inl (o : Int)), (7, .inl (i10 : Int)), (8, .inl (a9 : Int)), (9, .inl (b9 : Int)), (10, .inl 0)]) (st' := [.inl 0]) rfl ?_
                      refine h_zne (off := 8) (t := 207) rfl rfl (by decide) (fun c => absurd c (by decide)) (fun _ => ?_)
                      refine h_run 2 (pc' := 226) (l' := [(0, .inr (.inr 1826)), (1, .inl (l : Int)), (2, .inl bk), (3, .inl (s : Int)), (4, .inl (q : Int)), (5, .inl wh), (6, .inl (o : Int)), (7, .inl (i10 : Int)), (8, .inl (a9 : Int)), (9, .inl (b9 : Int)), (10, .inl 0)]) (st' := [.inl (-104)]) rfl ?_
                      refine h_reti (x := (-104)) rfl rfl ?_
                      exact ⟨(fr_o hf61 (by decide)), (show (-1 : Int) = -1 by omega), (OS_fr hOSH57 (show fr [97] [] H57 (zu H57 1826 (up (H57.1 1826) 97 (-1))) from (fr_o (fr_rf _ _ _) (by decide))) (by decide) (by decide) (by decide)), _, rfl, by omega, by omega⟩
                    · refine h_rng (fun hrg62 => ?_)
                      have hf63 : fr [50, 51, 53, 76, 93, 97] [1847, 1852, 1853, 1855, 1856, 1873, 1874, 1878, 1884, 1886] H H57 := fr_t hf53 hfH57 (by decide) (by decide)
                      have hOSH57 : OS H H57 n := OS_fr hOSH48 hfH57 (by decide) (by decide) (by decide)
                      have hooH57 : (H57.1 1871) 0 = (o : Int) := (congrFun (hfH57.2.1 1871 (by decide) (by decide)) 0).trans hooH48
                      have tdH57 : tm (ma (H.1 1833) (H.1 1830)) (m_sg (H.1 1826 3) (H.1 1826 8) 60) (H57.1 1856) MH57 0 1 := by have h9 := tH57; rw [hQk.1, hQk.2.1, hQk.2.2.1, hQk.2.2.2] at h9; exact h9
                      refine h_run 0 (pc' := 182) (l' := [(0, .inr (.inr 1826)), (1, .inl (l : Int)), (2, .inl bk), (3, .inl (s : Int)), (4, .inl (q : Int)), (5, .inl wh), (6, .inl (o : Int)), (7, .inl (i10 : Int)), (8, .inl (a9 : Int)), (9, .inl (b9 : Int))]) (st' := [.inl 1]) rfl ?_
                      refine h_zeq (off := 7) (t := 189) rfl rfl (by decide) (fun c => absurd c (by decide)) (fun _ => ?_)
                      refine h_run 5 (pc' := 194) (l' := [(0, .inr (.inr 1826)), (1, .inl (l : Int)), (2, .inl bk), (3, .inl (s : Int)), (4, .inl (q : Int)), (5, .inl wh), (6, .inl (o : Int)), (7, .inl (i10 : Int)), (8, .inl (a9 : Int)), (9, .inl (b9 : Int)), (10, .inl 1)]) (st' := [.inl (-1), .inr (.inr 1826)]) rfl ?_
                      refine h_puti (i := 202) (ci := 13) (k := 97) (a := 1826) (x := (-1)) rfl rfl rfl rfl rfl rfl (by decide) (by decide) ?_
                      refine h_run 1 (pc' := 199) (l' := [(0, .inr (.inr 1826)), (1, .inl (l : Int)), (2, .inl bk), (3, .inl (s : Int)), (4, .inl (q : Int)), (5, .inl wh), (6, .inl (o : Int)), (7, .inl (i10 : Int)), (8, .inl (a9 : Int)), (9, .inl (b9 : Int)), (10, .inl 1)]) (st' := [.inl 1]) rfl ?_
                      refine h_zne (off := 8) (t := 207) rfl rfl (by decide) (fun _ => ?_) (fun c => absurd c (by decide))
                      refine h_run 3 (pc' := 211) (l' := [(0, .inr (.inr 1826)), (1, .inl (l : Int)), (2, .inl bk), (3, .inl (s : Int)), (4, .inl (q : Int)), (5, .inl wh), (6, .inl (o : Int)), (7, .inl (i10 : Int)), (8, .inl (a9 : Int)), (9, .inl (b9 : Int)), (10, .inl 1)]) (st' := [.inl (s : Int), .inl (o : Int), .inr (.inr 1826)]) rfl ?_
                      refine h_cv (i := 575) (j := 229) (b := 1826) (M' := mt_229) (xs := [.inl (s : Int), .inl (o : Int)]) (rest := []) rfl rfl rfl rfl rfl rfl (Nat.le_of_ble_eq_true rfl) (Nat.le_of_ble_eq_true rfl) (by omega) (m_isKept (M := MH57) (by omega) (by omega) ⟨zH57, mH57⟩) ?_
                      rintro _ H64 (⟨rfl, hxH64, rfl⟩ | ⟨rfl, hlH64, hfH64, hzH64, hcH64, hoH64⟩)
                      · refine h_run 0 (pc' := 214) (l' := [(0, .inr (.inr 1826)), (1, .inl (l : Int)), (2, .inl bk), (3, .inl (s : Int)), (4, .inl (q : Int)), (5, .inl wh), (6, .inl (o : Int)), (7, .inl (i10 : Int)), (8, .inl (a9 : Int)), (9, .inl (b9 : Int)), (10, .inl 1)]) (st' := [.inl 0]) rfl ?_
                        refine h_zeq (off := 10) (t := 224) rfl rfl (by decide) (fun _ => ?_) (fun c => absurd c (by decide))
                        refine h_run 1 (pc' := 226) (l' := [(0, .inr (.inr 1826)), (1, .inl (l : Int)), (2, .inl bk), (3, .inl (s : Int)), (4, .inl (q : Int)), (5, .inl wh), (6, .inl (o : Int)), (7, .inl (i10 : Int)), (8, .inl (a9 : Int)), (9, .inl (b9 : Int)), (10, .inl 1)]) (st' := [.inl (-105)]) rfl ?_
                        refine h_reti (x := (-105)) rfl rfl ?_
                        exact ⟨(fr_o hf63 (by decide)), (show (-1 : Int) = -1 by omega), (OS_fr hOSH57 (show fr [97] [] H57 (zu H57 1826 (up (H57.1 1826) 97 (-1))) from (fr_o (fr_rf _ _ _) (by decide))) (by decide) (by decide) (by decide)), _, rfl, by omega, by omega⟩
                      · refine h_rng (fun hrg65 => ?_)
                        have hf66 : fr [50, 51, 53, 76, 93, 97] [1847, 1852, 1853, 1855, 1856, 1873, 1874, 1878, 1884, 1886] H H64 := fr_t (fr_o hf63 (by decide)) hfH64 (by decide) (by decide)
                        have hOSH64 : OS H H64 n := OS_side (OS_fr hOSH57 (show fr [97] [] H57 (zu H57 1826 (up (H57.1 1826) 97 (-1))) from (fr_o (fr_rf _ _ _) (by decide))) (by decide) (by decide) (by decide)) hooH57 hfH64 hs hlH64 hzH64 hcH64 hoH64 tdH57
                        have hooH64 : (H64.1 1871) 0 = (o : Int) := (congrFun (hfH64.2.1 1871 (by decide) (by decide)) 0).trans hooH57
                        refine h_run 0 (pc' := 214) (l' := [(0, .inr (.inr 1826)), (1, .inl (l : Int)), (2, .inl bk), (3, .inl (s : Int)), (4, .inl (q : Int)), (5, .inl wh), (6, .inl (o : Int)), (7, .inl (i10 : Int)), (8, .inl (a9 : Int)), (9, .inl (b9 : Int)), (10, .inl 1)]) (st' := [.inl 1]) rfl ?_
                        refine h_zeq (off := 10) (t := 224) rfl rfl (by decide) (fun c => absurd c (by decide)) (fun _ => ?_)
                        refine h_run 1 (pc' := 218) (l' := [(0, .inr (.inr 1826)), (1, .inl (l : Int)), (2, .inl bk), (3, .inl (s : Int)), (4, .inl (q : Int)), (5, .inl wh), (6, .inl (o : Int)), (7, .inl (i10 : Int)), (8, .inl (a9 : Int)), (9, .inl (b9 : Int)), (10, .inl 1)]) (st' := [.inr (.inr 1826)]) rfl ?_
                        refine h_cv (i := 556) (j := 232) (b := 1826) (M' := mt_232) (xs := []) (rest := []) rfl rfl rfl rfl rfl rfl (Nat.le_of_ble_eq_true rfl) (Nat.le_of_ble_eq_true rfl) (by omega) (m_did (n := n) (by omega) hOSH64.1.1 (fun q9 => absurd q9 (by omega)) (by rw [show (H64.1 1871) 0 = (o : Int) from hooH64]; omega)) ?_
                        rintro _ H67 ⟨rfl, hfH67⟩
                        refine h_rng (fun hrg68 => ?_)
                        have hf69 : fr [50, 51, 53, 76, 93, 97] [1847, 1852, 1853, 1855, 1856, 1873, 1874, 1878, 1884, 1886] H H67 := fr_t hf66 hfH67 (by decide) (by decide)
                        have hOSH67 : OS H H67 n := OS_fr hOSH64 hfH67 (by decide) (by decide) (by decide)
                        have hooH67 : (H67.1 1871) 0 = (o : Int) := (congrFun (hfH67.2.1 1871 (by decide) (by decide)) 0).trans hooH64
                        refine h_run 0 (pc' := 221) (l' := [(0, .inr (.inr 1826)), (1, .inl (l : Int)), (2, .inl bk), (3, .inl (s : Int)), (4, .inl (q : Int)), (5, .inl wh), (6, .inl (o : Int)), (7, .inl (i10 : Int)), (8, .inl (a9 : Int)), (9, .inl (b9 : Int)), (10, .inl 1)]) (st' := [.inl (n : Int)]) rfl ?_
                        refine h_run 1 (pc' := 226) (l' := [(0, .inr (.inr 1826)), (1, .inl (l : Int)), (2, .inl bk), (3, .inl (s : Int)), (4, .inl (q : Int)), (5, .inl wh), (6, .inl (o : Int)), (7, .inl (i10 : Int)), (8, .inl (a9 : Int)), (9, .inl (b9 : Int)), (10, .inl 1)]) (st' := [.inl (n : Int)]) rfl ?_
                        refine h_reti (x := (n : Int)) rfl rfl ?_
                        have g70 : -2147483648 ≤ (H67.1 1826 97) ∧ (H67.1 1826 97) ≤ 2147483647 := hrg68.1 1826 13 97 _ .int rfl rfl
                        have e71 : (H67.1 1826 97) = (H64.1 1826 97) := hfH67.2.2 97 (by decide)
                        have e72 : (H64.1 1826 97) = (-1) := hfH64.2.2 97 (by decide)
                        exact ⟨hf69, (show (H67.1 1826 97) = -1 by omega), hOSH67, _, rfl, by omega, by omega⟩
              · exfalso
                omega
            · refine h_run 3 (pc' := 85) (l' := [(0, .inr (.inr 1826)), (1, .inl (l : Int)), (2, .inl bk), (3, .inl (s : Int)), (4, .inl (q : Int)), (5, .inl wh), (6, .inl (o : Int)), (7, .inl (i10 : Int))]) (st' := [.inl ((2 * (l : Int)) + 1)]) rfl ?_
              obtain ⟨a9, ha9⟩ : ∃ x9 : Nat, x9 = 2 * l + 1 := ⟨_, rfl⟩
              rw [show ((2 * (l : Int)) + 1) = ((a9 : Nat) : Int) from (by omega)]
              refine h_run 5 (pc' := 91) (l' := [(0, .inr (.inr 1826)), (1, .inl (l : Int)), (2, .inl bk), (3, .inl (s : Int)), (4, .inl (q : Int)), (5, .inl wh), (6, .inl (o : Int)), (7, .inl (i10 : Int)), (8, .inl (a9 : Int))]) (st' := [.inl bk, .inl (2 * (l : Int))]) rfl ?_
              refine h_zeq (off := 7) (t := 98) rfl rfl (by omega) (fun c73 => ?_) (fun c73 => ?_)
              · exfalso
                omega
              · refine h_run 3 (pc' := 100) (l' := [(0, .inr (.inr 1826)), (1, .inl (l : Int)), (2, .inl bk), (3, .inl (s : Int)), (4, .inl (q : Int)), (5, .inl wh), (6, .inl (o : Int)), (7, .inl (i10 : Int)), (8, .inl (a9 : Int))]) (st' := [.inl ((2 * (l : Int)) + 0)]) rfl ?_
                obtain ⟨b9, hb9⟩ : ∃ x9 : Nat, x9 = 2 * l + 0 := ⟨_, rfl⟩
                rw [show ((2 * (l : Int)) + 0) = ((b9 : Nat) : Int) from (by omega)]
                refine h_run 3 (pc' := 104) (l' := [(0, .inr (.inr 1826)), (1, .inl (l : Int)), (2, .inl bk), (3, .inl (s : Int)), (4, .inl (q : Int)), (5, .inl wh), (6, .inl (o : Int)), (7, .inl (i10 : Int)), (8, .inl (a9 : Int)), (9, .inl (b9 : Int))]) (st' := [.inl (l : Int), .inr (.inr 1826)]) rfl ?_
                refine h_puti (i := 202) (ci := 13) (k := 97) (a := 1826) (x := (l : Int)) rfl rfl rfl rfl rfl rfl (by decide) (by omega) ?_
                refine h_run 9 (pc' := 123) (l' := [(0, .inr (.inr 1826)), (1, .inl (l : Int)), (2, .inl bk), (3, .inl (s : Int)), (4, .inl (q : Int)), (5, .inl wh), (6, .inl (o : Int)), (7, .inl (i10 : Int)), (8, .inl (a9 : Int)), (9, .inl (b9 : Int))]) (st' := [.inl (a9 : Int), .inr (.inr 1843), .inl (48 * (a9 : Int)), .inr (.inr 1842), .inr (.inr 1826)]) rfl ?_
                refine h_ild (c := 1843) (j := a9) (i := (a9 : Int)) rfl rfl (by decide) rfl (by omega) ?_
                have g74 : -2147483648 ≤ (H6.1 1843 a9) ∧ (H6.1 1843 a9) ≤ 2147483647 := hrg7.2 1843 a9 32 .int rfl (by omega)
                have e75 : (H6.1 1843 a9) = (H.1 1843 a9) := congrFun (hfH6.2.1 1843 (by decide) (by decide)) a9
                refine h_run 0 (pc' := 124) (l' := [(0, .inr (.inr 1826)), (1, .inl (l : Int)), (2, .inl bk), (3, .inl (s : Int)), (4, .inl (q : Int)), (5, .inl wh), (6, .inl (o : Int)), (7, .inl (i10 : Int)), (8, .inl (a9 : Int)), (9, .inl (b9 : Int))]) (st' := [.inl (H6.1 1843 a9), .inl (48 * (a9 : Int)), .inr (.inr 1842), .inr (.inr 1826)]) rfl ?_
                have hsza9 : (H6.1 1843) a9 = (k1 : Int) := by rw [show (H6.1 1843) = (H.1 1843) from hfH6.2.1 1843 (by decide) (by decide), ha9]; exact k11
                rw [show (H6.1 1843 a9) = (k1 : Int) by omega]
                refine h_run 5 (pc' := 135) (l' := [(0, .inr (.inr 1826)), (1, .inl (l : Int)), (2, .inl bk), (3, .inl (s : Int)), (4, .inl (q : Int)), (5, .inl wh), (6, .inl (o : Int)), (7, .inl (i10 : Int)), (8, .inl (a9 : Int)), (9, .inl (b9 : Int))]) (st' := [.inl (o : Int), .inr (.inr 1875), .inl (i10 : Int), .inl 1000, .inl (k1 : Int), .inl (48 * (a9 : Int)), .inr (.inr 1842), .inr (.inr 1826)]) rfl ?_
                refine h_ild (c := 1875) (j := o) (i := (o : Int)) rfl rfl (by decide) rfl (by omega) ?_
                have g76 : -2147483648 ≤ (H6.1 1875 o) ∧ (H6.1 1875 o) ≤ 2147483647 := hrg7.2 1875 o 40 .int rfl (by omega)
                have e77 : (H6.1 1875 o) = (H.1 1875 o) := congrFun (hfH6.2.1 1875 (by decide) (by decide)) o
                refine h_run 0 (pc' := 136) (l' := [(0, .inr (.inr 1826)), (1, .inl (l : Int)), (2, .inl bk), (3, .inl (s : Int)), (4, .inl (q : Int)), (5, .inl wh), (6, .inl (o : Int)), (7, .inl (i10 : Int)), (8, .inl (a9 : Int)), (9, .inl (b9 : Int))]) (st' := [.inl (H6.1 1875 o), .inl (i10 : Int), .inl 1000, .inl (k1 : Int), .inl (48 * (a9 : Int)), .inr (.inr 1842), .inr (.inr 1826)]) rfl ?_
                refine h_run 3 (pc' := 141) (l' := [(0, .inr (.inr 1826)), (1, .inl (l : Int)), (2, .inl bk), (3, .inl (s : Int)), (4, .inl (q : Int)), (5, .inl wh), (6, .inl (o : Int)), (7, .inl (i10 : Int)), (8, .inl (a9 : Int)), (9, .inl (b9 : Int))]) (st' := [.inl (l : Int), .inr (.inr 1847), .inl (H6.1 1875 o), .inl (i10 : Int), .inl 1000, .inl (k1 : Int), .inl (48 * (a9 : Int)), .inr (.inr 1842), .inr (.inr 1826)]) rfl ?_
                refine h_ild (c := 1847) (j := l) (i := (l : Int)) rfl rfl (by decide) rfl (by omega) ?_
                have g78 : -2147483648 ≤ (H6.1 1847 l) ∧ (H6.1 1847 l) ≤ 2147483647 := hrg7.2 1847 l 16 .int rfl (by omega)
                have e79 : (H6.1 1847 l) = (H.1 1847 l) := congrFun (hfH6.2.1 1847 (by decide) (by decide)) l
                refine h_run 0 (pc' := 142) (l' := [(0, .inr (.inr 1826)), (1, .inl (l : Int)), (2, .inl bk), (3, .inl (s : Int)), (4, .inl (q : Int)), (5, .inl wh), (6, .inl (o : Int)), (7, .inl (i10 : Int)), (8, .inl (a9 : Int)), (9, .inl (b9 : Int))]) (st' := [.inl (H6.1 1847 l), .inl (H6.1 1875 o), .inl (i10 : Int), .inl 1000, .inl (k1 : Int), .inl (48 * (a9 : Int)), .inr (.inr 1842), .inr (.inr 1826)]) rfl ?_
                refine h_run 1 (pc' := 143) (l' := [(0, .inr (.inr 1826)), (1, .inl (l : Int)), (2, .inl bk), (3, .inl (s : Int)), (4, .inl (q : Int)), (5, .inl wh), (6, .inl (o : Int)), (7, .inl (i10 : Int)), (8, .inl (a9 : Int)), (9, .inl (b9 : Int))]) (st' := [.inl 1, .inl (H6.1 1847 l), .inl (H6.1 1875 o), .inl (i10 : Int), .inl 1000, .inl (k1 : Int), .inl (48 * (a9 : Int)), .inr (.inr 1842), .inr (.inr 1826)]) rfl ?_
                refine h_ine (off := 7) (t := 150) rfl rfl (by omega) (by decide) (fun c80 => ?_) (fun c80 => ?_)
                · refine h_run 1 (pc' := 151) (l' := [(0, .inr (.inr 1826)), (1, .inl (l : Int)), (2, .inl bk), (3, .inl (s : Int)), (4, .inl (q : Int)), (5, .inl wh), (6, .inl (o : Int)), (7, .inl (i10 : Int)), (8, .inl (a9 : Int)), (9, .inl (b9 : Int))]) (st' := [.inl 0, .inl (H6.1 1875 o), .inl (i10 : Int), .inl 1000, .inl (k1 : Int), .inl (48 * (a9 : Int)), .inr (.inr 1842), .inr (.inr 1826)]) rfl ?_
                  have g82 : -2147483648 ≤ (H6.1 1826 93) ∧ (H6.1 1826 93) ≤ 2147483647 := hrg7.1 1826 13 93 _ .int rfl rfl
                  have hQl : sP H (zu H6 1826 (up (H6.1 1826) 97 (l : Int))) := sP_fr (sP_rf H) (fr_o hf8 (by decide)) (by decide) (by decide)
                  have hPl : PWc (zu H6 1826 (up (H6.1 1826) 97 (l : Int))) := PWc_fr hP (fr_o hf8 (by decide)) (by decide) (by decide)
                  refine h_cv (i := 593) (j := 239) (b := 1826) (M' := mt_239) (xs := [.inl 0, .inl (H6.1 1875 o), .inl (i10 : Int), .inl 1000, .inl (k1 : Int), .inl (48 * (a9 : Int)), .inr (.inr 1842)]) (rest := []) rfl rfl rfl rfl rfl rfl (Nat.le_of_ble_eq_true rfl) (Nat.le_of_ble_eq_true rfl) (by omega) (m_isLike (p := (48 * a9)) (ln := k1) (N := N) (k := ki) (V := 6) (okp := (m_sg (H.1 1826 3) (H.1 1826 8) (vn : Nat))) (by omega) rfl (by decide) (by decide) hPl (by rw [hQl.1, hQl.2.1, hQl.2.2.1, hQl.2.2.2]; exact hTn) ⟨by omega, (show (H6.1 1826 93) = (N : Int) by omega)⟩ (by rw [hQl.1, hQl.2.1, hQl.2.2.1, hQl.2.2.2]; exact hTi) (by omega) (by rw [hQl.1, hQl.2.1]; exact (by show tm _ _ (H6.1 1842) _ _ 1; rw [show (H6.1 1842) = (H.1 1842) from hfH6.2.1 1842 (by decide) (by decide), ha9]; exact k13)) (show 48 * a9 + k1 ≤ 1536 ∧ k1 ≤ 60 by omega) (by omega) (Or.inr (show 0 ≤ (l : Int) ∧ (l : Int) ≤ 15 ∧ 6 ≤ 6 by omega)) (fun s9 h9 => by unfold m_sg at h9; omega) (by omega)) ?_
                  rintro _ H81 ⟨(rfl | ⟨rfl, xH81⟩), hfH81⟩
                  · refine h_rng (fun hrg83 => ?_)
                    have hf84 : fr [50, 51, 53, 76, 93, 97] [1847, 1852, 1853, 1855, 1856, 1873, 1874, 1878, 1884, 1886] H H81 := fr_t (fr_o hf8 (by decide)) hfH81 (by decide) (by decide)
                    have hOSH81 : OS H H81 n := OS_fr (OS_fr hOSH6 (show fr [97] [] H6 (zu H6 1826 (up (H6.1 1826) 97 (l : Int))) from (fr_o (fr_rf _ _ _) (by decide))) (by decide) (by decide) (by decide)) hfH81 (by decide) (by decide) (by decide)
                    have hooH81 : (H81.1 1871) 0 = (o : Int) := (congrFun (hfH81.2.1 1871 (by decide) (by decide)) 0).trans hooH6
                    refine h_run 0 (pc' := 154) (l' := [(0, .inr (.inr 1826)), (1, .inl (l : Int)), (2, .inl bk), (3, .inl (s : Int)), (4, .inl (q : Int)), (5, .inl wh), (6, .inl (o : Int)), (7, .inl (i10 : Int)), (8, .inl (a9 : Int)), (9, .inl (b9 : Int))]) (st' := [.inl 0]) rfl ?_
                    refine h_zeq (off := 35) (t := 189) rfl rfl (by decide) (fun _ => ?_) (fun c => absurd c (by decide))
                    refine h_run 4 (pc' := 194) (l' := [(0, .inr (.inr 1826)), (1, .inl (l : Int)), (2, .inl bk), (3, .inl (s : Int)), (4, .inl (q : Int)), (5, .inl wh), (6, .inl (o : Int)), (7, .inl (i10 : Int)), (8, .inl (a9 : Int)), (9, .inl (b9 : Int)), (10, .inl 0)]) (st' := [.inl (-1), .inr (.inr 1826)]) rfl ?_
                    refine h_puti (i := 202) (ci := 13) (k := 97) (a := 1826) (x := (-1)) rfl rfl rfl rfl rfl rfl (by decide) (by decide) ?_
                    refine h_run 1 (pc' := 199) (l' := [(0, .inr (.inr 1826)), (1, .inl (l : Int)), (2, .inl bk), (3, .inl (s : Int)), (4, .inl (q : Int)), (5, .inl wh), (6, .inl (o : Int)), (7, .inl (i10 : Int)), (8, .inl (a9 : Int)), (9, .inl (b9 : Int)), (10, .inl 0)]) (st' := [.inl 0]) rfl ?_
                    refine h_zne (off := 8) (t := 207) rfl rfl (by decide) (fun c => absurd c (by decide)) (fun _ => ?_)
                    refine h_run 2 (pc' := 226) (l' := [(0, .inr (.inr 1826)), (1, .inl (l : Int)), (2, .inl bk), (3, .inl (s : Int)), (4, .inl (q : Int)), (5, .inl wh), (6, .inl (o : Int)), (7, .inl (i10 : Int)), (8, .inl (a9 : Int)), (9, .inl (b9 : Int)), (10, .inl 0)]) (st' := [.inl (-104)]) rfl ?_
                    refine h_reti (x := (-104)) rfl rfl ?_
                    exact ⟨(fr_o hf84 (by decide)), (show (-1 : Int) = -1 by omega), (OS_fr hOSH81 (show fr [97] [] H81 (zu H81 1826 (up (H81.1 1826) 97 (-1))) from (fr_o (fr_rf _ _ _) (by decide))) (by decide) (by decide) (by decide)), _, rfl, by omega, by omega⟩
                  · refine h_rng (fun hrg85 => ?_)
                    have hf86 : fr [50, 51, 53, 76, 93, 97] [1847, 1852, 1853, 1855, 1856, 1873, 1874, 1878, 1884, 1886] H H81 := fr_t (fr_o hf8 (by decide)) hfH81 (by decide) (by decide)
                    have hOSH81 : OS H H81 n := OS_fr (OS_fr hOSH6 (show fr [97] [] H6 (zu H6 1826 (up (H6.1 1826) 97 (l : Int))) from (fr_o (fr_rf _ _ _) (by decide))) (by decide) (by decide) (by decide)) hfH81 (by decide) (by decide) (by decide)
                    have hooH81 : (H81.1 1871) 0 = (o : Int) := (congrFun (hfH81.2.1 1871 (by decide) (by decide)) 0).trans hooH6
                    have eNH81 : (H81.1 1884) = (H6.1 1884) := hfH81.2.1 1884 (by decide) (by decide)
                    have yH81 : fre (ma (H.1 1833) (H.1 1830)) (m_sg (H.1 1826 3) (H.1 1826 8) 60) (H81.1 1884) (H81.1 1886) N := by have h9 := xH81; rw [hQl.1, hQl.2.1, hQl.2.2.1, hQl.2.2.2] at h9; rw [eNH81]; exact h9
                    have hTnH81 : tm (ma (H.1 1833) (H.1 1830)) (m_sg (H.1 1826 3) (H.1 1826 8) 60) (H81.1 1884) N 0 1 := by rw [eNH81]; exact hTn
                    have hTiH81 : tm (ma (H.1 1833) (H.1 1830)) (m_sg (H.1 1826 3) (H.1 1826 8) 60) (H81.1 1884) ki i10 1 := by rw [eNH81]; exact hTi
                    refine h_run 0 (pc' := 154) (l' := [(0, .inr (.inr 1826)), (1, .inl (l : Int)), (2, .inl bk), (3, .inl (s : Int)), (4, .inl (q : Int)), (5, .inl wh), (6, .inl (o : Int)), (7, .inl (i10 : Int)), (8, .inl (a9 : Int)), (9, .inl (b9 : Int))]) (st' := [.inl 1]) rfl ?_
                    refine h_zeq (off := 35) (t := 189) rfl rfl (by decide) (fun c => absurd c (by decide)) (fun _ => ?_)
                    refine h_run 9 (pc' := 173) (l' := [(0, .inr (.inr 1826)), (1, .inl (l : Int)), (2, .inl bk), (3, .inl (s : Int)), (4, .inl (q : Int)), (5, .inl wh), (6, .inl (o : Int)), (7, .inl (i10 : Int)), (8, .inl (a9 : Int)), (9, .inl (b9 : Int))]) (st' := [.inl (b9 : Int), .inr (.inr 1843), .inl (48 * (b9 : Int)), .inr (.inr 1842), .inr (.inr 1826)]) rfl ?_
                    refine h_ild (c := 1843) (j := b9) (i := (b9 : Int)) rfl rfl (by decide) rfl (by omega) ?_
                    have g87 : -2147483648 ≤ (H81.1 1843 b9) ∧ (H81.1 1843 b9) ≤ 2147483647 := hrg85.2 1843 b9 32 .int rfl (by omega)
                    have e88 : (H81.1 1843 b9) = (H6.1 1843 b9) := congrFun (hfH81.2.1 1843 (by decide) (by decide)) b9
                    have e89 : (H6.1 1843 b9) = (H.1 1843 b9) := congrFun (hfH6.2.1 1843 (by decide) (by decide)) b9
                    refine h_run 0 (pc' := 174) (l' := [(0, .inr (.inr 1826)), (1, .inl (l : Int)), (2, .inl bk), (3, .inl (s : Int)), (4, .inl (q : Int)), (5, .inl wh), (6, .inl (o : Int)), (7, .inl (i10 : Int)), (8, .inl (a9 : Int)), (9, .inl (b9 : Int))]) (st' := [.inl (H81.1 1843 b9), .inl (48 * (b9 : Int)), .inr (.inr 1842), .inr (.inr 1826)]) rfl ?_
                    have hszb9 : (H81.1 1843) b9 = (k0 : Int) := by rw [show (H81.1 1843) = (H6.1 1843) from hfH81.2.1 1843 (by decide) (by decide), show (H6.1 1843) = (H.1 1843) from hfH6.2.1 1843 (by decide) (by decide), hb9]; exact k01
                    rw [show (H81.1 1843 b9) = (k0 : Int) by omega]
                    refine h_run 2 (pc' := 179) (l' := [(0, .inr (.inr 1826)), (1, .inl (l : Int)), (2, .inl bk), (3, .inl (s : Int)), (4, .inl (q : Int)), (5, .inl wh), (6, .inl (o : Int)), (7, .inl (i10 : Int)), (8, .inl (a9 : Int)), (9, .inl (b9 : Int))]) (st' := [.inl (i10 : Int), .inl 1000, .inl (k0 : Int), .inl (48 * (b9 : Int)), .inr (.inr 1842), .inr (.inr 1826)]) rfl ?_
                    have g91 : -2147483648 ≤ (H81.1 1826 93) ∧ (H81.1 1826 93) ≤ 2147483647 := hrg85.1 1826 13 93 _ .int rfl rfl
                    have e92 : (H81.1 1826 93) = (H6.1 1826 93) := hfH81.2.2 93 (by decide)
                    have hQk : sP H H81 := sP_fr (sP_rf H) hf86 (by decide) (by decide)
                    have hPk : PWc H81 := PWc_fr hP hf86 (by decide) (by decide)
                    refine h_cv (i := 597) (j := 242) (b := 1826) (M' := mt_242) (xs := [.inl (i10 : Int), .inl 1000, .inl (k0 : Int), .inl (48 * (b9 : Int)), .inr (.inr 1842)]) (rest := []) rfl rfl rfl rfl rfl rfl (Nat.le_of_ble_eq_true rfl) (Nat.le_of_ble_eq_true rfl) (by omega) (m_isMade (p := (48 * b9)) (ln := k0) (N := N) (k := ki) (okp := (m_sg (H.1 1826 3) (H.1 1826 8) (vn : Nat))) (by omega) rfl (by decide) (by decide) hPk (by rw [hQk.1, hQk.2.1, hQk.2.2.1, hQk.2.2.2]; exact hTnH81) ⟨by omega, (show (H81.1 1826 93) = (N : Int) by omega)⟩ (by rw [hQk.1, hQk.2.1, hQk.2.2.1, hQk.2.2.2]; exact hTiH81) (by omega) (by rw [hQk.1, hQk.2.1]; exact (by show tm _ _ (H81.1 1842) _ _ 1; rw [show (H81.1 1842) = (H6.1 1842) from hfH81.2.1 1842 (by decide) (by decide), show (H6.1 1842) = (H.1 1842) from hfH6.2.1 1842 (by decide) (by decide), hb9]; exact k03)) (show 48 * b9 + k0 ≤ 1536 ∧ k0 ≤ 60 by omega) (by omega) (by rw [hQk.2.2.1, hQk.2.2.2]; exact (fun s9 h9 => by unfold m_sg at *; omega)) (by rw [hQk.1, hQk.2.1, hQk.2.2.1, hQk.2.2.2]; exact yH81)) ?_
                    rintro _ H90 ⟨(rfl | ⟨rfl, MH90, zH90, mH90, tH90⟩), hfH90⟩
                    · refine h_rng (fun hrg93 => ?_)
                      have hf94 : fr [50, 51, 53, 76, 93, 97] [1847, 1852, 1853, 1855, 1856, 1873, 1874, 1878, 1884, 1886] H H90 := fr_t hf86 hfH90 (by decide) (by decide)
                      have hOSH90 : OS H H90 n := OS_fr hOSH81 hfH90 (by decide) (by decide) (by decide)
                      have hooH90 : (H90.1 1871) 0 = (o : Int) := (congrFun (hfH90.2.1 1871 (by decide) (by decide)) 0).trans hooH81
                      refine h_run 0 (pc' := 182) (l' := [(0, .inr (.inr 1826)), (1, .inl (l : Int)), (2, .inl bk), (3, .inl (s : Int)), (4, .inl (q : Int)), (5, .inl wh), (6, .inl (o : Int)), (7, .inl (i10 : Int)), (8, .inl (a9 : Int)), (9, .inl (b9 : Int))]) (st' := [.inl 0]) rfl ?_
                      refine h_zeq (off := 7) (t := 189) rfl rfl (by decide) (fun _ => ?_) (fun c => absurd c (by decide))
                      refine h_run 4 (pc' := 194) (l' := [(0, .inr (.inr 1826)), (1, .inl (l : Int)), (2, .inl bk), (3, .inl (s : Int)), (4, .inl (q : Int)), (5, .inl wh), (6, .inl (o : Int)), (7, .inl (i10 : Int)), (8, .inl (a9 : Int)), (9, .inl (b9 : Int)), (10, .inl 0)]) (st' := [.inl (-1), .inr (.inr 1826)]) rfl ?_
                      refine h_puti (i := 202) (ci := 13) (k := 97) (a := 1826) (x := (-1)) rfl rfl rfl rfl rfl rfl (by decide) (by decide) ?_
                      refine h_run 1 (pc' := 199) (l' := [(0, .inr (.inr 1826)), (1, .inl (l : Int)), (2, .inl bk), (3, .inl (s : Int)), (4, .inl (q : Int)), (5, .inl wh), (6, .inl (o : Int)), (7, .inl (i10 : Int)), (8, .inl (a9 : Int)), (9, .inl (b9 : Int)), (10, .inl 0)]) (st' := [.inl 0]) rfl ?_
                      refine h_zne (off := 8) (t := 207) rfl rfl (by decide) (fun c => absurd c (by decide)) (fun _ => ?_)
                      refine h_run 2 (pc' := 226) (l' := [(0, .inr (.inr 1826)), (1, .inl (l : Int)), (2, .inl bk), (3, .inl (s : Int)), (4, .inl (q : Int)), (5, .inl wh), (6, .inl (o : Int)), (7, .inl (i10 : Int)), (8, .inl (a9 : Int)), (9, .inl (b9 : Int)), (10, .inl 0)]) (st' := [.inl (-104)]) rfl ?_
                      refine h_reti (x := (-104)) rfl rfl ?_
                      exact ⟨(fr_o hf94 (by decide)), (show (-1 : Int) = -1 by omega), (OS_fr hOSH90 (show fr [97] [] H90 (zu H90 1826 (up (H90.1 1826) 97 (-1))) from (fr_o (fr_rf _ _ _) (by decide))) (by decide) (by decide) (by decide)), _, rfl, by omega, by omega⟩
                    · refine h_rng (fun hrg95 => ?_)
                      have hf96 : fr [50, 51, 53, 76, 93, 97] [1847, 1852, 1853, 1855, 1856, 1873, 1874, 1878, 1884, 1886] H H90 := fr_t hf86 hfH90 (by decide) (by decide)
                      have hOSH90 : OS H H90 n := OS_fr hOSH81 hfH90 (by decide) (by decide) (by decide)
                      have hooH90 : (H90.1 1871) 0 = (o : Int) := (congrFun (hfH90.2.1 1871 (by decide) (by decide)) 0).trans hooH81
                      have tdH90 : tm (ma (H.1 1833) (H.1 1830)) (m_sg (H.1 1826 3) (H.1 1826 8) 60) (H90.1 1856) MH90 0 1 := by have h9 := tH90; rw [hQk.1, hQk.2.1, hQk.2.2.1, hQk.2.2.2] at h9; exact h9
                      refine h_run 0 (pc' := 182) (l' := [(0, .inr (.inr 1826)), (1, .inl (l : Int)), (2, .inl bk), (3, .inl (s : Int)), (4, .inl (q : Int)), (5, .inl wh), (6, .inl (o : Int)), (7, .inl (i10 : Int)), (8, .inl (a9 : Int)), (9, .inl (b9 : Int))]) (st' := [.inl 1]) rfl ?_
                      refine h_zeq (off := 7) (t := 189) rfl rfl (by decide) (fun c => absurd c (by decide)) (fun _ => ?_)
                      refine h_run 5 (pc' := 194) (l' := [(0, .inr (.inr 1826)), (1, .inl (l : Int)), (2, .inl bk), (3, .inl (s : Int)), (4, .inl (q : Int)), (5, .inl wh), (6, .inl (o : Int)), (7, .inl (i10 : Int)), (8, .inl (a9 : Int)), (9, .inl (b9 : Int)), (10, .inl 1)]) (st' := [.inl (-1), .inr (.inr 1826)]) rfl ?_
                      refine h_puti (i := 202) (ci := 13) (k := 97) (a := 1826) (x := (-1)) rfl rfl rfl rfl rfl rfl (by decide) (by decide) ?_
                      refine h_run 1 (pc' := 199) (l' := [(0, .inr (.inr 1826)), (1, .inl (l : Int)), (2, .inl bk), (3, .inl (s : Int)), (4, .inl (q : Int)), (5, .inl wh), (6, .inl (o : Int)), (7, .inl (i10 : Int)), (8, .inl (a9 : Int)), (9, .inl (b9 : Int)), (10, .inl 1)]) (st' := [.inl 1]) rfl ?_
                      refine h_zne (off := 8) (t := 207) rfl rfl (by decide) (fun _ => ?_) (fun c => absurd c (by decide))
                      refine h_run 3 (pc' := 211) (l' := [(0, .inr (.inr 1826)), (1, .inl (l : Int)), (2, .inl bk), (3, .inl (s : Int)), (4, .inl (q : Int)), (5, .inl wh), (6, .inl (o : Int)), (7, .inl (i10 : Int)), (8, .inl (a9 : Int)), (9, .inl (b9 : Int)), (10, .inl 1)]) (st' := [.inl (s : Int), .inl (o : Int), .inr (.inr 1826)]) rfl ?_
                      refine h_cv (i := 575) (j := 229) (b := 1826) (M' := mt_229) (xs := [.inl (s : Int), .inl (o : Int)]) (rest := []) rfl rfl rfl rfl rfl rfl (Nat.le_of_ble_eq_true rfl) (Nat.le_of_ble_eq_true rfl) (by omega) (m_isKept (M := MH90) (by omega) (by omega) ⟨zH90, mH90⟩) ?_
                      rintro _ H97 (⟨rfl, hxH97, rfl⟩ | ⟨rfl, hlH97, hfH97, hzH97, hcH97, hoH97⟩)
                      · refine h_run 0 (pc' := 214) (l' := [(0, .inr (.inr 1826)), (1, .inl (l : Int)), (2, .inl bk), (3, .inl (s : Int)), (4, .inl (q : Int)), (5, .inl wh), (6, .inl (o : Int)), (7, .inl (i10 : Int)), (8, .inl (a9 : Int)), (9, .inl (b9 : Int)), (10, .inl 1)]) (st' := [.inl 0]) rfl ?_
                        refine h_zeq (off := 10) (t := 224) rfl rfl (by decide) (fun _ => ?_) (fun c => absurd c (by decide))
                        refine h_run 1 (pc' := 226) (l' := [(0, .inr (.inr 1826)), (1, .inl (l : Int)), (2, .inl bk), (3, .inl (s : Int)), (4, .inl (q : Int)), (5, .inl wh), (6, .inl (o : Int)), (7, .inl (i10 : Int)), (8, .inl (a9 : Int)), (9, .inl (b9 : Int)), (10, .inl 1)]) (st' := [.inl (-105)]) rfl ?_
                        refine h_reti (x := (-105)) rfl rfl ?_
                        exact ⟨(fr_o hf96 (by decide)), (show (-1 : Int) = -1 by omega), (OS_fr hOSH90 (show fr [97] [] H90 (zu H90 1826 (up (H90.1 1826) 97 (-1))) from (fr_o (fr_rf _ _ _) (by decide))) (by decide) (by decide) (by decide)), _, rfl, by omega, by omega⟩
                      · refine h_rng (fun hrg98 => ?_)
                        have hf99 : fr [50, 51, 53, 76, 93, 97] [1847, 1852, 1853, 1855, 1856, 1873, 1874, 1878, 1884, 1886] H H97 := fr_t (fr_o hf96 (by decide)) hfH97 (by decide) (by decide)
                        have hOSH97 : OS H H97 n := OS_side (OS_fr hOSH90 (show fr [97] [] H90 (zu H90 1826 (up (H90.1 1826) 97 (-1))) from (fr_o (fr_rf _ _ _) (by decide))) (by decide) (by decide) (by decide)) hooH90 hfH97 hs hlH97 hzH97 hcH97 hoH97 tdH90
                        have hooH97 : (H97.1 1871) 0 = (o : Int) := (congrFun (hfH97.2.1 1871 (by decide) (by decide)) 0).trans hooH90
                        refine h_run 0 (pc' := 214) (l' := [(0, .inr (.inr 1826)), (1, .inl (l : Int)), (2, .inl bk), (3, .inl (s : Int)), (4, .inl (q : Int)), (5, .inl wh), (6, .inl (o : Int)), (7, .inl (i10 : Int)), (8, .inl (a9 : Int)), (9, .inl (b9 : Int)), (10, .inl 1)]) (st' := [.inl 1]) rfl ?_
                        refine h_zeq (off := 10) (t := 224) rfl rfl (by decide) (fun c => absurd c (by decide)) (fun _ => ?_)
                        refine h_run 1 (pc' := 218) (l' := [(0, .inr (.inr 1826)), (1, .inl (l : Int)), (2, .inl bk), (3, .inl (s : Int)), (4, .inl (q : Int)), (5, .inl wh), (6, .inl (o : Int)), (7, .inl (i10 : Int)), (8, .inl (a9 : Int)), (9, .inl (b9 : Int)), (10, .inl 1)]) (st' := [.inr (.inr 1826)]) rfl ?_
                        refine h_cv (i := 556) (j := 232) (b := 1826) (M' := mt_232) (xs := []) (rest := []) rfl rfl rfl rfl rfl rfl (Nat.le_of_ble_eq_true rfl) (Nat.le_of_ble_eq_true rfl) (by omega) (m_did (n := n) (by omega) hOSH97.1.1 (fun q9 => absurd q9 (by omega)) (by rw [show (H97.1 1871) 0 = (o : Int) from hooH97]; omega)) ?_
                        rintro _ H100 ⟨rfl, hfH100⟩
                        refine h_rng (fun hrg101 => ?_)
                        have hf102 : fr [50, 51, 53, 76, 93, 97] [1847, 1852, 1853, 1855, 1856, 1873, 1874, 1878, 1884, 1886] H H100 := fr_t hf99 hfH100 (by decide) (by decide)
                        have hOSH100 : OS H H100 n := OS_fr hOSH97 hfH100 (by decide) (by decide) (by decide)
                        have hooH100 : (H100.1 1871) 0 = (o : Int) := (congrFun (hfH100.2.1 1871 (by decide) (by decide)) 0).trans hooH97
                        refine h_run 0 (pc' := 221) (l' := [(0, .inr (.inr 1826)), (1, .inl (l : Int)), (2, .inl bk), (3, .inl (s : Int)), (4, .inl (q : Int)), (5, .inl wh), (6, .inl (o : Int)), (7, .inl (i10 : Int)), (8, .inl (a9 : Int)), (9, .inl (b9 : Int)), (10, .inl 1)]) (st' := [.inl (n : Int)]) rfl ?_
                        refine h_run 1 (pc' := 226) (l' := [(0, .inr (.inr 1826)), (1, .inl (l : Int)), (2, .inl bk), (3, .inl (s : Int)), (4, .inl (q : Int)), (5, .inl wh), (6, .inl (o : Int)), (7, .inl (i10 : Int)), (8, .inl (a9 : Int)), (9, .inl (b9 : Int)), (10, .inl 1)]) (st' := [.inl (n : Int)]) rfl ?_
                        refine h_reti (x := (n : Int)) rfl rfl ?_
                        have g103 : -2147483648 ≤ (H100.1 1826 97) ∧ (H100.1 1826 97) ≤ 2147483647 := hrg101.1 1826 13 97 _ .int rfl rfl
                        have e104 : (H100.1 1826 97) = (H97.1 1826 97) := hfH100.2.2 97 (by decide)
                        have e105 : (H97.1 1826 97) = (-1) := hfH97.2.2 97 (by decide)
                        exact ⟨hf102, (show (H100.1 1826 97) = -1 by omega), hOSH100, _, rfl, by omega, by omega⟩
                · refine h_run 2 (pc' := 151) (l' := [(0, .inr (.inr 1826)), (1, .inl (l : Int)), (2, .inl bk), (3, .inl (s : Int)), (4, .inl (q : Int)), (5, .inl wh), (6, .inl (o : Int)), (7, .inl (i10 : Int)), (8, .inl (a9 : Int)), (9, .inl (b9 : Int))]) (st' := [.inl 1, .inl (H6.1 1875 o), .inl (i10 : Int), .inl 1000, .inl (k1 : Int), .inl (48 * (a9 : Int)), .inr (.inr 1842), .inr (.inr 1826)]) rfl ?_
                  have g107 : -2147483648 ≤ (H6.1 1826 93) ∧ (H6.1 1826 93) ≤ 2147483647 := hrg7.1 1826 13 93 _ .int rfl rfl
                  have hQl : sP H (zu H6 1826 (up (H6.1 1826) 97 (l : Int))) := sP_fr (sP_rf H) (fr_o hf8 (by decide)) (by decide) (by decide)
                  have hPl : PWc (zu H6 1826 (up (H6.1 1826) 97 (l : Int))) := PWc_fr hP (fr_o hf8 (by decide)) (by decide) (by decide)
                  refine h_cv (i := 593) (j := 239) (b := 1826) (M' := mt_239) (xs := [.inl 1, .inl (H6.1 1875 o), .inl (i10 : Int), .inl 1000, .inl (k1 : Int), .inl (48 * (a9 : Int)), .inr (.inr 1842)]) (rest := []) rfl rfl rfl rfl rfl rfl (Nat.le_of_ble_eq_true rfl) (Nat.le_of_ble_eq_true rfl) (by omega) (m_isLike (p := (48 * a9)) (ln := k1) (N := N) (k := ki) (V := 6) (okp := (m_sg (H.1 1826 3) (H.1 1826 8) (vn : Nat))) (by omega) rfl (by decide) (by decide) hPl (by rw [hQl.1, hQl.2.1, hQl.2.2.1, hQl.2.2.2]; exact hTn) ⟨by omega, (show (H6.1 1826 93) = (N : Int) by omega)⟩ (by rw [hQl.1, hQl.2.1, hQl.2.2.1, hQl.2.2.2]; exact hTi) (by omega) (by rw [hQl.1, hQl.2.1]; exact (by show tm _ _ (H6.1 1842) _ _ 1; rw [show (H6.1 1842) = (H.1 1842) from hfH6.2.1 1842 (by decide) (by decide), ha9]; exact k13)) (show 48 * a9 + k1 ≤ 1536 ∧ k1 ≤ 60 by omega) (by omega) (Or.inr (show 0 ≤ (l : Int) ∧ (l : Int) ≤ 15 ∧ 6 ≤ 6 by omega)) (fun s9 h9 => by unfold m_sg at h9; omega) (by omega)) ?_
                  rintro _ H106 ⟨(rfl | ⟨rfl, xH106⟩), hfH106⟩
                  · refine h_rng (fun hrg108 => ?_)
                    have hf109 : fr [50, 51, 53, 76, 93, 97] [1847, 1852, 1853, 1855, 1856, 1873, 1874, 1878, 1884, 1886] H H106 := fr_t (fr_o hf8 (by decide)) hfH106 (by decide) (by decide)
                    have hOSH106 : OS H H106 n := OS_fr (OS_fr hOSH6 (show fr [97] [] H6 (zu H6 1826 (up (H6.1 1826) 97 (l : Int))) from (fr_o (fr_rf _ _ _) (by decide))) (by decide) (by decide) (by decide)) hfH106 (by decide) (by decide) (by decide)
                    have hooH106 : (H106.1 1871) 0 = (o : Int) := (congrFun (hfH106.2.1 1871 (by decide) (by decide)) 0).trans hooH6
                    refine h_run 0 (pc' := 154) (l' := [(0, .inr (.inr 1826)), (1, .inl (l : Int)), (2, .inl bk), (3, .inl (s : Int)), (4, .inl (q : Int)), (5, .inl wh), (6, .inl (o : Int)), (7, .inl (i10 : Int)), (8, .inl (a9 : Int)), (9, .inl (b9 : Int))]) (st' := [.inl 0]) rfl ?_
                    refine h_zeq (off := 35) (t := 189) rfl rfl (by decide) (fun _ => ?_) (fun c => absurd c (by decide))
                    refine h_run 4 (pc' := 194) (l' := [(0, .inr (.inr 1826)), (1, .inl (l : Int)), (2, .inl bk), (3, .inl (s : Int)), (4, .inl (q : Int)), (5, .inl wh), (6, .inl (o : Int)), (7, .inl (i10 : Int)), (8, .inl (a9 : Int)), (9, .inl (b9 : Int)), (10, .inl 0)]) (st' := [.inl (-1), .inr (.inr 1826)]) rfl ?_
                    refine h_puti (i := 202) (ci := 13) (k := 97) (a := 1826) (x := (-1)) rfl rfl rfl rfl rfl rfl (by decide) (by decide) ?_
                    refine h_run 1 (pc' := 199) (l' := [(0, .inr (.inr 1826)), (1, .inl (l : Int)), (2, .inl bk), (3, .inl (s : Int)), (4, .inl (q : Int)), (5, .inl wh), (6, .inl (o : Int)), (7, .inl (i10 : Int)), (8, .inl (a9 : Int)), (9, .inl (b9 : Int)), (10, .inl 0)]) (st' := [.inl 0]) rfl ?_
                    refine h_zne (off := 8) (t := 207) rfl rfl (by decide) (fun c => absurd c (by decide)) (fun _ => ?_)
                    refine h_run 2 (pc' := 226) (l' := [(0, .inr (.inr 1826)), (1, .inl (l : Int)), (2, .inl bk), (3, .inl (s : Int)), (4, .inl (q : Int)), (5, .inl wh), (6, .inl (o : Int)), (7, .inl (i10 : Int)), (8, .inl (a9 : Int)), (9, .inl (b9 : Int)), (10, .inl 0)]) (st' := [.inl (-104)]) rfl ?_
                    refine h_reti (x := (-104)) rfl rfl ?_
                    exact ⟨(fr_o hf109 (by decide)), (show (-1 : Int) = -1 by omega), (OS_fr hOSH106 (show fr [97] [] H106 (zu H106 1826 (up (H106.1 1826) 97 (-1))) from (fr_o (fr_rf _ _ _) (by decide))) (by decide) (by decide) (by decide)), _, rfl, by omega, by omega⟩
                  · refine h_rng (fun hrg110 => ?_)
                    have hf111 : fr [50, 51, 53, 76, 93, 97] [1847, 1852, 1853, 1855, 1856, 1873, 1874, 1878, 1884, 1886] H H106 := fr_t (fr_o hf8 (by decide)) hfH106 (by decide) (by decide)
                    have hOSH106 : OS H H106 n := OS_fr (OS_fr hOSH6 (show fr [97] [] H6 (zu H6 1826 (up (H6.1 1826) 97 (l : Int))) from (fr_o (fr_rf _ _ _) (by decide))) (by decide) (by decide) (by decide)) hfH106 (by decide) (by decide) (by decide)
                    have hooH106 : (H106.1 1871) 0 = (o : Int) := (congrFun (hfH106.2.1 1871 (by decide) (by decide)) 0).trans hooH6
                    have eNH106 : (H106.1 1884) = (H6.1 1884) := hfH106.2.1 1884 (by decide) (by decide)
                    have yH106 : fre (ma (H.1 1833) (H.1 1830)) (m_sg (H.1 1826 3) (H.1 1826 8) 60) (H106.1 1884) (H106.1 1886) N := by have h9 := xH106; rw [hQl.1, hQl.2.1, hQl.2.2.1, hQl.2.2.2] at h9; rw [eNH106]; exact h9
                    have hTnH106 : tm (ma (H.1 1833) (H.1 1830)) (m_sg (H.1 1826 3) (H.1 1826 8) 60) (H106.1 1884) N 0 1 := by rw [eNH106]; exact hTn
                    have hTiH106 : tm (ma (H.1 1833) (H.1 1830)) (m_sg (H.1 1826 3) (H.1 1826 8) 60) (H106.1 1884) ki i10 1 := by rw [eNH106]; exact hTi
                    refine h_run 0 (pc' := 154) (l' := [(0, .inr (.inr 1826)), (1, .inl (l : Int)), (2, .inl bk), (3, .inl (s : Int)), (4, .inl (q : Int)), (5, .inl wh), (6, .inl (o : Int)), (7, .inl (i10 : Int)), (8, .inl (a9 : Int)), (9, .inl (b9 : Int))]) (st' := [.inl 1]) rfl ?_
                    refine h_zeq (off := 35) (t := 189) rfl rfl (by decide) (fun c => absurd c (by decide)) (fun _ => ?_)
                    refine h_run 9 (pc' := 173) (l' := [(0, .inr (.inr 1826)), (1, .inl (l : Int)), (2, .inl bk), (3, .inl (s : Int)), (4, .inl (q : Int)), (5, .inl wh), (6, .inl (o : Int)), (7, .inl (i10 : Int)), (8, .inl (a9 : Int)), (9, .inl (b9 : Int))]) (st' := [.inl (b9 : Int), .inr (.inr 1843), .inl (48 * (b9 : Int)), .inr (.inr 1842), .inr (.inr 1826)]) rfl ?_
                    refine h_ild (c := 1843) (j := b9) (i := (b9 : Int)) rfl rfl (by decide) rfl (by omega) ?_
                    have g112 : -2147483648 ≤ (H106.1 1843 b9) ∧ (H106.1 1843 b9) ≤ 2147483647 := hrg110.2 1843 b9 32 .int rfl (by omega)
                    have e113 : (H106.1 1843 b9) = (H6.1 1843 b9) := congrFun (hfH106.2.1 1843 (by decide) (by decide)) b9
                    have e114 : (H6.1 1843 b9) = (H.1 1843 b9) := congrFun (hfH6.2.1 1843 (by decide) (by decide)) b9
                    refine h_run 0 (pc' := 174) (l' := [(0, .inr (.inr 1826)), (1, .inl (l : Int)), (2, .inl bk), (3, .inl (s : Int)), (4, .inl (q : Int)), (5, .inl wh), (6, .inl (o : Int)), (7, .inl (i10 : Int)), (8, .inl (a9 : Int)), (9, .inl (b9 : Int))]) (st' := [.inl (H106.1 1843 b9), .inl (48 * (b9 : Int)), .inr (.inr 1842), .inr (.inr 1826)]) rfl ?_
                    have hszb9 : (H106.1 1843) b9 = (k0 : Int) := by rw [show (H106.1 1843) = (H6.1 1843) from hfH106.2.1 1843 (by decide) (by decide), show (H6.1 1843) = (H.1 1843) from hfH6.2.1 1843 (by decide) (by decide), hb9]; exact k01
                    rw [show (H106.1 1843 b9) = (k0 : Int) by omega]
                    refine h_run 2 (pc' := 179) (l' := [(0, .inr (.inr 1826)), (1, .inl (l : Int)), (2, .inl bk), (3, .inl (s : Int)), (4, .inl (q : Int)), (5, .inl wh), (6, .inl (o : Int)), (7, .inl (i10 : Int)), (8, .inl (a9 : Int)), (9, .inl (b9 : Int))]) (st' := [.inl (i10 : Int), .inl 1000, .inl (k0 : Int), .inl (48 * (b9 : Int)), .inr (.inr 1842), .inr (.inr 1826)]) rfl ?_
                    have g116 : -2147483648 ≤ (H106.1 1826 93) ∧ (H106.1 1826 93) ≤ 2147483647 := hrg110.1 1826 13 93 _ .int rfl rfl
                    have e117 : (H106.1 1826 93) = (H6.1 1826 93) := hfH106.2.2 93 (by decide)
                    have hQk : sP H H106 := sP_fr (sP_rf H) hf111 (by decide) (by decide)
                    have hPk : PWc H106 := PWc_fr hP hf111 (by decide) (by decide)
                    refine h_cv (i := 597) (j := 242) (b := 1826) (M' := mt_242) (xs := [.inl (i10 : Int), .inl 1000, .inl (k0 : Int), .inl (48 * (b9 : Int)), .inr (.inr 1842)]) (rest := []) rfl rfl rfl rfl rfl rfl (Nat.le_of_ble_eq_true rfl) (Nat.le_of_ble_eq_true rfl) (by omega) (m_isMade (p := (48 * b9)) (ln := k0) (N := N) (k := ki) (okp := (m_sg (H.1 1826 3) (H.1 1826 8) (vn : Nat))) (by omega) rfl (by decide) (by decide) hPk (by rw [hQk.1, hQk.2.1, hQk.2.2.1, hQk.2.2.2]; exact hTnH106) ⟨by omega, (show (H106.1 1826 93) = (N : Int) by omega)⟩ (by rw [hQk.1, hQk.2.1, hQk.2.2.1, hQk.2.2.2]; exact hTiH106) (by omega) (by rw [hQk.1, hQk.2.1]; exact (by show tm _ _ (H106.1 1842) _ _ 1; rw [show (H106.1 1842) = (H6.1 1842) from hfH106.2.1 1842 (by decide) (by decide), show (H6.1 1842) = (H.1 1842) from hfH6.2.1 1842 (by decide) (by decide), hb9]; exact k03)) (show 48 * b9 + k0 ≤ 1536 ∧ k0 ≤ 60 by omega) (by omega) (by rw [hQk.2.2.1, hQk.2.2.2]; exact (fun s9 h9 => by unfold m_sg at *; omega)) (by rw [hQk.1, hQk.2.1, hQk.2.2.1, hQk.2.2.2]; exact yH106)) ?_
                    rintro _ H115 ⟨(rfl | ⟨rfl, MH115, zH115, mH115, tH115⟩), hfH115⟩
                    · refine h_rng (fun hrg118 => ?_)
                      have hf119 : fr [50, 51, 53, 76, 93, 97] [1847, 1852, 1853, 1855, 1856, 1873, 1874, 1878, 1884, 1886] H H115 := fr_t hf111 hfH115 (by decide) (by decide)
                      have hOSH115 : OS H H115 n := OS_fr hOSH106 hfH115 (by decide) (by decide) (by decide)
                      have hooH115 : (H115.1 1871) 0 = (o : Int) := (congrFun (hfH115.2.1 1871 (by decide) (by decide)) 0).trans hooH106
                      refine h_run 0 (pc' := 182) (l' := [(0, .inr (.inr 1826)), (1, .inl (l : Int)), (2, .inl bk), (3, .inl (s : Int)), (4, .inl (q : Int)), (5, .inl wh), (6, .inl (o : Int)), (7, .inl (i10 : Int)), (8, .inl (a9 : Int)), (9, .inl (b9 : Int))]) (st' := [.inl 0]) rfl ?_
                      refine h_zeq (off := 7) (t := 189) rfl rfl (by decide) (fun _ => ?_) (fun c => absurd c (by decide))
                      refine h_run 4 (pc' := 194) (l' := [(0, .inr (.inr 1826)), (1, .inl (l : Int)), (2, .inl bk), (3, .inl (s : Int)), (4, .inl (q : Int)), (5, .inl wh), (6, .inl (o : Int)), (7, .inl (i10 : Int)), (8, .inl (a9 : Int)), (9, .inl (b9 : Int)), (10, .inl 0)]) (st' := [.inl (-1), .inr (.inr 1826)]) rfl ?_
                      refine h_puti (i := 202) (ci := 13) (k := 97) (a := 1826) (x := (-1)) rfl rfl rfl rfl rfl rfl (by decide) (by decide) ?_
                      refine h_run 1 (pc' := 199) (l' := [(0, .inr (.inr 1826)), (1, .inl (l : Int)), (2, .inl bk), (3, .inl (s : Int)), (4, .inl (q : Int)), (5, .inl wh), (6, .inl (o : Int)), (7, .inl (i10 : Int)), (8, .inl (a9 : Int)), (9, .inl (b9 : Int)), (10, .inl 0)]) (st' := [.inl 0]) rfl ?_
                      refine h_zne (off := 8) (t := 207) rfl rfl (by decide) (fun c => absurd c (by decide)) (fun _ => ?_)
                      refine h_run 2 (pc' := 226) (l' := [(0, .inr (.inr 1826)), (1, .inl (l : Int)), (2, .inl bk), (3, .inl (s : Int)), (4, .inl (q : Int)), (5, .inl wh), (6, .inl (o : Int)), (7, .inl (i10 : Int)), (8, .inl (a9 : Int)), (9, .inl (b9 : Int)), (10, .inl 0)]) (st' := [.inl (-104)]) rfl ?_
                      refine h_reti (x := (-104)) rfl rfl ?_
                      exact ⟨(fr_o hf119 (by decide)), (show (-1 : Int) = -1 by omega), (OS_fr hOSH115 (show fr [97] [] H115 (zu H115 1826 (up (H115.1 1826) 97 (-1))) from (fr_o (fr_rf _ _ _) (by decide))) (by decide) (by decide) (by decide)), _, rfl, by omega, by omega⟩
                    · refine h_rng (fun hrg120 => ?_)
                      have hf121 : fr [50, 51, 53, 76, 93, 97] [1847, 1852, 1853, 1855, 1856, 1873, 1874, 1878, 1884, 1886] H H115 := fr_t hf111 hfH115 (by decide) (by decide)
                      have hOSH115 : OS H H115 n := OS_fr hOSH106 hfH115 (by decide) (by decide) (by decide)
                      have hooH115 : (H115.1 1871) 0 = (o : Int) := (congrFun (hfH115.2.1 1871 (by decide) (by decide)) 0).trans hooH106
                      have tdH115 : tm (ma (H.1 1833) (H.1 1830)) (m_sg (H.1 1826 3) (H.1 1826 8) 60) (H115.1 1856) MH115 0 1 := by have h9 := tH115; rw [hQk.1, hQk.2.1, hQk.2.2.1, hQk.2.2.2] at h9; exact h9
                      refine h_run 0 (pc' := 182) (l' := [(0, .inr (.inr 1826)), (1, .inl (l : Int)), (2, .inl bk), (3, .inl (s : Int)), (4, .inl (q : Int)), (5, .inl wh), (6, .inl (o : Int)), (7, .inl (i10 : Int)), (8, .inl (a9 : Int)), (9, .inl (b9 : Int))]) (st' := [.inl 1]) rfl ?_
                      refine h_zeq (off := 7) (t := 189) rfl rfl (by decide) (fun c => absurd c (by decide)) (fun _ => ?_)
                      refine h_run 5 (pc' := 194) (l' := [(0, .inr (.inr 1826)), (1, .inl (l : Int)), (2, .inl bk), (3, .inl (s : Int)), (4, .inl (q : Int)), (5, .inl wh), (6, .inl (o : Int)), (7, .inl (i10 : Int)), (8, .inl (a9 : Int)), (9, .inl (b9 : Int)), (10, .inl 1)]) (st' := [.inl (-1), .inr (.inr 1826)]) rfl ?_
                      refine h_puti (i := 202) (ci := 13) (k := 97) (a := 1826) (x := (-1)) rfl rfl rfl rfl rfl rfl (by decide) (by decide) ?_
                      refine h_run 1 (pc' := 199) (l' := [(0, .inr (.inr 1826)), (1, .inl (l : Int)), (2, .inl bk), (3, .inl (s : Int)), (4, .inl (q : Int)), (5, .inl wh), (6, .inl (o : Int)), (7, .inl (i10 : Int)), (8, .inl (a9 : Int)), (9, .inl (b9 : Int)), (10, .inl 1)]) (st' := [.inl 1]) rfl ?_
                      refine h_zne (off := 8) (t := 207) rfl rfl (by decide) (fun _ => ?_) (fun c => absurd c (by decide))
                      refine h_run 3 (pc' := 211) (l' := [(0, .inr (.inr 1826)), (1, .inl (l : Int)), (2, .inl bk), (3, .inl (s : Int)), (4, .inl (q : Int)), (5, .inl wh), (6, .inl (o : Int)), (7, .inl (i10 : Int)), (8, .inl (a9 : Int)), (9, .inl (b9 : Int)), (10, .inl 1)]) (st' := [.inl (s : Int), .inl (o : Int), .inr (.inr 1826)]) rfl ?_
                      refine h_cv (i := 575) (j := 229) (b := 1826) (M' := mt_229) (xs := [.inl (s : Int), .inl (o : Int)]) (rest := []) rfl rfl rfl rfl rfl rfl (Nat.le_of_ble_eq_true rfl) (Nat.le_of_ble_eq_true rfl) (by omega) (m_isKept (M := MH115) (by omega) (by omega) ⟨zH115, mH115⟩) ?_
                      rintro _ H122 (⟨rfl, hxH122, rfl⟩ | ⟨rfl, hlH122, hfH122, hzH122, hcH122, hoH122⟩)
                      · refine h_run 0 (pc' := 214) (l' := [(0, .inr (.inr 1826)), (1, .inl (l : Int)), (2, .inl bk), (3, .inl (s : Int)), (4, .inl (q : Int)), (5, .inl wh), (6, .inl (o : Int)), (7, .inl (i10 : Int)), (8, .inl (a9 : Int)), (9, .inl (b9 : Int)), (10, .inl 1)]) (st' := [.inl 0]) rfl ?_
                        refine h_zeq (off := 10) (t := 224) rfl rfl (by decide) (fun _ => ?_) (fun c => absurd c (by decide))
                        refine h_run 1 (pc' := 226) (l' := [(0, .inr (.inr 1826)), (1, .inl (l : Int)), (2, .inl bk), (3, .inl (s : Int)), (4, .inl (q : Int)), (5, .inl wh), (6, .inl (o : Int)), (7, .inl (i10 : Int)), (8, .inl (a9 : Int)), (9, .inl (b9 : Int)), (10, .inl 1)]) (st' := [.inl (-105)]) rfl ?_
                        refine h_reti (x := (-105)) rfl rfl ?_
                        exact ⟨(fr_o hf121 (by decide)), (show (-1 : Int) = -1 by omega), (OS_fr hOSH115 (show fr [97] [] H115 (zu H115 1826 (up (H115.1 1826) 97 (-1))) from (fr_o (fr_rf _ _ _) (by decide))) (by decide) (by decide) (by decide)), _, rfl, by omega, by omega⟩
                      · refine h_rng (fun hrg123 => ?_)
                        have hf124 : fr [50, 51, 53, 76, 93, 97] [1847, 1852, 1853, 1855, 1856, 1873, 1874, 1878, 1884, 1886] H H122 := fr_t (fr_o hf121 (by decide)) hfH122 (by decide) (by decide)
                        have hOSH122 : OS H H122 n := OS_side (OS_fr hOSH115 (show fr [97] [] H115 (zu H115 1826 (up (H115.1 1826) 97 (-1))) from (fr_o (fr_rf _ _ _) (by decide))) (by decide) (by decide) (by decide)) hooH115 hfH122 hs hlH122 hzH122 hcH122 hoH122 tdH115
                        have hooH122 : (H122.1 1871) 0 = (o : Int) := (congrFun (hfH122.2.1 1871 (by decide) (by decide)) 0).trans hooH115
                        refine h_run 0 (pc' := 214) (l' := [(0, .inr (.inr 1826)), (1, .inl (l : Int)), (2, .inl bk), (3, .inl (s : Int)), (4, .inl (q : Int)), (5, .inl wh), (6, .inl (o : Int)), (7, .inl (i10 : Int)), (8, .inl (a9 : Int)), (9, .inl (b9 : Int)), (10, .inl 1)]) (st' := [.inl 1]) rfl ?_
                        refine h_zeq (off := 10) (t := 224) rfl rfl (by decide) (fun c => absurd c (by decide)) (fun _ => ?_)
                        refine h_run 1 (pc' := 218) (l' := [(0, .inr (.inr 1826)), (1, .inl (l : Int)), (2, .inl bk), (3, .inl (s : Int)), (4, .inl (q : Int)), (5, .inl wh), (6, .inl (o : Int)), (7, .inl (i10 : Int)), (8, .inl (a9 : Int)), (9, .inl (b9 : Int)), (10, .inl 1)]) (st' := [.inr (.inr 1826)]) rfl ?_
                        refine h_cv (i := 556) (j := 232) (b := 1826) (M' := mt_232) (xs := []) (rest := []) rfl rfl rfl rfl rfl rfl (Nat.le_of_ble_eq_true rfl) (Nat.le_of_ble_eq_true rfl) (by omega) (m_did (n := n) (by omega) hOSH122.1.1 (fun q9 => absurd q9 (by omega)) (by rw [show (H122.1 1871) 0 = (o : Int) from hooH122]; omega)) ?_
                        rintro _ H125 ⟨rfl, hfH125⟩
                        refine h_rng (fun hrg126 => ?_)
                        have hf127 : fr [50, 51, 53, 76, 93, 97] [1847, 1852, 1853, 1855, 1856, 1873, 1874, 1878, 1884, 1886] H H125 := fr_t hf124 hfH125 (by decide) (by decide)
                        have hOSH125 : OS H H125 n := OS_fr hOSH122 hfH125 (by decide) (by decide) (by decide)
                        have hooH125 : (H125.1 1871) 0 = (o : Int) := (congrFun (hfH125.2.1 1871 (by decide) (by decide)) 0).trans hooH122
                        refine h_run 0 (pc' := 221) (l' := [(0, .inr (.inr 1826)), (1, .inl (l : Int)), (2, .inl bk), (3, .inl (s : Int)), (4, .inl (q : Int)), (5, .inl wh), (6, .inl (o : Int)), (7, .inl (i10 : Int)), (8, .inl (a9 : Int)), (9, .inl (b9 : Int)), (10, .inl 1)]) (st' := [.inl (n : Int)]) rfl ?_
                        refine h_run 1 (pc' := 226) (l' := [(0, .inr (.inr 1826)), (1, .inl (l : Int)), (2, .inl bk), (3, .inl (s : Int)), (4, .inl (q : Int)), (5, .inl wh), (6, .inl (o : Int)), (7, .inl (i10 : Int)), (8, .inl (a9 : Int)), (9, .inl (b9 : Int)), (10, .inl 1)]) (st' := [.inl (n : Int)]) rfl ?_
                        refine h_reti (x := (n : Int)) rfl rfl ?_
                        have g128 : -2147483648 ≤ (H125.1 1826 97) ∧ (H125.1 1826 97) ≤ 2147483647 := hrg126.1 1826 13 97 _ .int rfl rfl
                        have e129 : (H125.1 1826 97) = (H122.1 1826 97) := hfH125.2.2 97 (by decide)
                        have e130 : (H122.1 1826 97) = (-1) := hfH122.2.2 97 (by decide)
                        exact ⟨hf127, (show (H125.1 1826 97) = -1 by omega), hOSH125, _, rfl, by omega, by omega⟩
          · refine h_run 1 (pc' := 71) (l' := [(0, .inr (.inr 1826)), (1, .inl (l : Int)), (2, .inl bk), (3, .inl (s : Int)), (4, .inl (q : Int)), (5, .inl wh), (6, .inl (o : Int)), (7, .inl (i10 : Int))]) (st' := [.inl (-104)]) rfl ?_
            refine h_reti (x := (-104)) rfl rfl ?_
            have g131 : -2147483648 ≤ (H6.1 1826 97) ∧ (H6.1 1826 97) ≤ 2147483647 := hrg7.1 1826 13 97 _ .int rfl rfl
            have e132 : (H6.1 1826 97) = (H.1 1826 97) := hfH6.2.2 97 (by decide)
            exact ⟨hf8, (show (H6.1 1826 97) = -1 by omega), hOSH6, _, rfl, by omega, by omega⟩
      · obtain ⟨wi, hwi⟩ : ∃ k9 : Nat, wh = (k9 : Int) := ⟨(wh).toNat, by omega⟩
        rw [show wh = (wi : Int) from hwi]
        refine h_run 5 (pc' := 66) (l' := [(0, .inr (.inr 1826)), (1, .inl (l : Int)), (2, .inl bk), (3, .inl (s : Int)), (4, .inl (q : Int)), (5, .inl (wi : Int)), (6, .inl (o : Int)), (7, .inl (wi : Int))]) (st' := [.inl (-1), .inl (wi : Int)]) rfl ?_
        refine h_ine (off := 6) (t := 72) rfl rfl (by omega) (by decide) (fun c133 => ?_) (fun c133 => ?_)
        · obtain ⟨ki, hki, hTi⟩ := tm_sub hTn (p := wi) (by omega)
          have hki1 : 1 ≤ ki := tm_le hTi
          have hsi := tm_ok hTn wi (by omega)
          rw [Nat.zero_add] at hsi
          have hsi9 := hsi
          unfold m_sg at hsi9
          refine h_run 4 (pc' := 76) (l' := [(0, .inr (.inr 1826)), (1, .inl (l : Int)), (2, .inl bk), (3, .inl (s : Int)), (4, .inl (q : Int)), (5, .inl (wi : Int)), (6, .inl (o : Int)), (7, .inl (wi : Int))]) (st' := [.inl bk, .inl (2 * (l : Int))]) rfl ?_
          refine h_zeq (off := 7) (t := 83) rfl rfl (by omega) (fun c134 => ?_) (fun c134 => ?_)
          · refine h_run 2 (pc' := 85) (l' := [(0, .inr (.inr 1826)), (1, .inl (l : Int)), (2, .inl bk), (3, .inl (s : Int)), (4, .inl (q : Int)), (5, .inl (wi : Int)), (6, .inl (o : Int)), (7, .inl (wi : Int))]) (st' := [.inl ((2 * (l : Int)) + 0)]) rfl ?_
            obtain ⟨a9, ha9⟩ : ∃ x9 : Nat, x9 = 2 * l + 0 := ⟨_, rfl⟩
            rw [show ((2 * (l : Int)) + 0) = ((a9 : Nat) : Int) from (by omega)]
            refine h_run 5 (pc' := 91) (l' := [(0, .inr (.inr 1826)), (1, .inl (l : Int)), (2, .inl bk), (3, .inl (s : Int)), (4, .inl (q : Int)), (5, .inl (wi : Int)), (6, .inl (o : Int)), (7, .inl (wi : Int)), (8, .inl (a9 : Int))]) (st' := [.inl bk, .inl (2 * (l : Int))]) rfl ?_
            refine h_zeq (off := 7) (t := 98) rfl rfl (by omega) (fun c135 => ?_) (fun c135 => ?_)
            · refine h_run 2 (pc' := 100) (l' := [(0, .inr (.inr 1826)), (1, .inl (l : Int)), (2, .inl bk), (3, .inl (s : Int)), (4, .inl (q : Int)), (5, .inl (wi : Int)), (6, .inl (o : Int)), (7, .inl (wi : Int)), (8, .inl (a9 : Int))]) (st' := [.inl ((2 * (l : Int)) + 1)]) rfl ?_
              obtain ⟨b9, hb9⟩ : ∃ x9 : Nat, x9 = 2 * l + 1 := ⟨_, rfl⟩
              rw [show ((2 * (l : Int)) + 1) = ((b9 : Nat) : Int) from (by omega)]
              refine h_run 3 (pc' := 104) (l' := [(0, .inr (.inr 1826)), (1, .inl (l : Int)), (2, .inl bk), (3, .inl (s : Int)), (4, .inl (q : Int)), (5, .inl (wi : Int)), (6, .inl (o : Int)), (7, .inl (wi : Int)), (8, .inl (a9 : Int)), (9, .inl (b9 : Int))]) (st' := [.inl (l : Int), .inr (.inr 1826)]) rfl ?_
              refine h_puti (i := 202) (ci := 13) (k := 97) (a := 1826) (x := (l : Int)) rfl rfl rfl rfl rfl rfl (by decide) (by omega) ?_
              refine h_run 9 (pc' := 123) (l' := [(0, .inr (.inr 1826)), (1, .inl (l : Int)), (2, .inl bk), (3, .inl (s : Int)), (4, .inl (q : Int)), (5, .inl (wi : Int)), (6, .inl (o : Int)), (7, .inl (wi : Int)), (8, .inl (a9 : Int)), (9, .inl (b9 : Int))]) (st' := [.inl (a9 : Int), .inr (.inr 1843), .inl (48 * (a9 : Int)), .inr (.inr 1842), .inr (.inr 1826)]) rfl ?_
              refine h_ild (c := 1843) (j := a9) (i := (a9 : Int)) rfl rfl (by decide) rfl (by omega) ?_
              have g136 : -2147483648 ≤ (H6.1 1843 a9) ∧ (H6.1 1843 a9) ≤ 2147483647 := hrg7.2 1843 a9 32 .int rfl (by omega)
              have e137 : (H6.1 1843 a9) = (H.1 1843 a9) := congrFun (hfH6.2.1 1843 (by decide) (by decide)) a9
              refine h_run 0 (pc' := 124) (l' := [(0, .inr (.inr 1826)), (1, .inl (l : Int)), (2, .inl bk), (3, .inl (s : Int)), (4, .inl (q : Int)), (5, .inl (wi : Int)), (6, .inl (o : Int)), (7, .inl (wi : Int)), (8, .inl (a9 : Int)), (9, .inl (b9 : Int))]) (st' := [.inl (H6.1 1843 a9), .inl (48 * (a9 : Int)), .inr (.inr 1842), .inr (.inr 1826)]) rfl ?_
              have hsza9 : (H6.1 1843) a9 = (k0 : Int) := by rw [show (H6.1 1843) = (H.1 1843) from hfH6.2.1 1843 (by decide) (by decide), ha9]; exact k01
              rw [show (H6.1 1843 a9) = (k0 : Int) by omega]
              refine h_run 5 (pc' := 135) (l' := [(0, .inr (.inr 1826)), (1, .inl (l : Int)), (2, .inl bk), (3, .inl (s : Int)), (4, .inl (q : Int)), (5, .inl (wi : Int)), (6, .inl (o : Int)), (7, .inl (wi : Int)), (8, .inl (a9 : Int)), (9, .inl (b9 : Int))]) (st' := [.inl (o : Int), .inr (.inr 1875), .inl (wi : Int), .inl 1000, .inl (k0 : Int), .inl (48 * (a9 : Int)), .inr (.inr 1842), .inr (.inr 1826)]) rfl ?_
              refine h_ild (c := 1875) (j := o) (i := (o : Int)) rfl rfl (by decide) rfl (by omega) ?_
              have g138 : -2147483648 ≤ (H6.1 1875 o) ∧ (H6.1 1875 o) ≤ 2147483647 := hrg7.2 1875 o 40 .int rfl (by omega)
              have e139 : (H6.1 1875 o) = (H.1 1875 o) := congrFun (hfH6.2.1 1875 (by decide) (by decide)) o
              refine h_run 0 (pc' := 136) (l' := [(0, .inr (.inr 1826)), (1, .inl (l : Int)), (2, .inl bk), (3, .inl (s : Int)), (4, .inl (q : Int)), (5, .inl (wi : Int)), (6, .inl (o : Int)), (7, .inl (wi : Int)), (8, .inl (a9 : Int)), (9, .inl (b9 : Int))]) (st' := [.inl (H6.1 1875 o), .inl (wi : Int), .inl 1000, .inl (k0 : Int), .inl (48 * (a9 : Int)), .inr (.inr 1842), .inr (.inr 1826)]) rfl ?_
              refine h_run 3 (pc' := 141) (l' := [(0, .inr (.inr 1826)), (1, .inl (l : Int)), (2, .inl bk), (3, .inl (s : Int)), (4, .inl (q : Int)), (5, .inl (wi : Int)), (6, .inl (o : Int)), (7, .inl (wi : Int)), (8, .inl (a9 : Int)), (9, .inl (b9 : Int))]) (st' := [.inl (l : Int), .inr (.inr 1847), .inl (H6.1 1875 o), .inl (wi : Int), .inl 1000, .inl (k0 : Int), .inl (48 * (a9 : Int)), .inr (.inr 1842), .inr (.inr 1826)]) rfl ?_
              refine h_ild (c := 1847) (j := l) (i := (l : Int)) rfl rfl (by decide) rfl (by omega) ?_
              have g140 : -2147483648 ≤ (H6.1 1847 l) ∧ (H6.1 1847 l) ≤ 2147483647 := hrg7.2 1847 l 16 .int rfl (by omega)
              have e141 : (H6.1 1847 l) = (H.1 1847 l) := congrFun (hfH6.2.1 1847 (by decide) (by decide)) l
              refine h_run 0 (pc' := 142) (l' := [(0, .inr (.inr 1826)), (1, .inl (l : Int)), (2, .inl bk), (3, .inl (s : Int)), (4, .inl (q : Int)), (5, .inl (wi : Int)), (6, .inl (o : Int)), (7, .inl (wi : Int)), (8, .inl (a9 : Int)), (9, .inl (b9 : Int))]) (st' := [.inl (H6.1 1847 l), .inl (H6.1 1875 o), .inl (wi : Int), .inl 1000, .inl (k0 : Int), .inl (48 * (a9 : Int)), .inr (.inr 1842), .inr (.inr 1826)]) rfl ?_
              refine h_run 1 (pc' := 143) (l' := [(0, .inr (.inr 1826)), (1, .inl (l : Int)), (2, .inl bk), (3, .inl (s : Int)), (4, .inl (q : Int)), (5, .inl (wi : Int)), (6, .inl (o : Int)), (7, .inl (wi : Int)), (8, .inl (a9 : Int)), (9, .inl (b9 : Int))]) (st' := [.inl 1, .inl (H6.1 1847 l), .inl (H6.1 1875 o), .inl (wi : Int), .inl 1000, .inl (k0 : Int), .inl (48 * (a9 : Int)), .inr (.inr 1842), .inr (.inr 1826)]) rfl ?_
              refine h_ine (off := 7) (t := 150) rfl rfl (by omega) (by decide) (fun c142 => ?_) (fun c142 => ?_)
              · refine h_run 1 (pc' := 151) (l' := [(0, .inr (.inr 1826)), (1, .inl (l : Int)), (2, .inl bk), (3, .inl (s : Int)), (4, .inl (q : Int)), (5, .inl (wi : Int)), (6, .inl (o : Int)), (7, .inl (wi : Int)), (8, .inl (a9 : Int)), (9, .inl (b9 : Int))]) (st' := [.inl 0, .inl (H6.1 1875 o), .inl (wi : Int), .inl 1000, .inl (k0 : Int), .inl (48 * (a9 : Int)), .inr (.inr 1842), .inr (.inr 1826)]) rfl ?_
                have g144 : -2147483648 ≤ (H6.1 1826 93) ∧ (H6.1 1826 93) ≤ 2147483647 := hrg7.1 1826 13 93 _ .int rfl rfl
                have hQl : sP H (zu H6 1826 (up (H6.1 1826) 97 (l : Int))) := sP_fr (sP_rf H) (fr_o hf8 (by decide)) (by decide) (by decide)
                have hPl : PWc (zu H6 1826 (up (H6.1 1826) 97 (l : Int))) := PWc_fr hP (fr_o hf8 (by decide)) (by decide) (by decide)
                refine h_cv (i := 593) (j := 239) (b := 1826) (M' := mt_239) (xs := [.inl 0, .inl (H6.1 1875 o), .inl (wi : Int), .inl 1000, .inl (k0 : Int), .inl (48 * (a9 : Int)), .inr (.inr 1842)]) (rest := []) rfl rfl rfl rfl rfl rfl (Nat.le_of_ble_eq_true rfl) (Nat.le_of_ble_eq_true rfl) (by omega) (m_isLike (p := (48 * a9)) (ln := k0) (N := N) (k := ki) (V := 6) (okp := (m_sg (H.1 1826 3) (H.1 1826 8) (vn : Nat))) (by omega) rfl (by decide) (by decide) hPl (by rw [hQl.1, hQl.2.1, hQl.2.2.1, hQl.2.2.2]; exact hTn) ⟨by omega, (show (H6.1 1826 93) = (N : Int) by omega)⟩ (by rw [hQl.1, hQl.2.1, hQl.2.2.1, hQl.2.2.2]; exact hTi) (by omega) (by rw [hQl.1, hQl.2.1]; exact (by show tm _ _ (H6.1 1842) _ _ 1; rw [show (H6.1 1842) = (H.1 1842) from hfH6.2.1 1842 (by decide) (by decide), ha9]; exact k03)) (show 48 * a9 + k0 ≤ 1536 ∧ k0 ≤ 60 by omega) (by omega) (Or.inr (show 0 ≤ (l : Int) ∧ (l : Int) ≤ 15 ∧ 6 ≤ 6 by omega)) (fun s9 h9 => by unfold m_sg at h9; omega) (by omega)) ?_
                rintro _ H143 ⟨(rfl | ⟨rfl, xH143⟩), hfH143⟩
                · refine h_rng (fun hrg145 => ?_)
                  have hf146 : fr [50, 51, 53, 76, 93, 97] [1847, 1852, 1853, 1855, 1856, 1873, 1874, 1878, 1884, 1886] H H143 := fr_t (fr_o hf8 (by decide)) hfH143 (by decide) (by decide)
                  have hOSH143 : OS H H143 n := OS_fr (OS_fr hOSH6 (show fr [97] [] H6 (zu H6 1826 (up (H6.1 1826) 97 (l : Int))) from (fr_o (fr_rf _ _ _) (by decide))) (by decide) (by decide) (by decide)) hfH143 (by decide) (by decide) (by decide)
                  have hooH143 : (H143.1 1871) 0 = (o : Int) := (congrFun (hfH143.2.1 1871 (by decide) (by decide)) 0).trans hooH6
                  refine h_run 0 (pc' := 154) (l' := [(0, .inr (.inr 1826)), (1, .inl (l : Int)), (2, .inl bk), (3, .inl (s : Int)), (4, .inl (q : Int)), (5, .inl (wi : Int)), (6, .inl (o : Int)), (7, .inl (wi : Int)), (8, .inl (a9 : Int)), (9, .inl (b9 : Int))]) (st' := [.inl 0]) rfl ?_
                  refine h_zeq (off := 35) (t := 189) rfl rfl (by decide) (fun _ => ?_) (fun c => absurd c (by decide))
                  refine h_run 4 (pc' := 194) (l' := [(0, .inr (.inr 1826)), (1, .inl (l : Int)), (2, .inl bk), (3, .inl (s : Int)), (4, .inl (q : Int)), (5, .inl (wi : Int)), (6, .inl (o : Int)), (7, .inl (wi : Int)), (8, .inl (a9 : Int)), (9, .inl (b9 : Int)), (10, .inl 0)]) (st' := [.inl (-1), .inr (.inr 1826)]) rfl ?_
                  refine h_puti (i := 202) (ci := 13) (k := 97) (a := 1826) (x := (-1)) rfl rfl rfl rfl rfl rfl (by decide) (by decide) ?_
                  refine h_run 1 (pc' := 199) (l' := [(0, .inr (.inr 1826)), (1, .inl (l : Int)), (2, .inl bk), (3, .inl (s : Int)), (4, .inl (q : Int)), (5, .inl (wi : Int)), (6, .inl (o : Int)), (7, .inl (wi : Int)), (8, .inl (a9 : Int)), (9, .inl (b9 : Int)), (10, .inl 0)]) (st' := [.inl 0]) rfl ?_
                  refine h_zne (off := 8) (t := 207) rfl rfl (by decide) (fun c => absurd c (by decide)) (fun _ => ?_)
                  refine h_run 2 (pc' := 226) (l' := [(0, .inr (.inr 1826)), (1, .inl (l : Int)), (2, .inl bk), (3, .inl (s : Int)), (4, .inl (q : Int)), (5, .inl (wi : Int)), (6, .inl (o : Int)), (7, .inl (wi : Int)), (8, .inl (a9 : Int)), (9, .inl (b9 : Int)), (10, .inl 0)]) (st' := [.inl (-104)]) rfl ?_
                  refine h_reti (x := (-104)) rfl rfl ?_
                  exact ⟨(fr_o hf146 (by decide)), (show (-1 : Int) = -1 by omega), (OS_fr hOSH143 (show fr [97] [] H143 (zu H143 1826 (up (H143.1 1826) 97 (-1))) from (fr_o (fr_rf _ _ _) (by decide))) (by decide) (by decide) (by decide)), _, rfl, by omega, by omega⟩
                · refine h_rng (fun hrg147 => ?_)
                  have hf148 : fr [50, 51, 53, 76, 93, 97] [1847, 1852, 1853, 1855, 1856, 1873, 1874, 1878, 1884, 1886] H H143 := fr_t (fr_o hf8 (by decide)) hfH143 (by decide) (by decide)
                  have hOSH143 : OS H H143 n := OS_fr (OS_fr hOSH6 (show fr [97] [] H6 (zu H6 1826 (up (H6.1 1826) 97 (l : Int))) from (fr_o (fr_rf _ _ _) (by decide))) (by decide) (by decide) (by decide)) hfH143 (by decide) (by decide) (by decide)
                  have hooH143 : (H143.1 1871) 0 = (o : Int) := (congrFun (hfH143.2.1 1871 (by decide) (by decide)) 0).trans hooH6
                  have eNH143 : (H143.1 1884) = (H6.1 1884) := hfH143.2.1 1884 (by decide) (by decide)
                  have yH143 : fre (ma (H.1 1833) (H.1 1830)) (m_sg (H.1 1826 3) (H.1 1826 8) 60) (H143.1 1884) (H143.1 1886) N := by have h9 := xH143; rw [hQl.1, hQl.2.1, hQl.2.2.1, hQl.2.2.2] at h9; rw [eNH143]; exact h9
                  have hTnH143 : tm (ma (H.1 1833) (H.1 1830)) (m_sg (H.1 1826 3) (H.1 1826 8) 60) (H143.1 1884) N 0 1 := by rw [eNH143]; exact hTn
                  have hTiH143 : tm (ma (H.1 1833) (H.1 1830)) (m_sg (H.1 1826 3) (H.1 1826 8) 60) (H143.1 1884) ki wi 1 := by rw [eNH143]; exact hTi
                  refine h_run 0 (pc' := 154) (l' := [(0, .inr (.inr 1826)), (1, .inl (l : Int)), (2, .inl bk), (3, .inl (s : Int)), (4, .inl (q : Int)), (5, .inl (wi : Int)), (6, .inl (o : Int)), (7, .inl (wi : Int)), (8, .inl (a9 : Int)), (9, .inl (b9 : Int))]) (st' := [.inl 1]) rfl ?_
                  refine h_zeq (off := 35) (t := 189) rfl rfl (by decide) (fun c => absurd c (by decide)) (fun _ => ?_)
                  refine h_run 9 (pc' := 173) (l' := [(0, .inr (.inr 1826)), (1, .inl (l : Int)), (2, .inl bk), (3, .inl (s : Int)), (4, .inl (q : Int)), (5, .inl (wi : Int)), (6, .inl (o : Int)), (7, .inl (wi : Int)), (8, .inl (a9 : Int)), (9, .inl (b9 : Int))]) (st' := [.inl (b9 : Int), .inr (.inr 1843), .inl (48 * (b9 : Int)), .inr (.inr 1842), .inr (.inr 1826)]) rfl ?_
                  refine h_ild (c := 1843) (j := b9) (i := (b9 : Int)) rfl rfl (by decide) rfl (by omega) ?_
                  have g149 : -2147483648 ≤ (H143.1 1843 b9) ∧ (H143.1 1843 b9) ≤ 2147483647 := hrg147.2 1843 b9 32 .int rfl (by omega)
                  have e150 : (H143.1 1843 b9) = (H6.1 1843 b9) := congrFun (hfH143.2.1 1843 (by decide) (by decide)) b9
                  have e151 : (H6.1 1843 b9) = (H.1 1843 b9) := congrFun (hfH6.2.1 1843 (by decide) (by decide)) b9
                  refine h_run 0 (pc' := 174) (l' := [(0, .inr (.inr 1826)), (1, .inl (l : Int)), (2, .inl bk), (3, .inl (s : Int)), (4, .inl (q : Int)), (5, .inl (wi : Int)), (6, .inl (o : Int)), (7, .inl (wi : Int)), (8, .inl (a9 : Int)), (9, .inl (b9 : Int))]) (st' := [.inl (H143.1 1843 b9), .inl (48 * (b9 : Int)), .inr (.inr 1842), .inr (.inr 1826)]) rfl ?_
                  have hszb9 : (H143.1 1843) b9 = (k1 : Int) := by rw [show (H143.1 1843) = (H6.1 1843) from hfH143.2.1 1843 (by decide) (by decide), show (H6.1 1843) = (H.1 1843) from hfH6.2.1 1843 (by decide) (by decide), hb9]; exact k11
                  rw [show (H143.1 1843 b9) = (k1 : Int) by omega]
                  refine h_run 2 (pc' := 179) (l' := [(0, .inr (.inr 1826)), (1, .inl (l : Int)), (2, .inl bk), (3, .inl (s : Int)), (4, .inl (q : Int)), (5, .inl (wi : Int)), (6, .inl (o : Int)), (7, .inl (wi : Int)), (8, .inl (a9 : Int)), (9, .inl (b9 : Int))]) (st' := [.inl (wi : Int), .inl 1000, .inl (k1 : Int), .inl (48 * (b9 : Int)), .inr (.inr 1842), .inr (.inr 1826)]) rfl ?_
                  have g153 : -2147483648 ≤ (H143.1 1826 93) ∧ (H143.1 1826 93) ≤ 2147483647 := hrg147.1 1826 13 93 _ .int rfl rfl
                  have e154 : (H143.1 1826 93) = (H6.1 1826 93) := hfH143.2.2 93 (by decide)
                  have hQk : sP H H143 := sP_fr (sP_rf H) hf148 (by decide) (by decide)
                  have hPk : PWc H143 := PWc_fr hP hf148 (by decide) (by decide)
                  refine h_cv (i := 597) (j := 242) (b := 1826) (M' := mt_242) (xs := [.inl (wi : Int), .inl 1000, .inl (k1 : Int), .inl (48 * (b9 : Int)), .inr (.inr 1842)]) (rest := []) rfl rfl rfl rfl rfl rfl (Nat.le_of_ble_eq_true rfl) (Nat.le_of_ble_eq_true rfl) (by omega) (m_isMade (p := (48 * b9)) (ln := k1) (N := N) (k := ki) (okp := (m_sg (H.1 1826 3) (H.1 1826 8) (vn : Nat))) (by omega) rfl (by decide) (by decide) hPk (by rw [hQk.1, hQk.2.1, hQk.2.2.1, hQk.2.2.2]; exact hTnH143) ⟨by omega, (show (H143.1 1826 93) = (N : Int) by omega)⟩ (by rw [hQk.1, hQk.2.1, hQk.2.2.1, hQk.2.2.2]; exact hTiH143) (by omega) (by rw [hQk.1, hQk.2.1]; exact (by show tm _ _ (H143.1 1842) _ _ 1; rw [show (H143.1 1842) = (H6.1 1842) from hfH143.2.1 1842 (by decide) (by decide), show (H6.1 1842) = (H.1 1842) from hfH6.2.1 1842 (by decide) (by decide), hb9]; exact k13)) (show 48 * b9 + k1 ≤ 1536 ∧ k1 ≤ 60 by omega) (by omega) (by rw [hQk.2.2.1, hQk.2.2.2]; exact (fun s9 h9 => by unfold m_sg at *; omega)) (by rw [hQk.1, hQk.2.1, hQk.2.2.1, hQk.2.2.2]; exact yH143)) ?_
                  rintro _ H152 ⟨(rfl | ⟨rfl, MH152, zH152, mH152, tH152⟩), hfH152⟩
                  · refine h_rng (fun hrg155 => ?_)
                    have hf156 : fr [50, 51, 53, 76, 93, 97] [1847, 1852, 1853, 1855, 1856, 1873, 1874, 1878, 1884, 1886] H H152 := fr_t hf148 hfH152 (by decide) (by decide)
                    have hOSH152 : OS H H152 n := OS_fr hOSH143 hfH152 (by decide) (by decide) (by decide)
                    have hooH152 : (H152.1 1871) 0 = (o : Int) := (congrFun (hfH152.2.1 1871 (by decide) (by decide)) 0).trans hooH143
                    refine h_run 0 (pc' := 182) (l' := [(0, .inr (.inr 1826)), (1, .inl (l : Int)), (2, .inl bk), (3, .inl (s : Int)), (4, .inl (q : Int)), (5, .inl (wi : Int)), (6, .inl (o : Int)), (7, .inl (wi : Int)), (8, .inl (a9 : Int)), (9, .inl (b9 : Int))]) (st' := [.inl 0]) rfl ?_
                    refine h_zeq (off := 7) (t := 189) rfl rfl (by decide) (fun _ => ?_) (fun c => absurd c (by decide))
                    refine h_run 4 (pc' := 194) (l' := [(0, .inr (.inr 1826)), (1, .inl (l : Int)), (2, .inl bk), (3, .inl (s : Int)), (4, .inl (q : Int)), (5, .inl (wi : Int)), (6, .inl (o : Int)), (7, .inl (wi : Int)), (8, .inl (a9 : Int)), (9, .inl (b9 : Int)), (10, .inl 0)]) (st' := [.inl (-1), .inr (.inr 1826)]) rfl ?_
                    refine h_puti (i := 202) (ci := 13) (k := 97) (a := 1826) (x := (-1)) rfl rfl rfl rfl rfl rfl (by decide) (by decide) ?_
                    refine h_run 1 (pc' := 199) (l' := [(0, .inr (.inr 1826)), (1, .inl (l : Int)), (2, .inl bk), (3, .inl (s : Int)), (4, .inl (q : Int)), (5, .inl (wi : Int)), (6, .inl (o : Int)), (7, .inl (wi : Int)), (8, .inl (a9 : Int)), (9, .inl (b9 : Int)), (10, .inl 0)]) (st' := [.inl 0]) rfl ?_
                    refine h_zne (off := 8) (t := 207) rfl rfl (by decide) (fun c => absurd c (by decide)) (fun _ => ?_)
                    refine h_run 2 (pc' := 226) (l' := [(0, .inr (.inr 1826)), (1, .inl (l : Int)), (2, .inl bk), (3, .inl (s : Int)), (4, .inl (q : Int)), (5, .inl (wi : Int)), (6, .inl (o : Int)), (7, .inl (wi : Int)), (8, .inl (a9 : Int)), (9, .inl (b9 : Int)), (10, .inl 0)]) (st' := [.inl (-104)]) rfl ?_
                    refine h_reti (x := (-104)) rfl rfl ?_
                    exact ⟨(fr_o hf156 (by decide)), (show (-1 : Int) = -1 by omega), (OS_fr hOSH152 (show fr [97] [] H152 (zu H152 1826 (up (H152.1 1826) 97 (-1))) from (fr_o (fr_rf _ _ _) (by decide))) (by decide) (by decide) (by decide)), _, rfl, by omega, by omega⟩
                  · refine h_rng (fun hrg157 => ?_)
                    have hf158 : fr [50, 51, 53, 76, 93, 97] [1847, 1852, 1853, 1855, 1856, 1873, 1874, 1878, 1884, 1886] H H152 := fr_t hf148 hfH152 (by decide) (by decide)
                    have hOSH152 : OS H H152 n := OS_fr hOSH143 hfH152 (by decide) (by decide) (by decide)
                    have hooH152 : (H152.1 1871) 0 = (o : Int) := (congrFun (hfH152.2.1 1871 (by decide) (by decide)) 0).trans hooH143
                    have tdH152 : tm (ma (H.1 1833) (H.1 1830)) (m_sg (H.1 1826 3) (H.1 1826 8) 60) (H152.1 1856) MH152 0 1 := by have h9 := tH152; rw [hQk.1, hQk.2.1, hQk.2.2.1, hQk.2.2.2] at h9; exact h9
                    refine h_run 0 (pc' := 182) (l' := [(0, .inr (.inr 1826)), (1, .inl (l : Int)), (2, .inl bk), (3, .inl (s : Int)), (4, .inl (q : Int)), (5, .inl (wi : Int)), (6, .inl (o : Int)), (7, .inl (wi : Int)), (8, .inl (a9 : Int)), (9, .inl (b9 : Int))]) (st' := [.inl 1]) rfl ?_
                    refine h_zeq (off := 7) (t := 189) rfl rfl (by decide) (fun c => absurd c (by decide)) (fun _ => ?_)
                    refine h_run 5 (pc' := 194) (l' := [(0, .inr (.inr 1826)), (1, .inl (l : Int)), (2, .inl bk), (3, .inl (s : Int)), (4, .inl (q : Int)), (5, .inl (wi : Int)), (6, .inl (o : Int)), (7, .inl (wi : Int)), (8, .inl (a9 : Int)), (9, .inl (b9 : Int)), (10, .inl 1)]) (st' := [.inl (-1), .inr (.inr 1826)]) rfl ?_
                    refine h_puti (i := 202) (ci := 13) (k := 97) (a := 1826) (x := (-1)) rfl rfl rfl rfl rfl rfl (by decide) (by decide) ?_
                    refine h_run 1 (pc' := 199) (l' := [(0, .inr (.inr 1826)), (1, .inl (l : Int)), (2, .inl bk), (3, .inl (s : Int)), (4, .inl (q : Int)), (5, .inl (wi : Int)), (6, .inl (o : Int)), (7, .inl (wi : Int)), (8, .inl (a9 : Int)), (9, .inl (b9 : Int)), (10, .inl 1)]) (st' := [.inl 1]) rfl ?_
                    refine h_zne (off := 8) (t := 207) rfl rfl (by decide) (fun _ => ?_) (fun c => absurd c (by decide))
                    refine h_run 3 (pc' := 211) (l' := [(0, .inr (.inr 1826)), (1, .inl (l : Int)), (2, .inl bk), (3, .inl (s : Int)), (4, .inl (q : Int)), (5, .inl (wi : Int)), (6, .inl (o : Int)), (7, .inl (wi : Int)), (8, .inl (a9 : Int)), (9, .inl (b9 : Int)), (10, .inl 1)]) (st' := [.inl (s : Int), .inl (o : Int), .inr (.inr 1826)]) rfl ?_
                    refine h_cv (i := 575) (j := 229) (b := 1826) (M' := mt_229) (xs := [.inl (s : Int), .inl (o : Int)]) (rest := []) rfl rfl rfl rfl rfl rfl (Nat.le_of_ble_eq_true rfl) (Nat.le_of_ble_eq_true rfl) (by omega) (m_isKept (M := MH152) (by omega) (by omega) ⟨zH152, mH152⟩) ?_
                    rintro _ H159 (⟨rfl, hxH159, rfl⟩ | ⟨rfl, hlH159, hfH159, hzH159, hcH159, hoH159⟩)
                    · refine h_run 0 (pc' := 214) (l' := [(0, .inr (.inr 1826)), (1, .inl (l : Int)), (2, .inl bk), (3, .inl (s : Int)), (4, .inl (q : Int)), (5, .inl (wi : Int)), (6, .inl (o : Int)), (7, .inl (wi : Int)), (8, .inl (a9 : Int)), (9, .inl (b9 : Int)), (10, .inl 1)]) (st' := [.inl 0]) rfl ?_
                      refine h_zeq (off := 10) (t := 224) rfl rfl (by decide) (fun _ => ?_) (fun c => absurd c (by decide))
                      refine h_run 1 (pc' := 226) (l' := [(0, .inr (.inr 1826)), (1, .inl (l : Int)), (2, .inl bk), (3, .inl (s : Int)), (4, .inl (q : Int)), (5, .inl (wi : Int)), (6, .inl (o : Int)), (7, .inl (wi : Int)), (8, .inl (a9 : Int)), (9, .inl (b9 : Int)), (10, .inl 1)]) (st' := [.inl (-105)]) rfl ?_
                      refine h_reti (x := (-105)) rfl rfl ?_
                      exact ⟨(fr_o hf158 (by decide)), (show (-1 : Int) = -1 by omega), (OS_fr hOSH152 (show fr [97] [] H152 (zu H152 1826 (up (H152.1 1826) 97 (-1))) from (fr_o (fr_rf _ _ _) (by decide))) (by decide) (by decide) (by decide)), _, rfl, by omega, by omega⟩
                    · refine h_rng (fun hrg160 => ?_)
                      have hf161 : fr [50, 51, 53, 76, 93, 97] [1847, 1852, 1853, 1855, 1856, 1873, 1874, 1878, 1884, 1886] H H159 := fr_t (fr_o hf158 (by decide)) hfH159 (by decide) (by decide)
                      have hOSH159 : OS H H159 n := OS_side (OS_fr hOSH152 (show fr [97] [] H152 (zu H152 1826 (up (H152.1 1826) 97 (-1))) from (fr_o (fr_rf _ _ _) (by decide))) (by decide) (by decide) (by decide)) hooH152 hfH159 hs hlH159 hzH159 hcH159 hoH159 tdH152
                      have hooH159 : (H159.1 1871) 0 = (o : Int) := (congrFun (hfH159.2.1 1871 (by decide) (by decide)) 0).trans hooH152
                      refine h_run 0 (pc' := 214) (l' := [(0, .inr (.inr 1826)), (1, .inl (l : Int)), (2, .inl bk), (3, .inl (s : Int)), (4, .inl (q : Int)), (5, .inl (wi : Int)), (6, .inl (o : Int)), (7, .inl (wi : Int)), (8, .inl (a9 : Int)), (9, .inl (b9 : Int)), (10, .inl 1)]) (st' := [.inl 1]) rfl ?_
                      refine h_zeq (off := 10) (t := 224) rfl rfl (by decide) (fun c => absurd c (by decide)) (fun _ => ?_)
                      refine h_run 1 (pc' := 218) (l' := [(0, .inr (.inr 1826)), (1, .inl (l : Int)), (2, .inl bk), (3, .inl (s : Int)), (4, .inl (q : Int)), (5, .inl (wi : Int)), (6, .inl (o : Int)), (7, .inl (wi : Int)), (8, .inl (a9 : Int)), (9, .inl (b9 : Int)), (10, .inl 1)]) (st' := [.inr (.inr 1826)]) rfl ?_
                      refine h_cv (i := 556) (j := 232) (b := 1826) (M' := mt_232) (xs := []) (rest := []) rfl rfl rfl rfl rfl rfl (Nat.le_of_ble_eq_true rfl) (Nat.le_of_ble_eq_true rfl) (by omega) (m_did (n := n) (by omega) hOSH159.1.1 (fun q9 => absurd q9 (by omega)) (by rw [show (H159.1 1871) 0 = (o : Int) from hooH159]; omega)) ?_
                      rintro _ H162 ⟨rfl, hfH162⟩
                      refine h_rng (fun hrg163 => ?_)
                      have hf164 : fr [50, 51, 53, 76, 93, 97] [1847, 1852, 1853, 1855, 1856, 1873, 1874, 1878, 1884, 1886] H H162 := fr_t hf161 hfH162 (by decide) (by decide)
                      have hOSH162 : OS H H162 n := OS_fr hOSH159 hfH162 (by decide) (by decide) (by decide)
                      have hooH162 : (H162.1 1871) 0 = (o : Int) := (congrFun (hfH162.2.1 1871 (by decide) (by decide)) 0).trans hooH159
                      refine h_run 0 (pc' := 221) (l' := [(0, .inr (.inr 1826)), (1, .inl (l : Int)), (2, .inl bk), (3, .inl (s : Int)), (4, .inl (q : Int)), (5, .inl (wi : Int)), (6, .inl (o : Int)), (7, .inl (wi : Int)), (8, .inl (a9 : Int)), (9, .inl (b9 : Int)), (10, .inl 1)]) (st' := [.inl (n : Int)]) rfl ?_
                      refine h_run 1 (pc' := 226) (l' := [(0, .inr (.inr 1826)), (1, .inl (l : Int)), (2, .inl bk), (3, .inl (s : Int)), (4, .inl (q : Int)), (5, .inl (wi : Int)), (6, .inl (o : Int)), (7, .inl (wi : Int)), (8, .inl (a9 : Int)), (9, .inl (b9 : Int)), (10, .inl 1)]) (st' := [.inl (n : Int)]) rfl ?_
                      refine h_reti (x := (n : Int)) rfl rfl ?_
                      have g165 : -2147483648 ≤ (H162.1 1826 97) ∧ (H162.1 1826 97) ≤ 2147483647 := hrg163.1 1826 13 97 _ .int rfl rfl
                      have e166 : (H162.1 1826 97) = (H159.1 1826 97) := hfH162.2.2 97 (by decide)
                      have e167 : (H159.1 1826 97) = (-1) := hfH159.2.2 97 (by decide)
                      exact ⟨hf164, (show (H162.1 1826 97) = -1 by omega), hOSH162, _, rfl, by omega, by omega⟩
              · refine h_run 2 (pc' := 151) (l' := [(0, .inr (.inr 1826)), (1, .inl (l : Int)), (2, .inl bk), (3, .inl (s : Int)), (4, .inl (q : Int)), (5, .inl (wi : Int)), (6, .inl (o : Int)), (7, .inl (wi : Int)), (8, .inl (a9 : Int)), (9, .inl (b9 : Int))]) (st' := [.inl 1, .inl (H6.1 1875 o), .inl (wi : Int), .inl 1000, .inl (k0 : Int), .inl (48 * (a9 : Int)), .inr (.inr 1842), .inr (.inr 1826)]) rfl ?_
                have g169 : -2147483648 ≤ (H6.1 1826 93) ∧ (H6.1 1826 93) ≤ 2147483647 := hrg7.1 1826 13 93 _ .int rfl rfl
                have hQl : sP H (zu H6 1826 (up (H6.1 1826) 97 (l : Int))) := sP_fr (sP_rf H) (fr_o hf8 (by decide)) (by decide) (by decide)
                have hPl : PWc (zu H6 1826 (up (H6.1 1826) 97 (l : Int))) := PWc_fr hP (fr_o hf8 (by decide)) (by decide) (by decide)
                refine h_cv (i := 593) (j := 239) (b := 1826) (M' := mt_239) (xs := [.inl 1, .inl (H6.1 1875 o), .inl (wi : Int), .inl 1000, .inl (k0 : Int), .inl (48 * (a9 : Int)), .inr (.inr 1842)]) (rest := []) rfl rfl rfl rfl rfl rfl (Nat.le_of_ble_eq_true rfl) (Nat.le_of_ble_eq_true rfl) (by omega) (m_isLike (p := (48 * a9)) (ln := k0) (N := N) (k := ki) (V := 6) (okp := (m_sg (H.1 1826 3) (H.1 1826 8) (vn : Nat))) (by omega) rfl (by decide) (by decide) hPl (by rw [hQl.1, hQl.2.1, hQl.2.2.1, hQl.2.2.2]; exact hTn) ⟨by omega, (show (H6.1 1826 93) = (N : Int) by omega)⟩ (by rw [hQl.1, hQl.2.1, hQl.2.2.1, hQl.2.2.2]; exact hTi) (by omega) (by rw [hQl.1, hQl.2.1]; exact (by show tm _ _ (H6.1 1842) _ _ 1; rw [show (H6.1 1842) = (H.1 1842) from hfH6.2.1 1842 (by decide) (by decide), ha9]; exact k03)) (show 48 * a9 + k0 ≤ 1536 ∧ k0 ≤ 60 by omega) (by omega) (Or.inr (show 0 ≤ (l : Int) ∧ (l : Int) ≤ 15 ∧ 6 ≤ 6 by omega)) (fun s9 h9 => by unfold m_sg at h9; omega) (by omega)) ?_
                rintro _ H168 ⟨(rfl | ⟨rfl, xH168⟩), hfH168⟩
                · refine h_rng (fun hrg170 => ?_)
                  have hf171 : fr [50, 51, 53, 76, 93, 97] [1847, 1852, 1853, 1855, 1856, 1873, 1874, 1878, 1884, 1886] H H168 := fr_t (fr_o hf8 (by decide)) hfH168 (by decide) (by decide)
                  have hOSH168 : OS H H168 n := OS_fr (OS_fr hOSH6 (show fr [97] [] H6 (zu H6 1826 (up (H6.1 1826) 97 (l : Int))) from (fr_o (fr_rf _ _ _) (by decide))) (by decide) (by decide) (by decide)) hfH168 (by decide) (by decide) (by decide)
                  have hooH168 : (H168.1 1871) 0 = (o : Int) := (congrFun (hfH168.2.1 1871 (by decide) (by decide)) 0).trans hooH6
                  refine h_run 0 (pc' := 154) (l' := [(0, .inr (.inr 1826)), (1, .inl (l : Int)), (2, .inl bk), (3, .inl (s : Int)), (4, .inl (q : Int)), (5, .inl (wi : Int)), (6, .inl (o : Int)), (7, .inl (wi : Int)), (8, .inl (a9 : Int)), (9, .inl (b9 : Int))]) (st' := [.inl 0]) rfl ?_
                  refine h_zeq (off := 35) (t := 189) rfl rfl (by decide) (fun _ => ?_) (fun c => absurd c (by decide))
                  refine h_run 4 (pc' := 194) (l' := [(0, .inr (.inr 1826)), (1, .inl (l : Int)), (2, .inl bk), (3, .inl (s : Int)), (4, .inl (q : Int)), (5, .inl (wi : Int)), (6, .inl (o : Int)), (7, .inl (wi : Int)), (8, .inl (a9 : Int)), (9, .inl (b9 : Int)), (10, .inl 0)]) (st' := [.inl (-1), .inr (.inr 1826)]) rfl ?_
                  refine h_puti (i := 202) (ci := 13) (k := 97) (a := 1826) (x := (-1)) rfl rfl rfl rfl rfl rfl (by decide) (by decide) ?_
                  refine h_run 1 (pc' := 199) (l' := [(0, .inr (.inr 1826)), (1, .inl (l : Int)), (2, .inl bk), (3, .inl (s : Int)), (4, .inl (q : Int)), (5, .inl (wi : Int)), (6, .inl (o : Int)), (7, .inl (wi : Int)), (8, .inl (a9 : Int)), (9, .inl (b9 : Int)), (10, .inl 0)]) (st' := [.inl 0]) rfl ?_
                  refine h_zne (off := 8) (t := 207) rfl rfl (by decide) (fun c => absurd c (by decide)) (fun _ => ?_)
                  refine h_run 2 (pc' := 226) (l' := [(0, .inr (.inr 1826)), (1, .inl (l : Int)), (2, .inl bk), (3, .inl (s : Int)), (4, .inl (q : Int)), (5, .inl (wi : Int)), (6, .inl (o : Int)), (7, .inl (wi : Int)), (8, .inl (a9 : Int)), (9, .inl (b9 : Int)), (10, .inl 0)]) (st' := [.inl (-104)]) rfl ?_
                  refine h_reti (x := (-104)) rfl rfl ?_
                  exact ⟨(fr_o hf171 (by decide)), (show (-1 : Int) = -1 by omega), (OS_fr hOSH168 (show fr [97] [] H168 (zu H168 1826 (up (H168.1 1826) 97 (-1))) from (fr_o (fr_rf _ _ _) (by decide))) (by decide) (by decide) (by decide)), _, rfl, by omega, by omega⟩
                · refine h_rng (fun hrg172 => ?_)
                  have hf173 : fr [50, 51, 53, 76, 93, 97] [1847, 1852, 1853, 1855, 1856, 1873, 1874, 1878, 1884, 1886] H H168 := fr_t (fr_o hf8 (by decide)) hfH168 (by decide) (by decide)
                  have hOSH168 : OS H H168 n := OS_fr (OS_fr hOSH6 (show fr [97] [] H6 (zu H6 1826 (up (H6.1 1826) 97 (l : Int))) from (fr_o (fr_rf _ _ _) (by decide))) (by decide) (by decide) (by decide)) hfH168 (by decide) (by decide) (by decide)
                  have hooH168 : (H168.1 1871) 0 = (o : Int) := (congrFun (hfH168.2.1 1871 (by decide) (by decide)) 0).trans hooH6
                  have eNH168 : (H168.1 1884) = (H6.1 1884) := hfH168.2.1 1884 (by decide) (by decide)
                  have yH168 : fre (ma (H.1 1833) (H.1 1830)) (m_sg (H.1 1826 3) (H.1 1826 8) 60) (H168.1 1884) (H168.1 1886) N := by have h9 := xH168; rw [hQl.1, hQl.2.1, hQl.2.2.1, hQl.2.2.2] at h9; rw [eNH168]; exact h9
                  have hTnH168 : tm (ma (H.1 1833) (H.1 1830)) (m_sg (H.1 1826 3) (H.1 1826 8) 60) (H168.1 1884) N 0 1 := by rw [eNH168]; exact hTn
                  have hTiH168 : tm (ma (H.1 1833) (H.1 1830)) (m_sg (H.1 1826 3) (H.1 1826 8) 60) (H168.1 1884) ki wi 1 := by rw [eNH168]; exact hTi
                  refine h_run 0 (pc' := 154) (l' := [(0, .inr (.inr 1826)), (1, .inl (l : Int)), (2, .inl bk), (3, .inl (s : Int)), (4, .inl (q : Int)), (5, .inl (wi : Int)), (6, .inl (o : Int)), (7, .inl (wi : Int)), (8, .inl (a9 : Int)), (9, .inl (b9 : Int))]) (st' := [.inl 1]) rfl ?_
                  refine h_zeq (off := 35) (t := 189) rfl rfl (by decide) (fun c => absurd c (by decide)) (fun _ => ?_)
                  refine h_run 9 (pc' := 173) (l' := [(0, .inr (.inr 1826)), (1, .inl (l : Int)), (2, .inl bk), (3, .inl (s : Int)), (4, .inl (q : Int)), (5, .inl (wi : Int)), (6, .inl (o : Int)), (7, .inl (wi : Int)), (8, .inl (a9 : Int)), (9, .inl (b9 : Int))]) (st' := [.inl (b9 : Int), .inr (.inr 1843), .inl (48 * (b9 : Int)), .inr (.inr 1842), .inr (.inr 1826)]) rfl ?_
                  refine h_ild (c := 1843) (j := b9) (i := (b9 : Int)) rfl rfl (by decide) rfl (by omega) ?_
                  have g174 : -2147483648 ≤ (H168.1 1843 b9) ∧ (H168.1 1843 b9) ≤ 2147483647 := hrg172.2 1843 b9 32 .int rfl (by omega)
                  have e175 : (H168.1 1843 b9) = (H6.1 1843 b9) := congrFun (hfH168.2.1 1843 (by decide) (by decide)) b9
                  have e176 : (H6.1 1843 b9) = (H.1 1843 b9) := congrFun (hfH6.2.1 1843 (by decide) (by decide)) b9
                  refine h_run 0 (pc' := 174) (l' := [(0, .inr (.inr 1826)), (1, .inl (l : Int)), (2, .inl bk), (3, .inl (s : Int)), (4, .inl (q : Int)), (5, .inl (wi : Int)), (6, .inl (o : Int)), (7, .inl (wi : Int)), (8, .inl (a9 : Int)), (9, .inl (b9 : Int))]) (st' := [.inl (H168.1 1843 b9), .inl (48 * (b9 : Int)), .inr (.inr 1842), .inr (.inr 1826)]) rfl ?_
                  have hszb9 : (H168.1 1843) b9 = (k1 : Int) := by rw [show (H168.1 1843) = (H6.1 1843) from hfH168.2.1 1843 (by decide) (by decide), show (H6.1 1843) = (H.1 1843) from hfH6.2.1 1843 (by decide) (by decide), hb9]; exact k11
                  rw [show (H168.1 1843 b9) = (k1 : Int) by omega]
                  refine h_run 2 (pc' := 179) (l' := [(0, .inr (.inr 1826)), (1, .inl (l : Int)), (2, .inl bk), (3, .inl (s : Int)), (4, .inl (q : Int)), (5, .inl (wi : Int)), (6, .inl (o : Int)), (7, .inl (wi : Int)), (8, .inl (a9 : Int)), (9, .inl (b9 : Int))]) (st' := [.inl (wi : Int), .inl 1000, .inl (k1 : Int), .inl (48 * (b9 : Int)), .inr (.inr 1842), .inr (.inr 1826)]) rfl ?_
                  have g178 : -2147483648 ≤ (H168.1 1826 93) ∧ (H168.1 1826 93) ≤ 2147483647 := hrg172.1 1826 13 93 _ .int rfl rfl
                  have e179 : (H168.1 1826 93) = (H6.1 1826 93) := hfH168.2.2 93 (by decide)
                  have hQk : sP H H168 := sP_fr (sP_rf H) hf173 (by decide) (by decide)
                  have hPk : PWc H168 := PWc_fr hP hf173 (by decide) (by decide)
                  refine h_cv (i := 597) (j := 242) (b := 1826) (M' := mt_242) (xs := [.inl (wi : Int), .inl 1000, .inl (k1 : Int), .inl (48 * (b9 : Int)), .inr (.inr 1842)]) (rest := []) rfl rfl rfl rfl rfl rfl (Nat.le_of_ble_eq_true rfl) (Nat.le_of_ble_eq_true rfl) (by omega) (m_isMade (p := (48 * b9)) (ln := k1) (N := N) (k := ki) (okp := (m_sg (H.1 1826 3) (H.1 1826 8) (vn : Nat))) (by omega) rfl (by decide) (by decide) hPk (by rw [hQk.1, hQk.2.1, hQk.2.2.1, hQk.2.2.2]; exact hTnH168) ⟨by omega, (show (H168.1 1826 93) = (N : Int) by omega)⟩ (by rw [hQk.1, hQk.2.1, hQk.2.2.1, hQk.2.2.2]; exact hTiH168) (by omega) (by rw [hQk.1, hQk.2.1]; exact (by show tm _ _ (H168.1 1842) _ _ 1; rw [show (H168.1 1842) = (H6.1 1842) from hfH168.2.1 1842 (by decide) (by decide), show (H6.1 1842) = (H.1 1842) from hfH6.2.1 1842 (by decide) (by decide), hb9]; exact k13)) (show 48 * b9 + k1 ≤ 1536 ∧ k1 ≤ 60 by omega) (by omega) (by rw [hQk.2.2.1, hQk.2.2.2]; exact (fun s9 h9 => by unfold m_sg at *; omega)) (by rw [hQk.1, hQk.2.1, hQk.2.2.1, hQk.2.2.2]; exact yH168)) ?_
                  rintro _ H177 ⟨(rfl | ⟨rfl, MH177, zH177, mH177, tH177⟩), hfH177⟩
                  · refine h_rng (fun hrg180 => ?_)
                    have hf181 : fr [50, 51, 53, 76, 93, 97] [1847, 1852, 1853, 1855, 1856, 1873, 1874, 1878, 1884, 1886] H H177 := fr_t hf173 hfH177 (by decide) (by decide)
                    have hOSH177 : OS H H177 n := OS_fr hOSH168 hfH177 (by decide) (by decide) (by decide)
                    have hooH177 : (H177.1 1871) 0 = (o : Int) := (congrFun (hfH177.2.1 1871 (by decide) (by decide)) 0).trans hooH168
                    refine h_run 0 (pc' := 182) (l' := [(0, .inr (.inr 1826)), (1, .inl (l : Int)), (2, .inl bk), (3, .inl (s : Int)), (4, .inl (q : Int)), (5, .inl (wi : Int)), (6, .inl (o : Int)), (7, .inl (wi : Int)), (8, .inl (a9 : Int)), (9, .inl (b9 : Int))]) (st' := [.inl 0]) rfl ?_
                    refine h_zeq (off := 7) (t := 189) rfl rfl (by decide) (fun _ => ?_) (fun c => absurd c (by decide))
                    refine h_run 4 (pc' := 194) (l' := [(0, .inr (.inr 1826)), (1, .inl (l : Int)), (2, .inl bk), (3, .inl (s : Int)), (4, .inl (q : Int)), (5, .inl (wi : Int)), (6, .inl (o : Int)), (7, .inl (wi : Int)), (8, .inl (a9 : Int)), (9, .inl (b9 : Int)), (10, .inl 0)]) (st' := [.inl (-1), .inr (.inr 1826)]) rfl ?_
                    refine h_puti (i := 202) (ci := 13) (k := 97) (a := 1826) (x := (-1)) rfl rfl rfl rfl rfl rfl (by decide) (by decide) ?_
                    refine h_run 1 (pc' := 199) (l' := [(0, .inr (.inr 1826)), (1, .inl (l : Int)), (2, .inl bk), (3, .inl (s : Int)), (4, .inl (q : Int)), (5, .inl (wi : Int)), (6, .inl (o : Int)), (7, .inl (wi : Int)), (8, .inl (a9 : Int)), (9, .inl (b9 : Int)), (10, .inl 0)]) (st' := [.inl 0]) rfl ?_
                    refine h_zne (off := 8) (t := 207) rfl rfl (by decide) (fun c => absurd c (by decide)) (fun _ => ?_)
                    refine h_run 2 (pc' := 226) (l' := [(0, .inr (.inr 1826)), (1, .inl (l : Int)), (2, .inl bk), (3, .inl (s : Int)), (4, .inl (q : Int)), (5, .inl (wi : Int)), (6, .inl (o : Int)), (7, .inl (wi : Int)), (8, .inl (a9 : Int)), (9, .inl (b9 : Int)), (10, .inl 0)]) (st' := [.inl (-104)]) rfl ?_
                    refine h_reti (x := (-104)) rfl rfl ?_
                    exact ⟨(fr_o hf181 (by decide)), (show (-1 : Int) = -1 by omega), (OS_fr hOSH177 (show fr [97] [] H177 (zu H177 1826 (up (H177.1 1826) 97 (-1))) from (fr_o (fr_rf _ _ _) (by decide))) (by decide) (by decide) (by decide)), _, rfl, by omega, by omega⟩
                  · refine h_rng (fun hrg182 => ?_)
                    have hf183 : fr [50, 51, 53, 76, 93, 97] [1847, 1852, 1853, 1855, 1856, 1873, 1874, 1878, 1884, 1886] H H177 := fr_t hf173 hfH177 (by decide) (by decide)
                    have hOSH177 : OS H H177 n := OS_fr hOSH168 hfH177 (by decide) (by decide) (by decide)
                    have hooH177 : (H177.1 1871) 0 = (o : Int) := (congrFun (hfH177.2.1 1871 (by decide) (by decide)) 0).trans hooH168
                    have tdH177 : tm (ma (H.1 1833) (H.1 1830)) (m_sg (H.1 1826 3) (H.1 1826 8) 60) (H177.1 1856) MH177 0 1 := by have h9 := tH177; rw [hQk.1, hQk.2.1, hQk.2.2.1, hQk.2.2.2] at h9; exact h9
                    refine h_run 0 (pc' := 182) (l' := [(0, .inr (.inr 1826)), (1, .inl (l : Int)), (2, .inl bk), (3, .inl (s : Int)), (4, .inl (q : Int)), (5, .inl (wi : Int)), (6, .inl (o : Int)), (7, .inl (wi : Int)), (8, .inl (a9 : Int)), (9, .inl (b9 : Int))]) (st' := [.inl 1]) rfl ?_
                    refine h_zeq (off := 7) (t := 189) rfl rfl (by decide) (fun c => absurd c (by decide)) (fun _ => ?_)
                    refine h_run 5 (pc' := 194) (l' := [(0, .inr (.inr 1826)), (1, .inl (l : Int)), (2, .inl bk), (3, .inl (s : Int)), (4, .inl (q : Int)), (5, .inl (wi : Int)), (6, .inl (o : Int)), (7, .inl (wi : Int)), (8, .inl (a9 : Int)), (9, .inl (b9 : Int)), (10, .inl 1)]) (st' := [.inl (-1), .inr (.inr 1826)]) rfl ?_
                    refine h_puti (i := 202) (ci := 13) (k := 97) (a := 1826) (x := (-1)) rfl rfl rfl rfl rfl rfl (by decide) (by decide) ?_
                    refine h_run 1 (pc' := 199) (l' := [(0, .inr (.inr 1826)), (1, .inl (l : Int)), (2, .inl bk), (3, .inl (s : Int)), (4, .inl (q : Int)), (5, .inl (wi : Int)), (6, .inl (o : Int)), (7, .inl (wi : Int)), (8, .inl (a9 : Int)), (9, .inl (b9 : Int)), (10, .inl 1)]) (st' := [.inl 1]) rfl ?_
                    refine h_zne (off := 8) (t := 207) rfl rfl (by decide) (fun _ => ?_) (fun c => absurd c (by decide))
                    refine h_run 3 (pc' := 211) (l' := [(0, .inr (.inr 1826)), (1, .inl (l : Int)), (2, .inl bk), (3, .inl (s : Int)), (4, .inl (q : Int)), (5, .inl (wi : Int)), (6, .inl (o : Int)), (7, .inl (wi : Int)), (8, .inl (a9 : Int)), (9, .inl (b9 : Int)), (10, .inl 1)]) (st' := [.inl (s : Int), .inl (o : Int), .inr (.inr 1826)]) rfl ?_
                    refine h_cv (i := 575) (j := 229) (b := 1826) (M' := mt_229) (xs := [.inl (s : Int), .inl (o : Int)]) (rest := []) rfl rfl rfl rfl rfl rfl (Nat.le_of_ble_eq_true rfl) (Nat.le_of_ble_eq_true rfl) (by omega) (m_isKept (M := MH177) (by omega) (by omega) ⟨zH177, mH177⟩) ?_
                    rintro _ H184 (⟨rfl, hxH184, rfl⟩ | ⟨rfl, hlH184, hfH184, hzH184, hcH184, hoH184⟩)
                    · refine h_run 0 (pc' := 214) (l' := [(0, .inr (.inr 1826)), (1, .inl (l : Int)), (2, .inl bk), (3, .inl (s : Int)), (4, .inl (q : Int)), (5, .inl (wi : Int)), (6, .inl (o : Int)), (7, .inl (wi : Int)), (8, .inl (a9 : Int)), (9, .inl (b9 : Int)), (10, .inl 1)]) (st' := [.inl 0]) rfl ?_
                      refine h_zeq (off := 10) (t := 224) rfl rfl (by decide) (fun _ => ?_) (fun c => absurd c (by decide))
                      refine h_run 1 (pc' := 226) (l' := [(0, .inr (.inr 1826)), (1, .inl (l : Int)), (2, .inl bk), (3, .inl (s : Int)), (4, .inl (q : Int)), (5, .inl (wi : Int)), (6, .inl (o : Int)), (7, .inl (wi : Int)), (8, .inl (a9 : Int)), (9, .inl (b9 : Int)), (10, .inl 1)]) (st' := [.inl (-105)]) rfl ?_
                      refine h_reti (x := (-105)) rfl rfl ?_
                      exact ⟨(fr_o hf183 (by decide)), (show (-1 : Int) = -1 by omega), (OS_fr hOSH177 (show fr [97] [] H177 (zu H177 1826 (up (H177.1 1826) 97 (-1))) from (fr_o (fr_rf _ _ _) (by decide))) (by decide) (by decide) (by decide)), _, rfl, by omega, by omega⟩
                    · refine h_rng (fun hrg185 => ?_)
                      have hf186 : fr [50, 51, 53, 76, 93, 97] [1847, 1852, 1853, 1855, 1856, 1873, 1874, 1878, 1884, 1886] H H184 := fr_t (fr_o hf183 (by decide)) hfH184 (by decide) (by decide)
                      have hOSH184 : OS H H184 n := OS_side (OS_fr hOSH177 (show fr [97] [] H177 (zu H177 1826 (up (H177.1 1826) 97 (-1))) from (fr_o (fr_rf _ _ _) (by decide))) (by decide) (by decide) (by decide)) hooH177 hfH184 hs hlH184 hzH184 hcH184 hoH184 tdH177
                      have hooH184 : (H184.1 1871) 0 = (o : Int) := (congrFun (hfH184.2.1 1871 (by decide) (by decide)) 0).trans hooH177
                      refine h_run 0 (pc' := 214) (l' := [(0, .inr (.inr 1826)), (1, .inl (l : Int)), (2, .inl bk), (3, .inl (s : Int)), (4, .inl (q : Int)), (5, .inl (wi : Int)), (6, .inl (o : Int)), (7, .inl (wi : Int)), (8, .inl (a9 : Int)), (9, .inl (b9 : Int)), (10, .inl 1)]) (st' := [.inl 1]) rfl ?_
                      refine h_zeq (off := 10) (t := 224) rfl rfl (by decide) (fun c => absurd c (by decide)) (fun _ => ?_)
                      refine h_run 1 (pc' := 218) (l' := [(0, .inr (.inr 1826)), (1, .inl (l : Int)), (2, .inl bk), (3, .inl (s : Int)), (4, .inl (q : Int)), (5, .inl (wi : Int)), (6, .inl (o : Int)), (7, .inl (wi : Int)), (8, .inl (a9 : Int)), (9, .inl (b9 : Int)), (10, .inl 1)]) (st' := [.inr (.inr 1826)]) rfl ?_
                      refine h_cv (i := 556) (j := 232) (b := 1826) (M' := mt_232) (xs := []) (rest := []) rfl rfl rfl rfl rfl rfl (Nat.le_of_ble_eq_true rfl) (Nat.le_of_ble_eq_true rfl) (by omega) (m_did (n := n) (by omega) hOSH184.1.1 (fun q9 => absurd q9 (by omega)) (by rw [show (H184.1 1871) 0 = (o : Int) from hooH184]; omega)) ?_
                      rintro _ H187 ⟨rfl, hfH187⟩
                      refine h_rng (fun hrg188 => ?_)
                      have hf189 : fr [50, 51, 53, 76, 93, 97] [1847, 1852, 1853, 1855, 1856, 1873, 1874, 1878, 1884, 1886] H H187 := fr_t hf186 hfH187 (by decide) (by decide)
                      have hOSH187 : OS H H187 n := OS_fr hOSH184 hfH187 (by decide) (by decide) (by decide)
                      have hooH187 : (H187.1 1871) 0 = (o : Int) := (congrFun (hfH187.2.1 1871 (by decide) (by decide)) 0).trans hooH184
                      refine h_run 0 (pc' := 221) (l' := [(0, .inr (.inr 1826)), (1, .inl (l : Int)), (2, .inl bk), (3, .inl (s : Int)), (4, .inl (q : Int)), (5, .inl (wi : Int)), (6, .inl (o : Int)), (7, .inl (wi : Int)), (8, .inl (a9 : Int)), (9, .inl (b9 : Int)), (10, .inl 1)]) (st' := [.inl (n : Int)]) rfl ?_
                      refine h_run 1 (pc' := 226) (l' := [(0, .inr (.inr 1826)), (1, .inl (l : Int)), (2, .inl bk), (3, .inl (s : Int)), (4, .inl (q : Int)), (5, .inl (wi : Int)), (6, .inl (o : Int)), (7, .inl (wi : Int)), (8, .inl (a9 : Int)), (9, .inl (b9 : Int)), (10, .inl 1)]) (st' := [.inl (n : Int)]) rfl ?_
                      refine h_reti (x := (n : Int)) rfl rfl ?_
                      have g190 : -2147483648 ≤ (H187.1 1826 97) ∧ (H187.1 1826 97) ≤ 2147483647 := hrg188.1 1826 13 97 _ .int rfl rfl
                      have e191 : (H187.1 1826 97) = (H184.1 1826 97) := hfH187.2.2 97 (by decide)
                      have e192 : (H184.1 1826 97) = (-1) := hfH184.2.2 97 (by decide)
                      exact ⟨hf189, (show (H187.1 1826 97) = -1 by omega), hOSH187, _, rfl, by omega, by omega⟩
            · exfalso
              omega
          · refine h_run 3 (pc' := 85) (l' := [(0, .inr (.inr 1826)), (1, .inl (l : Int)), (2, .inl bk), (3, .inl (s : Int)), (4, .inl (q : Int)), (5, .inl (wi : Int)), (6, .inl (o : Int)), (7, .inl (wi : Int))]) (st' := [.inl ((2 * (l : Int)) + 1)]) rfl ?_
            obtain ⟨a9, ha9⟩ : ∃ x9 : Nat, x9 = 2 * l + 1 := ⟨_, rfl⟩
            rw [show ((2 * (l : Int)) + 1) = ((a9 : Nat) : Int) from (by omega)]
            refine h_run 5 (pc' := 91) (l' := [(0, .inr (.inr 1826)), (1, .inl (l : Int)), (2, .inl bk), (3, .inl (s : Int)), (4, .inl (q : Int)), (5, .inl (wi : Int)), (6, .inl (o : Int)), (7, .inl (wi : Int)), (8, .inl (a9 : Int))]) (st' := [.inl bk, .inl (2 * (l : Int))]) rfl ?_
            refine h_zeq (off := 7) (t := 98) rfl rfl (by omega) (fun c193 => ?_) (fun c193 => ?_)
            · exfalso
              omega
            · refine h_run 3 (pc' := 100) (l' := [(0, .inr (.inr 1826)), (1, .inl (l : Int)), (2, .inl bk), (3, .inl (s : Int)), (4, .inl (q : Int)), (5, .inl (wi : Int)), (6, .inl (o : Int)), (7, .inl (wi : Int)), (8, .inl (a9 : Int))]) (st' := [.inl ((2 * (l : Int)) + 0)]) rfl ?_
              obtain ⟨b9, hb9⟩ : ∃ x9 : Nat, x9 = 2 * l + 0 := ⟨_, rfl⟩
              rw [show ((2 * (l : Int)) + 0) = ((b9 : Nat) : Int) from (by omega)]
              refine h_run 3 (pc' := 104) (l' := [(0, .inr (.inr 1826)), (1, .inl (l : Int)), (2, .inl bk), (3, .inl (s : Int)), (4, .inl (q : Int)), (5, .inl (wi : Int)), (6, .inl (o : Int)), (7, .inl (wi : Int)), (8, .inl (a9 : Int)), (9, .inl (b9 : Int))]) (st' := [.inl (l : Int), .inr (.inr 1826)]) rfl ?_
              refine h_puti (i := 202) (ci := 13) (k := 97) (a := 1826) (x := (l : Int)) rfl rfl rfl rfl rfl rfl (by decide) (by omega) ?_
              refine h_run 9 (pc' := 123) (l' := [(0, .inr (.inr 1826)), (1, .inl (l : Int)), (2, .inl bk), (3, .inl (s : Int)), (4, .inl (q : Int)), (5, .inl (wi : Int)), (6, .inl (o : Int)), (7, .inl (wi : Int)), (8, .inl (a9 : Int)), (9, .inl (b9 : Int))]) (st' := [.inl (a9 : Int), .inr (.inr 1843), .inl (48 * (a9 : Int)), .inr (.inr 1842), .inr (.inr 1826)]) rfl ?_
              refine h_ild (c := 1843) (j := a9) (i := (a9 : Int)) rfl rfl (by decide) rfl (by omega) ?_
              have g194 : -2147483648 ≤ (H6.1 1843 a9) ∧ (H6.1 1843 a9) ≤ 2147483647 := hrg7.2 1843 a9 32 .int rfl (by omega)
              have e195 : (H6.1 1843 a9) = (H.1 1843 a9) := congrFun (hfH6.2.1 1843 (by decide) (by decide)) a9
              refine h_run 0 (pc' := 124) (l' := [(0, .inr (.inr 1826)), (1, .inl (l : Int)), (2, .inl bk), (3, .inl (s : Int)), (4, .inl (q : Int)), (5, .inl (wi : Int)), (6, .inl (o : Int)), (7, .inl (wi : Int)), (8, .inl (a9 : Int)), (9, .inl (b9 : Int))]) (st' := [.inl (H6.1 1843 a9), .inl (48 * (a9 : Int)), .inr (.inr 1842), .inr (.inr 1826)]) rfl ?_
              have hsza9 : (H6.1 1843) a9 = (k1 : Int) := by rw [show (H6.1 1843) = (H.1 1843) from hfH6.2.1 1843 (by decide) (by decide), ha9]; exact k11
              rw [show (H6.1 1843 a9) = (k1 : Int) by omega]
              refine h_run 5 (pc' := 135) (l' := [(0, .inr (.inr 1826)), (1, .inl (l : Int)), (2, .inl bk), (3, .inl (s : Int)), (4, .inl (q : Int)), (5, .inl (wi : Int)), (6, .inl (o : Int)), (7, .inl (wi : Int)), (8, .inl (a9 : Int)), (9, .inl (b9 : Int))]) (st' := [.inl (o : Int), .inr (.inr 1875), .inl (wi : Int), .inl 1000, .inl (k1 : Int), .inl (48 * (a9 : Int)), .inr (.inr 1842), .inr (.inr 1826)]) rfl ?_
              refine h_ild (c := 1875) (j := o) (i := (o : Int)) rfl rfl (by decide) rfl (by omega) ?_
              have g196 : -2147483648 ≤ (H6.1 1875 o) ∧ (H6.1 1875 o) ≤ 2147483647 := hrg7.2 1875 o 40 .int rfl (by omega)
              have e197 : (H6.1 1875 o) = (H.1 1875 o) := congrFun (hfH6.2.1 1875 (by decide) (by decide)) o
              refine h_run 0 (pc' := 136) (l' := [(0, .inr (.inr 1826)), (1, .inl (l : Int)), (2, .inl bk), (3, .inl (s : Int)), (4, .inl (q : Int)), (5, .inl (wi : Int)), (6, .inl (o : Int)), (7, .inl (wi : Int)), (8, .inl (a9 : Int)), (9, .inl (b9 : Int))]) (st' := [.inl (H6.1 1875 o), .inl (wi : Int), .inl 1000, .inl (k1 : Int), .inl (48 * (a9 : Int)), .inr (.inr 1842), .inr (.inr 1826)]) rfl ?_
              refine h_run 3 (pc' := 141) (l' := [(0, .inr (.inr 1826)), (1, .inl (l : Int)), (2, .inl bk), (3, .inl (s : Int)), (4, .inl (q : Int)), (5, .inl (wi : Int)), (6, .inl (o : Int)), (7, .inl (wi : Int)), (8, .inl (a9 : Int)), (9, .inl (b9 : Int))]) (st' := [.inl (l : Int), .inr (.inr 1847), .inl (H6.1 1875 o), .inl (wi : Int), .inl 1000, .inl (k1 : Int), .inl (48 * (a9 : Int)), .inr (.inr 1842), .inr (.inr 1826)]) rfl ?_
              refine h_ild (c := 1847) (j := l) (i := (l : Int)) rfl rfl (by decide) rfl (by omega) ?_
              have g198 : -2147483648 ≤ (H6.1 1847 l) ∧ (H6.1 1847 l) ≤ 2147483647 := hrg7.2 1847 l 16 .int rfl (by omega)
              have e199 : (H6.1 1847 l) = (H.1 1847 l) := congrFun (hfH6.2.1 1847 (by decide) (by decide)) l
              refine h_run 0 (pc' := 142) (l' := [(0, .inr (.inr 1826)), (1, .inl (l : Int)), (2, .inl bk), (3, .inl (s : Int)), (4, .inl (q : Int)), (5, .inl (wi : Int)), (6, .inl (o : Int)), (7, .inl (wi : Int)), (8, .inl (a9 : Int)), (9, .inl (b9 : Int))]) (st' := [.inl (H6.1 1847 l), .inl (H6.1 1875 o), .inl (wi : Int), .inl 1000, .inl (k1 : Int), .inl (48 * (a9 : Int)), .inr (.inr 1842), .inr (.inr 1826)]) rfl ?_
              refine h_run 1 (pc' := 143) (l' := [(0, .inr (.inr 1826)), (1, .inl (l : Int)), (2, .inl bk), (3, .inl (s : Int)), (4, .inl (q : Int)), (5, .inl (wi : Int)), (6, .inl (o : Int)), (7, .inl (wi : Int)), (8, .inl (a9 : Int)), (9, .inl (b9 : Int))]) (st' := [.inl 1, .inl (H6.1 1847 l), .inl (H6.1 1875 o), .inl (wi : Int), .inl 1000, .inl (k1 : Int), .inl (48 * (a9 : Int)), .inr (.inr 1842), .inr (.inr 1826)]) rfl ?_
              refine h_ine (off := 7) (t := 150) rfl rfl (by omega) (by decide) (fun c200 => ?_) (fun c200 => ?_)
              · refine h_run 1 (pc' := 151) (l' := [(0, .inr (.inr 1826)), (1, .inl (l : Int)), (2, .inl bk), (3, .inl (s : Int)), (4, .inl (q : Int)), (5, .inl (wi : Int)), (6, .inl (o : Int)), (7, .inl (wi : Int)), (8, .inl (a9 : Int)), (9, .inl (b9 : Int))]) (st' := [.inl 0, .inl (H6.1 1875 o), .inl (wi : Int), .inl 1000, .inl (k1 : Int), .inl (48 * (a9 : Int)), .inr (.inr 1842), .inr (.inr 1826)]) rfl ?_
                have g202 : -2147483648 ≤ (H6.1 1826 93) ∧ (H6.1 1826 93) ≤ 2147483647 := hrg7.1 1826 13 93 _ .int rfl rfl
                have hQl : sP H (zu H6 1826 (up (H6.1 1826) 97 (l : Int))) := sP_fr (sP_rf H) (fr_o hf8 (by decide)) (by decide) (by decide)
                have hPl : PWc (zu H6 1826 (up (H6.1 1826) 97 (l : Int))) := PWc_fr hP (fr_o hf8 (by decide)) (by decide) (by decide)
                refine h_cv (i := 593) (j := 239) (b := 1826) (M' := mt_239) (xs := [.inl 0, .inl (H6.1 1875 o), .inl (wi : Int), .inl 1000, .inl (k1 : Int), .inl (48 * (a9 : Int)), .inr (.inr 1842)]) (rest := []) rfl rfl rfl rfl rfl rfl (Nat.le_of_ble_eq_true rfl) (Nat.le_of_ble_eq_true rfl) (by omega) (m_isLike (p := (48 * a9)) (ln := k1) (N := N) (k := ki) (V := 6) (okp := (m_sg (H.1 1826 3) (H.1 1826 8) (vn : Nat))) (by omega) rfl (by decide) (by decide) hPl (by rw [hQl.1, hQl.2.1, hQl.2.2.1, hQl.2.2.2]; exact hTn) ⟨by omega, (show (H6.1 1826 93) = (N : Int) by omega)⟩ (by rw [hQl.1, hQl.2.1, hQl.2.2.1, hQl.2.2.2]; exact hTi) (by omega) (by rw [hQl.1, hQl.2.1]; exact (by show tm _ _ (H6.1 1842) _ _ 1; rw [show (H6.1 1842) = (H.1 1842) from hfH6.2.1 1842 (by decide) (by decide), ha9]; exact k13)) (show 48 * a9 + k1 ≤ 1536 ∧ k1 ≤ 60 by omega) (by omega) (Or.inr (show 0 ≤ (l : Int) ∧ (l : Int) ≤ 15 ∧ 6 ≤ 6 by omega)) (fun s9 h9 => by unfold m_sg at h9; omega) (by omega)) ?_
                rintro _ H201 ⟨(rfl | ⟨rfl, xH201⟩), hfH201⟩
                · refine h_rng (fun hrg203 => ?_)
                  have hf204 : fr [50, 51, 53, 76, 93, 97] [1847, 1852, 1853, 1855, 1856, 1873, 1874, 1878, 1884, 1886] H H201 := fr_t (fr_o hf8 (by decide)) hfH201 (by decide) (by decide)
                  have hOSH201 : OS H H201 n := OS_fr (OS_fr hOSH6 (show fr [97] [] H6 (zu H6 1826 (up (H6.1 1826) 97 (l : Int))) from (fr_o (fr_rf _ _ _) (by decide))) (by decide) (by decide) (by decide)) hfH201 (by decide) (by decide) (by decide)
                  have hooH201 : (H201.1 1871) 0 = (o : Int) := (congrFun (hfH201.2.1 1871 (by decide) (by decide)) 0).trans hooH6
                  refine h_run 0 (pc' := 154) (l' := [(0, .inr (.inr 1826)), (1, .inl (l : Int)), (2, .inl bk), (3, .inl (s : Int)), (4, .inl (q : Int)), (5, .inl (wi : Int)), (6, .inl (o : Int)), (7, .inl (wi : Int)), (8, .inl (a9 : Int)), (9, .inl (b9 : Int))]) (st' := [.inl 0]) rfl ?_
                  refine h_zeq (off := 35) (t := 189) rfl rfl (by decide) (fun _ => ?_) (fun c => absurd c (by decide))
                  refine h_run 4 (pc' := 194) (l' := [(0, .inr (.inr 1826)), (1, .inl (l : Int)), (2, .inl bk), (3, .inl (s : Int)), (4, .inl (q : Int)), (5, .inl (wi : Int)), (6, .inl (o : Int)), (7, .inl (wi : Int)), (8, .inl (a9 : Int)), (9, .inl (b9 : Int)), (10, .inl 0)]) (st' := [.inl (-1), .inr (.inr 1826)]) rfl ?_
                  refine h_puti (i := 202) (ci := 13) (k := 97) (a := 1826) (x := (-1)) rfl rfl rfl rfl rfl rfl (by decide) (by decide) ?_
                  refine h_run 1 (pc' := 199) (l' := [(0, .inr (.inr 1826)), (1, .inl (l : Int)), (2, .inl bk), (3, .inl (s : Int)), (4, .inl (q : Int)), (5, .inl (wi : Int)), (6, .inl (o : Int)), (7, .inl (wi : Int)), (8, .inl (a9 : Int)), (9, .inl (b9 : Int)), (10, .inl 0)]) (st' := [.inl 0]) rfl ?_
                  refine h_zne (off := 8) (t := 207) rfl rfl (by decide) (fun c => absurd c (by decide)) (fun _ => ?_)
                  refine h_run 2 (pc' := 226) (l' := [(0, .inr (.inr 1826)), (1, .inl (l : Int)), (2, .inl bk), (3, .inl (s : Int)), (4, .inl (q : Int)), (5, .inl (wi : Int)), (6, .inl (o : Int)), (7, .inl (wi : Int)), (8, .inl (a9 : Int)), (9, .inl (b9 : Int)), (10, .inl 0)]) (st' := [.inl (-104)]) rfl ?_
                  refine h_reti (x := (-104)) rfl rfl ?_
                  exact ⟨(fr_o hf204 (by decide)), (show (-1 : Int) = -1 by omega), (OS_fr hOSH201 (show fr [97] [] H201 (zu H201 1826 (up (H201.1 1826) 97 (-1))) from (fr_o (fr_rf _ _ _) (by decide))) (by decide) (by decide) (by decide)), _, rfl, by omega, by omega⟩
                · refine h_rng (fun hrg205 => ?_)
                  have hf206 : fr [50, 51, 53, 76, 93, 97] [1847, 1852, 1853, 1855, 1856, 1873, 1874, 1878, 1884, 1886] H H201 := fr_t (fr_o hf8 (by decide)) hfH201 (by decide) (by decide)
                  have hOSH201 : OS H H201 n := OS_fr (OS_fr hOSH6 (show fr [97] [] H6 (zu H6 1826 (up (H6.1 1826) 97 (l : Int))) from (fr_o (fr_rf _ _ _) (by decide))) (by decide) (by decide) (by decide)) hfH201 (by decide) (by decide) (by decide)
                  have hooH201 : (H201.1 1871) 0 = (o : Int) := (congrFun (hfH201.2.1 1871 (by decide) (by decide)) 0).trans hooH6
                  have eNH201 : (H201.1 1884) = (H6.1 1884) := hfH201.2.1 1884 (by decide) (by decide)
                  have yH201 : fre (ma (H.1 1833) (H.1 1830)) (m_sg (H.1 1826 3) (H.1 1826 8) 60) (H201.1 1884) (H201.1 1886) N := by have h9 := xH201; rw [hQl.1, hQl.2.1, hQl.2.2.1, hQl.2.2.2] at h9; rw [eNH201]; exact h9
                  have hTnH201 : tm (ma (H.1 1833) (H.1 1830)) (m_sg (H.1 1826 3) (H.1 1826 8) 60) (H201.1 1884) N 0 1 := by rw [eNH201]; exact hTn
                  have hTiH201 : tm (ma (H.1 1833) (H.1 1830)) (m_sg (H.1 1826 3) (H.1 1826 8) 60) (H201.1 1884) ki wi 1 := by rw [eNH201]; exact hTi
                  refine h_run 0 (pc' := 154) (l' := [(0, .inr (.inr 1826)), (1, .inl (l : Int)), (2, .inl bk), (3, .inl (s : Int)), (4, .inl (q : Int)), (5, .inl (wi : Int)), (6, .inl (o : Int)), (7, .inl (wi : Int)), (8, .inl (a9 : Int)), (9, .inl (b9 : Int))]) (st' := [.inl 1]) rfl ?_
                  refine h_zeq (off := 35) (t := 189) rfl rfl (by decide) (fun c => absurd c (by decide)) (fun _ => ?_)
                  refine h_run 9 (pc' := 173) (l' := [(0, .inr (.inr 1826)), (1, .inl (l : Int)), (2, .inl bk), (3, .inl (s : Int)), (4, .inl (q : Int)), (5, .inl (wi : Int)), (6, .inl (o : Int)), (7, .inl (wi : Int)), (8, .inl (a9 : Int)), (9, .inl (b9 : Int))]) (st' := [.inl (b9 : Int), .inr (.inr 1843), .inl (48 * (b9 : Int)), .inr (.inr 1842), .inr (.inr 1826)]) rfl ?_
                  refine h_ild (c := 1843) (j := b9) (i := (b9 : Int)) rfl rfl (by decide) rfl (by omega) ?_
                  have g207 : -2147483648 ≤ (H201.1 1843 b9) ∧ (H201.1 1843 b9) ≤ 2147483647 := hrg205.2 1843 b9 32 .int rfl (by omega)
                  have e208 : (H201.1 1843 b9) = (H6.1 1843 b9) := congrFun (hfH201.2.1 1843 (by decide) (by decide)) b9
                  have e209 : (H6.1 1843 b9) = (H.1 1843 b9) := congrFun (hfH6.2.1 1843 (by decide) (by decide)) b9
                  refine h_run 0 (pc' := 174) (l' := [(0, .inr (.inr 1826)), (1, .inl (l : Int)), (2, .inl bk), (3, .inl (s : Int)), (4, .inl (q : Int)), (5, .inl (wi : Int)), (6, .inl (o : Int)), (7, .inl (wi : Int)), (8, .inl (a9 : Int)), (9, .inl (b9 : Int))]) (st' := [.inl (H201.1 1843 b9), .inl (48 * (b9 : Int)), .inr (.inr 1842), .inr (.inr 1826)]) rfl ?_
                  have hszb9 : (H201.1 1843) b9 = (k0 : Int) := by rw [show (H201.1 1843) = (H6.1 1843) from hfH201.2.1 1843 (by decide) (by decide), show (H6.1 1843) = (H.1 1843) from hfH6.2.1 1843 (by decide) (by decide), hb9]; exact k01
                  rw [show (H201.1 1843 b9) = (k0 : Int) by omega]
                  refine h_run 2 (pc' := 179) (l' := [(0, .inr (.inr 1826)), (1, .inl (l : Int)), (2, .inl bk), (3, .inl (s : Int)), (4, .inl (q : Int)), (5, .inl (wi : Int)), (6, .inl (o : Int)), (7, .inl (wi : Int)), (8, .inl (a9 : Int)), (9, .inl (b9 : Int))]) (st' := [.inl (wi : Int), .inl 1000, .inl (k0 : Int), .inl (48 * (b9 : Int)), .inr (.inr 1842), .inr (.inr 1826)]) rfl ?_
                  have g211 : -2147483648 ≤ (H201.1 1826 93) ∧ (H201.1 1826 93) ≤ 2147483647 := hrg205.1 1826 13 93 _ .int rfl rfl
                  have e212 : (H201.1 1826 93) = (H6.1 1826 93) := hfH201.2.2 93 (by decide)
                  have hQk : sP H H201 := sP_fr (sP_rf H) hf206 (by decide) (by decide)
                  have hPk : PWc H201 := PWc_fr hP hf206 (by decide) (by decide)
                  refine h_cv (i := 597) (j := 242) (b := 1826) (M' := mt_242) (xs := [.inl (wi : Int), .inl 1000, .inl (k0 : Int), .inl (48 * (b9 : Int)), .inr (.inr 1842)]) (rest := []) rfl rfl rfl rfl rfl rfl (Nat.le_of_ble_eq_true rfl) (Nat.le_of_ble_eq_true rfl) (by omega) (m_isMade (p := (48 * b9)) (ln := k0) (N := N) (k := ki) (okp := (m_sg (H.1 1826 3) (H.1 1826 8) (vn : Nat))) (by omega) rfl (by decide) (by decide) hPk (by rw [hQk.1, hQk.2.1, hQk.2.2.1, hQk.2.2.2]; exact hTnH201) ⟨by omega, (show (H201.1 1826 93) = (N : Int) by omega)⟩ (by rw [hQk.1, hQk.2.1, hQk.2.2.1, hQk.2.2.2]; exact hTiH201) (by omega) (by rw [hQk.1, hQk.2.1]; exact (by show tm _ _ (H201.1 1842) _ _ 1; rw [show (H201.1 1842) = (H6.1 1842) from hfH201.2.1 1842 (by decide) (by decide), show (H6.1 1842) = (H.1 1842) from hfH6.2.1 1842 (by decide) (by decide), hb9]; exact k03)) (show 48 * b9 + k0 ≤ 1536 ∧ k0 ≤ 60 by omega) (by omega) (by rw [hQk.2.2.1, hQk.2.2.2]; exact (fun s9 h9 => by unfold m_sg at *; omega)) (by rw [hQk.1, hQk.2.1, hQk.2.2.1, hQk.2.2.2]; exact yH201)) ?_
                  rintro _ H210 ⟨(rfl | ⟨rfl, MH210, zH210, mH210, tH210⟩), hfH210⟩
                  · refine h_rng (fun hrg213 => ?_)
                    have hf214 : fr [50, 51, 53, 76, 93, 97] [1847, 1852, 1853, 1855, 1856, 1873, 1874, 1878, 1884, 1886] H H210 := fr_t hf206 hfH210 (by decide) (by decide)
                    have hOSH210 : OS H H210 n := OS_fr hOSH201 hfH210 (by decide) (by decide) (by decide)
                    have hooH210 : (H210.1 1871) 0 = (o : Int) := (congrFun (hfH210.2.1 1871 (by decide) (by decide)) 0).trans hooH201
                    refine h_run 0 (pc' := 182) (l' := [(0, .inr (.inr 1826)), (1, .inl (l : Int)), (2, .inl bk), (3, .inl (s : Int)), (4, .inl (q : Int)), (5, .inl (wi : Int)), (6, .inl (o : Int)), (7, .inl (wi : Int)), (8, .inl (a9 : Int)), (9, .inl (b9 : Int))]) (st' := [.inl 0]) rfl ?_
                    refine h_zeq (off := 7) (t := 189) rfl rfl (by decide) (fun _ => ?_) (fun c => absurd c (by decide))
                    refine h_run 4 (pc' := 194) (l' := [(0, .inr (.inr 1826)), (1, .inl (l : Int)), (2, .inl bk), (3, .inl (s : Int)), (4, .inl (q : Int)), (5, .inl (wi : Int)), (6, .inl (o : Int)), (7, .inl (wi : Int)), (8, .inl (a9 : Int)), (9, .inl (b9 : Int)), (10, .inl 0)]) (st' := [.inl (-1), .inr (.inr 1826)]) rfl ?_
                    refine h_puti (i := 202) (ci := 13) (k := 97) (a := 1826) (x := (-1)) rfl rfl rfl rfl rfl rfl (by decide) (by decide) ?_
                    refine h_run 1 (pc' := 199) (l' := [(0, .inr (.inr 1826)), (1, .inl (l : Int)), (2, .inl bk), (3, .inl (s : Int)), (4, .inl (q : Int)), (5, .inl (wi : Int)), (6, .inl (o : Int)), (7, .inl (wi : Int)), (8, .inl (a9 : Int)), (9, .inl (b9 : Int)), (10, .inl 0)]) (st' := [.inl 0]) rfl ?_
                    refine h_zne (off := 8) (t := 207) rfl rfl (by decide) (fun c => absurd c (by decide)) (fun _ => ?_)
                    refine h_run 2 (pc' := 226) (l' := [(0, .inr (.inr 1826)), (1, .inl (l : Int)), (2, .inl bk), (3, .inl (s : Int)), (4, .inl (q : Int)), (5, .inl (wi : Int)), (6, .inl (o : Int)), (7, .inl (wi : Int)), (8, .inl (a9 : Int)), (9, .inl (b9 : Int)), (10, .inl 0)]) (st' := [.inl (-104)]) rfl ?_
                    refine h_reti (x := (-104)) rfl rfl ?_
                    exact ⟨(fr_o hf214 (by decide)), (show (-1 : Int) = -1 by omega), (OS_fr hOSH210 (show fr [97] [] H210 (zu H210 1826 (up (H210.1 1826) 97 (-1))) from (fr_o (fr_rf _ _ _) (by decide))) (by decide) (by decide) (by decide)), _, rfl, by omega, by omega⟩
                  · refine h_rng (fun hrg215 => ?_)
                    have hf216 : fr [50, 51, 53, 76, 93, 97] [1847, 1852, 1853, 1855, 1856, 1873, 1874, 1878, 1884, 1886] H H210 := fr_t hf206 hfH210 (by decide) (by decide)
                    have hOSH210 : OS H H210 n := OS_fr hOSH201 hfH210 (by decide) (by decide) (by decide)
                    have hooH210 : (H210.1 1871) 0 = (o : Int) := (congrFun (hfH210.2.1 1871 (by decide) (by decide)) 0).trans hooH201
                    have tdH210 : tm (ma (H.1 1833) (H.1 1830)) (m_sg (H.1 1826 3) (H.1 1826 8) 60) (H210.1 1856) MH210 0 1 := by have h9 := tH210; rw [hQk.1, hQk.2.1, hQk.2.2.1, hQk.2.2.2] at h9; exact h9
                    refine h_run 0 (pc' := 182) (l' := [(0, .inr (.inr 1826)), (1, .inl (l : Int)), (2, .inl bk), (3, .inl (s : Int)), (4, .inl (q : Int)), (5, .inl (wi : Int)), (6, .inl (o : Int)), (7, .inl (wi : Int)), (8, .inl (a9 : Int)), (9, .inl (b9 : Int))]) (st' := [.inl 1]) rfl ?_
                    refine h_zeq (off := 7) (t := 189) rfl rfl (by decide) (fun c => absurd c (by decide)) (fun _ => ?_)
                    refine h_run 5 (pc' := 194) (l' := [(0, .inr (.inr 1826)), (1, .inl (l : Int)), (2, .inl bk), (3, .inl (s : Int)), (4, .inl (q : Int)), (5, .inl (wi : Int)), (6, .inl (o : Int)), (7, .inl (wi : Int)), (8, .inl (a9 : Int)), (9, .inl (b9 : Int)), (10, .inl 1)]) (st' := [.inl (-1), .inr (.inr 1826)]) rfl ?_
                    refine h_puti (i := 202) (ci := 13) (k := 97) (a := 1826) (x := (-1)) rfl rfl rfl rfl rfl rfl (by decide) (by decide) ?_
                    refine h_run 1 (pc' := 199) (l' := [(0, .inr (.inr 1826)), (1, .inl (l : Int)), (2, .inl bk), (3, .inl (s : Int)), (4, .inl (q : Int)), (5, .inl (wi : Int)), (6, .inl (o : Int)), (7, .inl (wi : Int)), (8, .inl (a9 : Int)), (9, .inl (b9 : Int)), (10, .inl 1)]) (st' := [.inl 1]) rfl ?_
                    refine h_zne (off := 8) (t := 207) rfl rfl (by decide) (fun _ => ?_) (fun c => absurd c (by decide))
                    refine h_run 3 (pc' := 211) (l' := [(0, .inr (.inr 1826)), (1, .inl (l : Int)), (2, .inl bk), (3, .inl (s : Int)), (4, .inl (q : Int)), (5, .inl (wi : Int)), (6, .inl (o : Int)), (7, .inl (wi : Int)), (8, .inl (a9 : Int)), (9, .inl (b9 : Int)), (10, .inl 1)]) (st' := [.inl (s : Int), .inl (o : Int), .inr (.inr 1826)]) rfl ?_
                    refine h_cv (i := 575) (j := 229) (b := 1826) (M' := mt_229) (xs := [.inl (s : Int), .inl (o : Int)]) (rest := []) rfl rfl rfl rfl rfl rfl (Nat.le_of_ble_eq_true rfl) (Nat.le_of_ble_eq_true rfl) (by omega) (m_isKept (M := MH210) (by omega) (by omega) ⟨zH210, mH210⟩) ?_
                    rintro _ H217 (⟨rfl, hxH217, rfl⟩ | ⟨rfl, hlH217, hfH217, hzH217, hcH217, hoH217⟩)
                    · refine h_run 0 (pc' := 214) (l' := [(0, .inr (.inr 1826)), (1, .inl (l : Int)), (2, .inl bk), (3, .inl (s : Int)), (4, .inl (q : Int)), (5, .inl (wi : Int)), (6, .inl (o : Int)), (7, .inl (wi : Int)), (8, .inl (a9 : Int)), (9, .inl (b9 : Int)), (10, .inl 1)]) (st' := [.inl 0]) rfl ?_
                      refine h_zeq (off := 10) (t := 224) rfl rfl (by decide) (fun _ => ?_) (fun c => absurd c (by decide))
                      refine h_run 1 (pc' := 226) (l' := [(0, .inr (.inr 1826)), (1, .inl (l : Int)), (2, .inl bk), (3, .inl (s : Int)), (4, .inl (q : Int)), (5, .inl (wi : Int)), (6, .inl (o : Int)), (7, .inl (wi : Int)), (8, .inl (a9 : Int)), (9, .inl (b9 : Int)), (10, .inl 1)]) (st' := [.inl (-105)]) rfl ?_
                      refine h_reti (x := (-105)) rfl rfl ?_
                      exact ⟨(fr_o hf216 (by decide)), (show (-1 : Int) = -1 by omega), (OS_fr hOSH210 (show fr [97] [] H210 (zu H210 1826 (up (H210.1 1826) 97 (-1))) from (fr_o (fr_rf _ _ _) (by decide))) (by decide) (by decide) (by decide)), _, rfl, by omega, by omega⟩
                    · refine h_rng (fun hrg218 => ?_)
                      have hf219 : fr [50, 51, 53, 76, 93, 97] [1847, 1852, 1853, 1855, 1856, 1873, 1874, 1878, 1884, 1886] H H217 := fr_t (fr_o hf216 (by decide)) hfH217 (by decide) (by decide)
                      have hOSH217 : OS H H217 n := OS_side (OS_fr hOSH210 (show fr [97] [] H210 (zu H210 1826 (up (H210.1 1826) 97 (-1))) from (fr_o (fr_rf _ _ _) (by decide))) (by decide) (by decide) (by decide)) hooH210 hfH217 hs hlH217 hzH217 hcH217 hoH217 tdH210
                      have hooH217 : (H217.1 1871) 0 = (o : Int) := (congrFun (hfH217.2.1 1871 (by decide) (by decide)) 0).trans hooH210
                      refine h_run 0 (pc' := 214) (l' := [(0, .inr (.inr 1826)), (1, .inl (l : Int)), (2, .inl bk), (3, .inl (s : Int)), (4, .inl (q : Int)), (5, .inl (wi : Int)), (6, .inl (o : Int)), (7, .inl (wi : Int)), (8, .inl (a9 : Int)), (9, .inl (b9 : Int)), (10, .inl 1)]) (st' := [.inl 1]) rfl ?_
                      refine h_zeq (off := 10) (t := 224) rfl rfl (by decide) (fun c => absurd c (by decide)) (fun _ => ?_)
                      refine h_run 1 (pc' := 218) (l' := [(0, .inr (.inr 1826)), (1, .inl (l : Int)), (2, .inl bk), (3, .inl (s : Int)), (4, .inl (q : Int)), (5, .inl (wi : Int)), (6, .inl (o : Int)), (7, .inl (wi : Int)), (8, .inl (a9 : Int)), (9, .inl (b9 : Int)), (10, .inl 1)]) (st' := [.inr (.inr 1826)]) rfl ?_
                      refine h_cv (i := 556) (j := 232) (b := 1826) (M' := mt_232) (xs := []) (rest := []) rfl rfl rfl rfl rfl rfl (Nat.le_of_ble_eq_true rfl) (Nat.le_of_ble_eq_true rfl) (by omega) (m_did (n := n) (by omega) hOSH217.1.1 (fun q9 => absurd q9 (by omega)) (by rw [show (H217.1 1871) 0 = (o : Int) from hooH217]; omega)) ?_
                      rintro _ H220 ⟨rfl, hfH220⟩
                      refine h_rng (fun hrg221 => ?_)
                      have hf222 : fr [50, 51, 53, 76, 93, 97] [1847, 1852, 1853, 1855, 1856, 1873, 1874, 1878, 1884, 1886] H H220 := fr_t hf219 hfH220 (by decide) (by decide)
                      have hOSH220 : OS H H220 n := OS_fr hOSH217 hfH220 (by decide) (by decide) (by decide)
                      have hooH220 : (H220.1 1871) 0 = (o : Int) := (congrFun (hfH220.2.1 1871 (by decide) (by decide)) 0).trans hooH217
                      refine h_run 0 (pc' := 221) (l' := [(0, .inr (.inr 1826)), (1, .inl (l : Int)), (2, .inl bk), (3, .inl (s : Int)), (4, .inl (q : Int)), (5, .inl (wi : Int)), (6, .inl (o : Int)), (7, .inl (wi : Int)), (8, .inl (a9 : Int)), (9, .inl (b9 : Int)), (10, .inl 1)]) (st' := [.inl (n : Int)]) rfl ?_
                      refine h_run 1 (pc' := 226) (l' := [(0, .inr (.inr 1826)), (1, .inl (l : Int)), (2, .inl bk), (3, .inl (s : Int)), (4, .inl (q : Int)), (5, .inl (wi : Int)), (6, .inl (o : Int)), (7, .inl (wi : Int)), (8, .inl (a9 : Int)), (9, .inl (b9 : Int)), (10, .inl 1)]) (st' := [.inl (n : Int)]) rfl ?_
                      refine h_reti (x := (n : Int)) rfl rfl ?_
                      have g223 : -2147483648 ≤ (H220.1 1826 97) ∧ (H220.1 1826 97) ≤ 2147483647 := hrg221.1 1826 13 97 _ .int rfl rfl
                      have e224 : (H220.1 1826 97) = (H217.1 1826 97) := hfH220.2.2 97 (by decide)
                      have e225 : (H217.1 1826 97) = (-1) := hfH217.2.2 97 (by decide)
                      exact ⟨hf222, (show (H220.1 1826 97) = -1 by omega), hOSH220, _, rfl, by omega, by omega⟩
              · refine h_run 2 (pc' := 151) (l' := [(0, .inr (.inr 1826)), (1, .inl (l : Int)), (2, .inl bk), (3, .inl (s : Int)), (4, .inl (q : Int)), (5, .inl (wi : Int)), (6, .inl (o : Int)), (7, .inl (wi : Int)), (8, .inl (a9 : Int)), (9, .inl (b9 : Int))]) (st' := [.inl 1, .inl (H6.1 1875 o), .inl (wi : Int), .inl 1000, .inl (k1 : Int), .inl (48 * (a9 : Int)), .inr (.inr 1842), .inr (.inr 1826)]) rfl ?_
                have g227 : -2147483648 ≤ (H6.1 1826 93) ∧ (H6.1 1826 93) ≤ 2147483647 := hrg7.1 1826 13 93 _ .int rfl rfl
                have hQl : sP H (zu H6 1826 (up (H6.1 1826) 97 (l : Int))) := sP_fr (sP_rf H) (fr_o hf8 (by decide)) (by decide) (by decide)
                have hPl : PWc (zu H6 1826 (up (H6.1 1826) 97 (l : Int))) := PWc_fr hP (fr_o hf8 (by decide)) (by decide) (by decide)
                refine h_cv (i := 593) (j := 239) (b := 1826) (M' := mt_239) (xs := [.inl 1, .inl (H6.1 1875 o), .inl (wi : Int), .inl 1000, .inl (k1 : Int), .inl (48 * (a9 : Int)), .inr (.inr 1842)]) (rest := []) rfl rfl rfl rfl rfl rfl (Nat.le_of_ble_eq_true rfl) (Nat.le_of_ble_eq_true rfl) (by omega) (m_isLike (p := (48 * a9)) (ln := k1) (N := N) (k := ki) (V := 6) (okp := (m_sg (H.1 1826 3) (H.1 1826 8) (vn : Nat))) (by omega) rfl (by decide) (by decide) hPl (by rw [hQl.1, hQl.2.1, hQl.2.2.1, hQl.2.2.2]; exact hTn) ⟨by omega, (show (H6.1 1826 93) = (N : Int) by omega)⟩ (by rw [hQl.1, hQl.2.1, hQl.2.2.1, hQl.2.2.2]; exact hTi) (by omega) (by rw [hQl.1, hQl.2.1]; exact (by show tm _ _ (H6.1 1842) _ _ 1; rw [show (H6.1 1842) = (H.1 1842) from hfH6.2.1 1842 (by decide) (by decide), ha9]; exact k13)) (show 48 * a9 + k1 ≤ 1536 ∧ k1 ≤ 60 by omega) (by omega) (Or.inr (show 0 ≤ (l : Int) ∧ (l : Int) ≤ 15 ∧ 6 ≤ 6 by omega)) (fun s9 h9 => by unfold m_sg at h9; omega) (by omega)) ?_
                rintro _ H226 ⟨(rfl | ⟨rfl, xH226⟩), hfH226⟩
                · refine h_rng (fun hrg228 => ?_)
                  have hf229 : fr [50, 51, 53, 76, 93, 97] [1847, 1852, 1853, 1855, 1856, 1873, 1874, 1878, 1884, 1886] H H226 := fr_t (fr_o hf8 (by decide)) hfH226 (by decide) (by decide)
                  have hOSH226 : OS H H226 n := OS_fr (OS_fr hOSH6 (show fr [97] [] H6 (zu H6 1826 (up (H6.1 1826) 97 (l : Int))) from (fr_o (fr_rf _ _ _) (by decide))) (by decide) (by decide) (by decide)) hfH226 (by decide) (by decide) (by decide)
                  have hooH226 : (H226.1 1871) 0 = (o : Int) := (congrFun (hfH226.2.1 1871 (by decide) (by decide)) 0).trans hooH6
                  refine h_run 0 (pc' := 154) (l' := [(0, .inr (.inr 1826)), (1, .inl (l : Int)), (2, .inl bk), (3, .inl (s : Int)), (4, .inl (q : Int)), (5, .inl (wi : Int)), (6, .inl (o : Int)), (7, .inl (wi : Int)), (8, .inl (a9 : Int)), (9, .inl (b9 : Int))]) (st' := [.inl 0]) rfl ?_
                  refine h_zeq (off := 35) (t := 189) rfl rfl (by decide) (fun _ => ?_) (fun c => absurd c (by decide))
                  refine h_run 4 (pc' := 194) (l' := [(0, .inr (.inr 1826)), (1, .inl (l : Int)), (2, .inl bk), (3, .inl (s : Int)), (4, .inl (q : Int)), (5, .inl (wi : Int)), (6, .inl (o : Int)), (7, .inl (wi : Int)), (8, .inl (a9 : Int)), (9, .inl (b9 : Int)), (10, .inl 0)]) (st' := [.inl (-1), .inr (.inr 1826)]) rfl ?_
                  refine h_puti (i := 202) (ci := 13) (k := 97) (a := 1826) (x := (-1)) rfl rfl rfl rfl rfl rfl (by decide) (by decide) ?_
                  refine h_run 1 (pc' := 199) (l' := [(0, .inr (.inr 1826)), (1, .inl (l : Int)), (2, .inl bk), (3, .inl (s : Int)), (4, .inl (q : Int)), (5, .inl (wi : Int)), (6, .inl (o : Int)), (7, .inl (wi : Int)), (8, .inl (a9 : Int)), (9, .inl (b9 : Int)), (10, .inl 0)]) (st' := [.inl 0]) rfl ?_
                  refine h_zne (off := 8) (t := 207) rfl rfl (by decide) (fun c => absurd c (by decide)) (fun _ => ?_)
                  refine h_run 2 (pc' := 226) (l' := [(0, .inr (.inr 1826)), (1, .inl (l : Int)), (2, .inl bk), (3, .inl (s : Int)), (4, .inl (q : Int)), (5, .inl (wi : Int)), (6, .inl (o : Int)), (7, .inl (wi : Int)), (8, .inl (a9 : Int)), (9, .inl (b9 : Int)), (10, .inl 0)]) (st' := [.inl (-104)]) rfl ?_
                  refine h_reti (x := (-104)) rfl rfl ?_
                  exact ⟨(fr_o hf229 (by decide)), (show (-1 : Int) = -1 by omega), (OS_fr hOSH226 (show fr [97] [] H226 (zu H226 1826 (up (H226.1 1826) 97 (-1))) from (fr_o (fr_rf _ _ _) (by decide))) (by decide) (by decide) (by decide)), _, rfl, by omega, by omega⟩
                · refine h_rng (fun hrg230 => ?_)
                  have hf231 : fr [50, 51, 53, 76, 93, 97] [1847, 1852, 1853, 1855, 1856, 1873, 1874, 1878, 1884, 1886] H H226 := fr_t (fr_o hf8 (by decide)) hfH226 (by decide) (by decide)
                  have hOSH226 : OS H H226 n := OS_fr (OS_fr hOSH6 (show fr [97] [] H6 (zu H6 1826 (up (H6.1 1826) 97 (l : Int))) from (fr_o (fr_rf _ _ _) (by decide))) (by decide) (by decide) (by decide)) hfH226 (by decide) (by decide) (by decide)
                  have hooH226 : (H226.1 1871) 0 = (o : Int) := (congrFun (hfH226.2.1 1871 (by decide) (by decide)) 0).trans hooH6
                  have eNH226 : (H226.1 1884) = (H6.1 1884) := hfH226.2.1 1884 (by decide) (by decide)
                  have yH226 : fre (ma (H.1 1833) (H.1 1830)) (m_sg (H.1 1826 3) (H.1 1826 8) 60) (H226.1 1884) (H226.1 1886) N := by have h9 := xH226; rw [hQl.1, hQl.2.1, hQl.2.2.1, hQl.2.2.2] at h9; rw [eNH226]; exact h9
                  have hTnH226 : tm (ma (H.1 1833) (H.1 1830)) (m_sg (H.1 1826 3) (H.1 1826 8) 60) (H226.1 1884) N 0 1 := by rw [eNH226]; exact hTn
                  have hTiH226 : tm (ma (H.1 1833) (H.1 1830)) (m_sg (H.1 1826 3) (H.1 1826 8) 60) (H226.1 1884) ki wi 1 := by rw [eNH226]; exact hTi
                  refine h_run 0 (pc' := 154) (l' := [(0, .inr (.inr 1826)), (1, .inl (l : Int)), (2, .inl bk), (3, .inl (s : Int)), (4, .inl (q : Int)), (5, .inl (wi : Int)), (6, .inl (o : Int)), (7, .inl (wi : Int)), (8, .inl (a9 : Int)), (9, .inl (b9 : Int))]) (st' := [.inl 1]) rfl ?_
                  refine h_zeq (off := 35) (t := 189) rfl rfl (by decide) (fun c => absurd c (by decide)) (fun _ => ?_)
                  refine h_run 9 (pc' := 173) (l' := [(0, .inr (.inr 1826)), (1, .inl (l : Int)), (2, .inl bk), (3, .inl (s : Int)), (4, .inl (q : Int)), (5, .inl (wi : Int)), (6, .inl (o : Int)), (7, .inl (wi : Int)), (8, .inl (a9 : Int)), (9, .inl (b9 : Int))]) (st' := [.inl (b9 : Int), .inr (.inr 1843), .inl (48 * (b9 : Int)), .inr (.inr 1842), .inr (.inr 1826)]) rfl ?_
                  refine h_ild (c := 1843) (j := b9) (i := (b9 : Int)) rfl rfl (by decide) rfl (by omega) ?_
                  have g232 : -2147483648 ≤ (H226.1 1843 b9) ∧ (H226.1 1843 b9) ≤ 2147483647 := hrg230.2 1843 b9 32 .int rfl (by omega)
                  have e233 : (H226.1 1843 b9) = (H6.1 1843 b9) := congrFun (hfH226.2.1 1843 (by decide) (by decide)) b9
                  have e234 : (H6.1 1843 b9) = (H.1 1843 b9) := congrFun (hfH6.2.1 1843 (by decide) (by decide)) b9
                  refine h_run 0 (pc' := 174) (l' := [(0, .inr (.inr 1826)), (1, .inl (l : Int)), (2, .inl bk), (3, .inl (s : Int)), (4, .inl (q : Int)), (5, .inl (wi : Int)), (6, .inl (o : Int)), (7, .inl (wi : Int)), (8, .inl (a9 : Int)), (9, .inl (b9 : Int))]) (st' := [.inl (H226.1 1843 b9), .inl (48 * (b9 : Int)), .inr (.inr 1842), .inr (.inr 1826)]) rfl ?_
                  have hszb9 : (H226.1 1843) b9 = (k0 : Int) := by rw [show (H226.1 1843) = (H6.1 1843) from hfH226.2.1 1843 (by decide) (by decide), show (H6.1 1843) = (H.1 1843) from hfH6.2.1 1843 (by decide) (by decide), hb9]; exact k01
                  rw [show (H226.1 1843 b9) = (k0 : Int) by omega]
                  refine h_run 2 (pc' := 179) (l' := [(0, .inr (.inr 1826)), (1, .inl (l : Int)), (2, .inl bk), (3, .inl (s : Int)), (4, .inl (q : Int)), (5, .inl (wi : Int)), (6, .inl (o : Int)), (7, .inl (wi : Int)), (8, .inl (a9 : Int)), (9, .inl (b9 : Int))]) (st' := [.inl (wi : Int), .inl 1000, .inl (k0 : Int), .inl (48 * (b9 : Int)), .inr (.inr 1842), .inr (.inr 1826)]) rfl ?_
                  have g236 : -2147483648 ≤ (H226.1 1826 93) ∧ (H226.1 1826 93) ≤ 2147483647 := hrg230.1 1826 13 93 _ .int rfl rfl
                  have e237 : (H226.1 1826 93) = (H6.1 1826 93) := hfH226.2.2 93 (by decide)
                  have hQk : sP H H226 := sP_fr (sP_rf H) hf231 (by decide) (by decide)
                  have hPk : PWc H226 := PWc_fr hP hf231 (by decide) (by decide)
                  refine h_cv (i := 597) (j := 242) (b := 1826) (M' := mt_242) (xs := [.inl (wi : Int), .inl 1000, .inl (k0 : Int), .inl (48 * (b9 : Int)), .inr (.inr 1842)]) (rest := []) rfl rfl rfl rfl rfl rfl (Nat.le_of_ble_eq_true rfl) (Nat.le_of_ble_eq_true rfl) (by omega) (m_isMade (p := (48 * b9)) (ln := k0) (N := N) (k := ki) (okp := (m_sg (H.1 1826 3) (H.1 1826 8) (vn : Nat))) (by omega) rfl (by decide) (by decide) hPk (by rw [hQk.1, hQk.2.1, hQk.2.2.1, hQk.2.2.2]; exact hTnH226) ⟨by omega, (show (H226.1 1826 93) = (N : Int) by omega)⟩ (by rw [hQk.1, hQk.2.1, hQk.2.2.1, hQk.2.2.2]; exact hTiH226) (by omega) (by rw [hQk.1, hQk.2.1]; exact (by show tm _ _ (H226.1 1842) _ _ 1; rw [show (H226.1 1842) = (H6.1 1842) from hfH226.2.1 1842 (by decide) (by decide), show (H6.1 1842) = (H.1 1842) from hfH6.2.1 1842 (by decide) (by decide), hb9]; exact k03)) (show 48 * b9 + k0 ≤ 1536 ∧ k0 ≤ 60 by omega) (by omega) (by rw [hQk.2.2.1, hQk.2.2.2]; exact (fun s9 h9 => by unfold m_sg at *; omega)) (by rw [hQk.1, hQk.2.1, hQk.2.2.1, hQk.2.2.2]; exact yH226)) ?_
                  rintro _ H235 ⟨(rfl | ⟨rfl, MH235, zH235, mH235, tH235⟩), hfH235⟩
                  · refine h_rng (fun hrg238 => ?_)
                    have hf239 : fr [50, 51, 53, 76, 93, 97] [1847, 1852, 1853, 1855, 1856, 1873, 1874, 1878, 1884, 1886] H H235 := fr_t hf231 hfH235 (by decide) (by decide)
                    have hOSH235 : OS H H235 n := OS_fr hOSH226 hfH235 (by decide) (by decide) (by decide)
                    have hooH235 : (H235.1 1871) 0 = (o : Int) := (congrFun (hfH235.2.1 1871 (by decide) (by decide)) 0).trans hooH226
                    refine h_run 0 (pc' := 182) (l' := [(0, .inr (.inr 1826)), (1, .inl (l : Int)), (2, .inl bk), (3, .inl (s : Int)), (4, .inl (q : Int)), (5, .inl (wi : Int)), (6, .inl (o : Int)), (7, .inl (wi : Int)), (8, .inl (a9 : Int)), (9, .inl (b9 : Int))]) (st' := [.inl 0]) rfl ?_
                    refine h_zeq (off := 7) (t := 189) rfl rfl (by decide) (fun _ => ?_) (fun c => absurd c (by decide))
                    refine h_run 4 (pc' := 194) (l' := [(0, .inr (.inr 1826)), (1, .inl (l : Int)), (2, .inl bk), (3, .inl (s : Int)), (4, .inl (q : Int)), (5, .inl (wi : Int)), (6, .inl (o : Int)), (7, .inl (wi : Int)), (8, .inl (a9 : Int)), (9, .inl (b9 : Int)), (10, .inl 0)]) (st' := [.inl (-1), .inr (.inr 1826)]) rfl ?_
                    refine h_puti (i := 202) (ci := 13) (k := 97) (a := 1826) (x := (-1)) rfl rfl rfl rfl rfl rfl (by decide) (by decide) ?_
                    refine h_run 1 (pc' := 199) (l' := [(0, .inr (.inr 1826)), (1, .inl (l : Int)), (2, .inl bk), (3, .inl (s : Int)), (4, .inl (q : Int)), (5, .inl (wi : Int)), (6, .inl (o : Int)), (7, .inl (wi : Int)), (8, .inl (a9 : Int)), (9, .inl (b9 : Int)), (10, .inl 0)]) (st' := [.inl 0]) rfl ?_
                    refine h_zne (off := 8) (t := 207) rfl rfl (by decide) (fun c => absurd c (by decide)) (fun _ => ?_)
                    refine h_run 2 (pc' := 226) (l' := [(0, .inr (.inr 1826)), (1, .inl (l : Int)), (2, .inl bk), (3, .inl (s : Int)), (4, .inl (q : Int)), (5, .inl (wi : Int)), (6, .inl (o : Int)), (7, .inl (wi : Int)), (8, .inl (a9 : Int)), (9, .inl (b9 : Int)), (10, .inl 0)]) (st' := [.inl (-104)]) rfl ?_
                    refine h_reti (x := (-104)) rfl rfl ?_
                    exact ⟨(fr_o hf239 (by decide)), (show (-1 : Int) = -1 by omega), (OS_fr hOSH235 (show fr [97] [] H235 (zu H235 1826 (up (H235.1 1826) 97 (-1))) from (fr_o (fr_rf _ _ _) (by decide))) (by decide) (by decide) (by decide)), _, rfl, by omega, by omega⟩
                  · refine h_rng (fun hrg240 => ?_)
                    have hf241 : fr [50, 51, 53, 76, 93, 97] [1847, 1852, 1853, 1855, 1856, 1873, 1874, 1878, 1884, 1886] H H235 := fr_t hf231 hfH235 (by decide) (by decide)
                    have hOSH235 : OS H H235 n := OS_fr hOSH226 hfH235 (by decide) (by decide) (by decide)
                    have hooH235 : (H235.1 1871) 0 = (o : Int) := (congrFun (hfH235.2.1 1871 (by decide) (by decide)) 0).trans hooH226
                    have tdH235 : tm (ma (H.1 1833) (H.1 1830)) (m_sg (H.1 1826 3) (H.1 1826 8) 60) (H235.1 1856) MH235 0 1 := by have h9 := tH235; rw [hQk.1, hQk.2.1, hQk.2.2.1, hQk.2.2.2] at h9; exact h9
                    refine h_run 0 (pc' := 182) (l' := [(0, .inr (.inr 1826)), (1, .inl (l : Int)), (2, .inl bk), (3, .inl (s : Int)), (4, .inl (q : Int)), (5, .inl (wi : Int)), (6, .inl (o : Int)), (7, .inl (wi : Int)), (8, .inl (a9 : Int)), (9, .inl (b9 : Int))]) (st' := [.inl 1]) rfl ?_
                    refine h_zeq (off := 7) (t := 189) rfl rfl (by decide) (fun c => absurd c (by decide)) (fun _ => ?_)
                    refine h_run 5 (pc' := 194) (l' := [(0, .inr (.inr 1826)), (1, .inl (l : Int)), (2, .inl bk), (3, .inl (s : Int)), (4, .inl (q : Int)), (5, .inl (wi : Int)), (6, .inl (o : Int)), (7, .inl (wi : Int)), (8, .inl (a9 : Int)), (9, .inl (b9 : Int)), (10, .inl 1)]) (st' := [.inl (-1), .inr (.inr 1826)]) rfl ?_
                    refine h_puti (i := 202) (ci := 13) (k := 97) (a := 1826) (x := (-1)) rfl rfl rfl rfl rfl rfl (by decide) (by decide) ?_
                    refine h_run 1 (pc' := 199) (l' := [(0, .inr (.inr 1826)), (1, .inl (l : Int)), (2, .inl bk), (3, .inl (s : Int)), (4, .inl (q : Int)), (5, .inl (wi : Int)), (6, .inl (o : Int)), (7, .inl (wi : Int)), (8, .inl (a9 : Int)), (9, .inl (b9 : Int)), (10, .inl 1)]) (st' := [.inl 1]) rfl ?_
                    refine h_zne (off := 8) (t := 207) rfl rfl (by decide) (fun _ => ?_) (fun c => absurd c (by decide))
                    refine h_run 3 (pc' := 211) (l' := [(0, .inr (.inr 1826)), (1, .inl (l : Int)), (2, .inl bk), (3, .inl (s : Int)), (4, .inl (q : Int)), (5, .inl (wi : Int)), (6, .inl (o : Int)), (7, .inl (wi : Int)), (8, .inl (a9 : Int)), (9, .inl (b9 : Int)), (10, .inl 1)]) (st' := [.inl (s : Int), .inl (o : Int), .inr (.inr 1826)]) rfl ?_
                    refine h_cv (i := 575) (j := 229) (b := 1826) (M' := mt_229) (xs := [.inl (s : Int), .inl (o : Int)]) (rest := []) rfl rfl rfl rfl rfl rfl (Nat.le_of_ble_eq_true rfl) (Nat.le_of_ble_eq_true rfl) (by omega) (m_isKept (M := MH235) (by omega) (by omega) ⟨zH235, mH235⟩) ?_
                    rintro _ H242 (⟨rfl, hxH242, rfl⟩ | ⟨rfl, hlH242, hfH242, hzH242, hcH242, hoH242⟩)
                    · refine h_run 0 (pc' := 214) (l' := [(0, .inr (.inr 1826)), (1, .inl (l : Int)), (2, .inl bk), (3, .inl (s : Int)), (4, .inl (q : Int)), (5, .inl (wi : Int)), (6, .inl (o : Int)), (7, .inl (wi : Int)), (8, .inl (a9 : Int)), (9, .inl (b9 : Int)), (10, .inl 1)]) (st' := [.inl 0]) rfl ?_
                      refine h_zeq (off := 10) (t := 224) rfl rfl (by decide) (fun _ => ?_) (fun c => absurd c (by decide))
                      refine h_run 1 (pc' := 226) (l' := [(0, .inr (.inr 1826)), (1, .inl (l : Int)), (2, .inl bk), (3, .inl (s : Int)), (4, .inl (q : Int)), (5, .inl (wi : Int)), (6, .inl (o : Int)), (7, .inl (wi : Int)), (8, .inl (a9 : Int)), (9, .inl (b9 : Int)), (10, .inl 1)]) (st' := [.inl (-105)]) rfl ?_
                      refine h_reti (x := (-105)) rfl rfl ?_
                      exact ⟨(fr_o hf241 (by decide)), (show (-1 : Int) = -1 by omega), (OS_fr hOSH235 (show fr [97] [] H235 (zu H235 1826 (up (H235.1 1826) 97 (-1))) from (fr_o (fr_rf _ _ _) (by decide))) (by decide) (by decide) (by decide)), _, rfl, by omega, by omega⟩
                    · refine h_rng (fun hrg243 => ?_)
                      have hf244 : fr [50, 51, 53, 76, 93, 97] [1847, 1852, 1853, 1855, 1856, 1873, 1874, 1878, 1884, 1886] H H242 := fr_t (fr_o hf241 (by decide)) hfH242 (by decide) (by decide)
                      have hOSH242 : OS H H242 n := OS_side (OS_fr hOSH235 (show fr [97] [] H235 (zu H235 1826 (up (H235.1 1826) 97 (-1))) from (fr_o (fr_rf _ _ _) (by decide))) (by decide) (by decide) (by decide)) hooH235 hfH242 hs hlH242 hzH242 hcH242 hoH242 tdH235
                      have hooH242 : (H242.1 1871) 0 = (o : Int) := (congrFun (hfH242.2.1 1871 (by decide) (by decide)) 0).trans hooH235
                      refine h_run 0 (pc' := 214) (l' := [(0, .inr (.inr 1826)), (1, .inl (l : Int)), (2, .inl bk), (3, .inl (s : Int)), (4, .inl (q : Int)), (5, .inl (wi : Int)), (6, .inl (o : Int)), (7, .inl (wi : Int)), (8, .inl (a9 : Int)), (9, .inl (b9 : Int)), (10, .inl 1)]) (st' := [.inl 1]) rfl ?_
                      refine h_zeq (off := 10) (t := 224) rfl rfl (by decide) (fun c => absurd c (by decide)) (fun _ => ?_)
                      refine h_run 1 (pc' := 218) (l' := [(0, .inr (.inr 1826)), (1, .inl (l : Int)), (2, .inl bk), (3, .inl (s : Int)), (4, .inl (q : Int)), (5, .inl (wi : Int)), (6, .inl (o : Int)), (7, .inl (wi : Int)), (8, .inl (a9 : Int)), (9, .inl (b9 : Int)), (10, .inl 1)]) (st' := [.inr (.inr 1826)]) rfl ?_
                      refine h_cv (i := 556) (j := 232) (b := 1826) (M' := mt_232) (xs := []) (rest := []) rfl rfl rfl rfl rfl rfl (Nat.le_of_ble_eq_true rfl) (Nat.le_of_ble_eq_true rfl) (by omega) (m_did (n := n) (by omega) hOSH242.1.1 (fun q9 => absurd q9 (by omega)) (by rw [show (H242.1 1871) 0 = (o : Int) from hooH242]; omega)) ?_
                      rintro _ H245 ⟨rfl, hfH245⟩
                      refine h_rng (fun hrg246 => ?_)
                      have hf247 : fr [50, 51, 53, 76, 93, 97] [1847, 1852, 1853, 1855, 1856, 1873, 1874, 1878, 1884, 1886] H H245 := fr_t hf244 hfH245 (by decide) (by decide)
                      have hOSH245 : OS H H245 n := OS_fr hOSH242 hfH245 (by decide) (by decide) (by decide)
                      have hooH245 : (H245.1 1871) 0 = (o : Int) := (congrFun (hfH245.2.1 1871 (by decide) (by decide)) 0).trans hooH242
                      refine h_run 0 (pc' := 221) (l' := [(0, .inr (.inr 1826)), (1, .inl (l : Int)), (2, .inl bk), (3, .inl (s : Int)), (4, .inl (q : Int)), (5, .inl (wi : Int)), (6, .inl (o : Int)), (7, .inl (wi : Int)), (8, .inl (a9 : Int)), (9, .inl (b9 : Int)), (10, .inl 1)]) (st' := [.inl (n : Int)]) rfl ?_
                      refine h_run 1 (pc' := 226) (l' := [(0, .inr (.inr 1826)), (1, .inl (l : Int)), (2, .inl bk), (3, .inl (s : Int)), (4, .inl (q : Int)), (5, .inl (wi : Int)), (6, .inl (o : Int)), (7, .inl (wi : Int)), (8, .inl (a9 : Int)), (9, .inl (b9 : Int)), (10, .inl 1)]) (st' := [.inl (n : Int)]) rfl ?_
                      refine h_reti (x := (n : Int)) rfl rfl ?_
                      have g248 : -2147483648 ≤ (H245.1 1826 97) ∧ (H245.1 1826 97) ≤ 2147483647 := hrg246.1 1826 13 97 _ .int rfl rfl
                      have e249 : (H245.1 1826 97) = (H242.1 1826 97) := hfH245.2.2 97 (by decide)
                      have e250 : (H242.1 1826 97) = (-1) := hfH242.2.2 97 (by decide)
                      exact ⟨hf247, (show (H245.1 1826 97) = -1 by omega), hOSH245, _, rfl, by omega, by omega⟩
        · refine h_run 1 (pc' := 71) (l' := [(0, .inr (.inr 1826)), (1, .inl (l : Int)), (2, .inl bk), (3, .inl (s : Int)), (4, .inl (q : Int)), (5, .inl (wi : Int)), (6, .inl (o : Int)), (7, .inl (wi : Int))]) (st' := [.inl (-104)]) rfl ?_
          refine h_reti (x := (-104)) rfl rfl ?_
          have g251 : -2147483648 ≤ (H6.1 1826 97) ∧ (H6.1 1826 97) ≤ 2147483647 := hrg7.1 1826 13 97 _ .int rfl rfl
          have e252 : (H6.1 1826 97) = (H.1 1826 97) := hfH6.2.2 97 (by decide)
          exact ⟨hf8, (show (H6.1 1826 97) = -1 by omega), hOSH6, _, rfl, by omega, by omega⟩
    · refine h_run 2 (pc' := 31) (l' := [(0, .inr (.inr 1826)), (1, .inl (l : Int)), (2, .inl bk), (3, .inl (s : Int)), (4, .inl (q : Int)), (5, .inl wh), (6, .inl (o : Int))]) (st' := [.inl (H.1 1826 75)]) rfl ?_
      have g253 : 0 ≤ (H.1 1826 75) ∧ (H.1 1826 75) ≤ 1 := hrg0.1 1826 13 75 _ .boolean rfl rfl
      refine h_zeq (off := 6) (t := 37) rfl rfl (by omega) (fun c254 => ?_) (fun c254 => ?_)
      · refine h_run 3 (pc' := 41) (l' := [(0, .inr (.inr 1826)), (1, .inl (l : Int)), (2, .inl bk), (3, .inl (s : Int)), (4, .inl (q : Int)), (5, .inl wh), (6, .inl (o : Int))]) (st' := [.inl (s : Int), .inl (o : Int), .inr (.inr 1826)]) rfl ?_
        refine h_cv (i := 569) (j := 228) (b := 1826) (M' := mt_228) (xs := [.inl (s : Int), .inl (o : Int)]) (rest := []) rfl rfl rfl rfl rfl rfl (Nat.le_of_ble_eq_true rfl) (Nat.le_of_ble_eq_true rfl) (by omega) (m_bring (k := N) (by omega) (by omega) ⟨hN1, by omega⟩) ?_
        rintro _ H255 ⟨rfl, hfH255, hzH255, hcH255⟩
        refine h_rng (fun hrg256 => ?_)
        have hf257 : fr [50, 51, 53, 76, 93, 97] [1847, 1852, 1853, 1855, 1856, 1873, 1874, 1878, 1884, 1886] H H255 := fr_t (fr_rf _ _ _) hfH255 (by decide) (by decide)
        have hOSH255 : OS H H255 n := OS_fr hO hfH255 (by decide) (by decide) (by decide)
        have hooH255 : (H255.1 1871) 0 = (o : Int) := (congrFun (hfH255.2.1 1871 (by decide) (by decide)) 0).trans ho1
        have hTn : tm (ma (H.1 1833) (H.1 1830)) (m_sg (H.1 1826 3) (H.1 1826 8) 60) (H255.1 1884) N 0 1 := tm_at hN3 (fun x hx => by rw [Nat.zero_add]; exact hcH255 x hx)
        have hQb : sP H H255 := sP_fr (sP_rf H) hf257 (by decide) (by decide)
        have hPb : PWc H255 := PWc_fr hP hf257 (by decide) (by decide)
        refine h_run 0 (pc' := 44) (l' := [(0, .inr (.inr 1826)), (1, .inl (l : Int)), (2, .inl bk), (3, .inl (s : Int)), (4, .inl (q : Int)), (5, .inl wh), (6, .inl (o : Int))]) (st' := []) rfl ?_
        refine h_run 2 (pc' := 47) (l' := [(0, .inr (.inr 1826)), (1, .inl (l : Int)), (2, .inl bk), (3, .inl (s : Int)), (4, .inl (q : Int)), (5, .inl wh), (6, .inl (o : Int))]) (st' := [.inl (-1), .inl wh]) rfl ?_
        refine h_ieq (off := 8) (t := 55) rfl rfl (by omega) (by decide) (fun c258 => ?_) (fun c258 => ?_)
        · refine h_run 2 (pc' := 58) (l' := [(0, .inr (.inr 1826)), (1, .inl (l : Int)), (2, .inl bk), (3, .inl (s : Int)), (4, .inl (q : Int)), (5, .inl wh), (6, .inl (o : Int))]) (st' := [.inl (q : Int), .inr (.inr 1826)]) rfl ?_
          refine h_cv (i := 572) (j := 230) (b := 1826) (M' := mt_230) (xs := [.inl (q : Int)]) (rest := []) rfl rfl rfl rfl rfl rfl (Nat.le_of_ble_eq_true rfl) (Nat.le_of_ble_eq_true rfl) (by omega) (m_placeOf (ok := (m_sg (H.1 1826 3) (H.1 1826 8) 60)) (N := N) (by omega) (by omega) (fun s9 h9 => by unfold m_sg at h9; unfold sg0; omega) (by rw [hQb.1, hQb.2.1]; exact hTn) (by omega)) ?_
          rintro _ _ ⟨(rfl | ⟨i259, rfl, i259l⟩), rfl⟩
          · refine h_run 0 (pc' := 61) (l' := [(0, .inr (.inr 1826)), (1, .inl (l : Int)), (2, .inl bk), (3, .inl (s : Int)), (4, .inl (q : Int)), (5, .inl wh), (6, .inl (o : Int))]) (st' := [.inl (-1)]) rfl ?_
            refine h_run 3 (pc' := 66) (l' := [(0, .inr (.inr 1826)), (1, .inl (l : Int)), (2, .inl bk), (3, .inl (s : Int)), (4, .inl (q : Int)), (5, .inl wh), (6, .inl (o : Int)), (7, .inl (-1))]) (st' := [.inl (-1), .inl (-1)]) rfl ?_
            refine h_ine (off := 6) (t := 72) rfl rfl (by decide) (by decide) (fun c => absurd c (by decide)) (fun _ => ?_)
            refine h_run 1 (pc' := 71) (l' := [(0, .inr (.inr 1826)), (1, .inl (l : Int)), (2, .inl bk), (3, .inl (s : Int)), (4, .inl (q : Int)), (5, .inl wh), (6, .inl (o : Int)), (7, .inl (-1))]) (st' := [.inl (-104)]) rfl ?_
            refine h_reti (x := (-104)) rfl rfl ?_
            have g260 : -2147483648 ≤ (H255.1 1826 97) ∧ (H255.1 1826 97) ≤ 2147483647 := hrg256.1 1826 13 97 _ .int rfl rfl
            have e261 : (H255.1 1826 97) = (H.1 1826 97) := hfH255.2.2 97 (by decide)
            exact ⟨hf257, (show (H255.1 1826 97) = -1 by omega), hOSH255, _, rfl, by omega, by omega⟩
          · refine h_run 0 (pc' := 61) (l' := [(0, .inr (.inr 1826)), (1, .inl (l : Int)), (2, .inl bk), (3, .inl (s : Int)), (4, .inl (q : Int)), (5, .inl wh), (6, .inl (o : Int))]) (st' := [.inl (i259 : Int)]) rfl ?_
            refine h_run 3 (pc' := 66) (l' := [(0, .inr (.inr 1826)), (1, .inl (l : Int)), (2, .inl bk), (3, .inl (s : Int)), (4, .inl (q : Int)), (5, .inl wh), (6, .inl (o : Int)), (7, .inl (i259 : Int))]) (st' := [.inl (-1), .inl (i259 : Int)]) rfl ?_
            refine h_ine (off := 6) (t := 72) rfl rfl (by omega) (by decide) (fun c262 => ?_) (fun c262 => ?_)
            · obtain ⟨ki, hki, hTi⟩ := tm_sub hTn (p := i259) (by omega)
              have hki1 : 1 ≤ ki := tm_le hTi
              have hsi := tm_ok hTn i259 (by omega)
              rw [Nat.zero_add] at hsi
              have hsi9 := hsi
              unfold m_sg at hsi9
              refine h_run 4 (pc' := 76) (l' := [(0, .inr (.inr 1826)), (1, .inl (l : Int)), (2, .inl bk), (3, .inl (s : Int)), (4, .inl (q : Int)), (5, .inl wh), (6, .inl (o : Int)), (7, .inl (i259 : Int))]) (st' := [.inl bk, .inl (2 * (l : Int))]) rfl ?_
              refine h_zeq (off := 7) (t := 83) rfl rfl (by omega) (fun c263 => ?_) (fun c263 => ?_)
              · refine h_run 2 (pc' := 85) (l' := [(0, .inr (.inr 1826)), (1, .inl (l : Int)), (2, .inl bk), (3, .inl (s : Int)), (4, .inl (q : Int)), (5, .inl wh), (6, .inl (o : Int)), (7, .inl (i259 : Int))]) (st' := [.inl ((2 * (l : Int)) + 0)]) rfl ?_
                obtain ⟨a9, ha9⟩ : ∃ x9 : Nat, x9 = 2 * l + 0 := ⟨_, rfl⟩
                rw [show ((2 * (l : Int)) + 0) = ((a9 : Nat) : Int) from (by omega)]
                refine h_run 5 (pc' := 91) (l' := [(0, .inr (.inr 1826)), (1, .inl (l : Int)), (2, .inl bk), (3, .inl (s : Int)), (4, .inl (q : Int)), (5, .inl wh), (6, .inl (o : Int)), (7, .inl (i259 : Int)), (8, .inl (a9 : Int))]) (st' := [.inl bk, .inl (2 * (l : Int))]) rfl ?_
                refine h_zeq (off := 7) (t := 98) rfl rfl (by omega) (fun c264 => ?_) (fun c264 => ?_)
                · refine h_run 2 (pc' := 100) (l' := [(0, .inr (.inr 1826)), (1, .inl (l : Int)), (2, .inl bk), (3, .inl (s : Int)), (4, .inl (q : Int)), (5, .inl wh), (6, .inl (o : Int)), (7, .inl (i259 : Int)), (8, .inl (a9 : Int))]) (st' := [.inl ((2 * (l : Int)) + 1)]) rfl ?_
                  obtain ⟨b9, hb9⟩ : ∃ x9 : Nat, x9 = 2 * l + 1 := ⟨_, rfl⟩
                  rw [show ((2 * (l : Int)) + 1) = ((b9 : Nat) : Int) from (by omega)]
                  refine h_run 3 (pc' := 104) (l' := [(0, .inr (.inr 1826)), (1, .inl (l : Int)), (2, .inl bk), (3, .inl (s : Int)), (4, .inl (q : Int)), (5, .inl wh), (6, .inl (o : Int)), (7, .inl (i259 : Int)), (8, .inl (a9 : Int)), (9, .inl (b9 : Int))]) (st' := [.inl (l : Int), .inr (.inr 1826)]) rfl ?_
                  refine h_puti (i := 202) (ci := 13) (k := 97) (a := 1826) (x := (l : Int)) rfl rfl rfl rfl rfl rfl (by decide) (by omega) ?_
                  refine h_run 9 (pc' := 123) (l' := [(0, .inr (.inr 1826)), (1, .inl (l : Int)), (2, .inl bk), (3, .inl (s : Int)), (4, .inl (q : Int)), (5, .inl wh), (6, .inl (o : Int)), (7, .inl (i259 : Int)), (8, .inl (a9 : Int)), (9, .inl (b9 : Int))]) (st' := [.inl (a9 : Int), .inr (.inr 1843), .inl (48 * (a9 : Int)), .inr (.inr 1842), .inr (.inr 1826)]) rfl ?_
                  refine h_ild (c := 1843) (j := a9) (i := (a9 : Int)) rfl rfl (by decide) rfl (by omega) ?_
                  have g265 : -2147483648 ≤ (H255.1 1843 a9) ∧ (H255.1 1843 a9) ≤ 2147483647 := hrg256.2 1843 a9 32 .int rfl (by omega)
                  have e266 : (H255.1 1843 a9) = (H.1 1843 a9) := congrFun (hfH255.2.1 1843 (by decide) (by decide)) a9
                  refine h_run 0 (pc' := 124) (l' := [(0, .inr (.inr 1826)), (1, .inl (l : Int)), (2, .inl bk), (3, .inl (s : Int)), (4, .inl (q : Int)), (5, .inl wh), (6, .inl (o : Int)), (7, .inl (i259 : Int)), (8, .inl (a9 : Int)), (9, .inl (b9 : Int))]) (st' := [.inl (H255.1 1843 a9), .inl (48 * (a9 : Int)), .inr (.inr 1842), .inr (.inr 1826)]) rfl ?_
                  have hsza9 : (H255.1 1843) a9 = (k0 : Int) := by rw [show (H255.1 1843) = (H.1 1843) from hfH255.2.1 1843 (by decide) (by decide), ha9]; exact k01
                  rw [show (H255.1 1843 a9) = (k0 : Int) by omega]
                  refine h_run 5 (pc' := 135) (l' := [(0, .inr (.inr 1826)), (1, .inl (l : Int)), (2, .inl bk), (3, .inl (s : Int)), (4, .inl (q : Int)), (5, .inl wh), (6, .inl (o : Int)), (7, .inl (i259 : Int)), (8, .inl (a9 : Int)), (9, .inl (b9 : Int))]) (st' := [.inl (o : Int), .inr (.inr 1875), .inl (i259 : Int), .inl 1000, .inl (k0 : Int), .inl (48 * (a9 : Int)), .inr (.inr 1842), .inr (.inr 1826)]) rfl ?_
                  refine h_ild (c := 1875) (j := o) (i := (o : Int)) rfl rfl (by decide) rfl (by omega) ?_
                  have g267 : -2147483648 ≤ (H255.1 1875 o) ∧ (H255.1 1875 o) ≤ 2147483647 := hrg256.2 1875 o 40 .int rfl (by omega)
                  have e268 : (H255.1 1875 o) = (H.1 1875 o) := congrFun (hfH255.2.1 1875 (by decide) (by decide)) o
                  refine h_run 0 (pc' := 136) (l' := [(0, .inr (.inr 1826)), (1, .inl (l : Int)), (2, .inl bk), (3, .inl (s : Int)), (4, .inl (q : Int)), (5, .inl wh), (6, .inl (o : Int)), (7, .inl (i259 : Int)), (8, .inl (a9 : Int)), (9, .inl (b9 : Int))]) (st' := [.inl (H255.1 1875 o), .inl (i259 : Int), .inl 1000, .inl (k0 : Int), .inl (48 * (a9 : Int)), .inr (.inr 1842), .inr (.inr 1826)]) rfl ?_
                  refine h_run 3 (pc' := 141) (l' := [(0, .inr (.inr 1826)), (1, .inl (l : Int)), (2, .inl bk), (3, .inl (s : Int)), (4, .inl (q : Int)), (5, .inl wh), (6, .inl (o : Int)), (7, .inl (i259 : Int)), (8, .inl (a9 : Int)), (9, .inl (b9 : Int))]) (st' := [.inl (l : Int), .inr (.inr 1847), .inl (H255.1 1875 o), .inl (i259 : Int), .inl 1000, .inl (k0 : Int), .inl (48 * (a9 : Int)), .inr (.inr 1842), .inr (.inr 1826)]) rfl ?_
                  refine h_ild (c := 1847) (j := l) (i := (l : Int)) rfl rfl (by decide) rfl (by omega) ?_
                  have g269 : -2147483648 ≤ (H255.1 1847 l) ∧ (H255.1 1847 l) ≤ 2147483647 := hrg256.2 1847 l 16 .int rfl (by omega)
                  have e270 : (H255.1 1847 l) = (H.1 1847 l) := congrFun (hfH255.2.1 1847 (by decide) (by decide)) l
                  refine h_run 0 (pc' := 142) (l' := [(0, .inr (.inr 1826)), (1, .inl (l : Int)), (2, .inl bk), (3, .inl (s : Int)), (4, .inl (q : Int)), (5, .inl wh), (6, .inl (o : Int)), (7, .inl (i259 : Int)), (8, .inl (a9 : Int)), (9, .inl (b9 : Int))]) (st' := [.inl (H255.1 1847 l), .inl (H255.1 1875 o), .inl (i259 : Int), .inl 1000, .inl (k0 : Int), .inl (48 * (a9 : Int)), .inr (.inr 1842), .inr (.inr 1826)]) rfl ?_
                  refine h_run 1 (pc' := 143) (l' := [(0, .inr (.inr 1826)), (1, .inl (l : Int)), (2, .inl bk), (3, .inl (s : Int)), (4, .inl (q : Int)), (5, .inl wh), (6, .inl (o : Int)), (7, .inl (i259 : Int)), (8, .inl (a9 : Int)), (9, .inl (b9 : Int))]) (st' := [.inl 1, .inl (H255.1 1847 l), .inl (H255.1 1875 o), .inl (i259 : Int), .inl 1000, .inl (k0 : Int), .inl (48 * (a9 : Int)), .inr (.inr 1842), .inr (.inr 1826)]) rfl ?_
                  refine h_ine (off := 7) (t := 150) rfl rfl (by omega) (by decide) (fun c271 => ?_) (fun c271 => ?_)
                  · refine h_run 1 (pc' := 151) (l' := [(0, .inr (.inr 1826)), (1, .inl (l : Int)), (2, .inl bk), (3, .inl (s : Int)), (4, .inl (q : Int)), (5, .inl wh), (6, .inl (o : Int)), (7, .inl (i259 : Int)), (8, .inl (a9 : Int)), (9, .inl (b9 : Int))]) (st' := [.inl 0, .inl (H255.1 1875 o), .inl (i259 : Int), .inl 1000, .inl (k0 : Int), .inl (48 * (a9 : Int)), .inr (.inr 1842), .inr (.inr 1826)]) rfl ?_
                    have g273 : -2147483648 ≤ (H255.1 1826 93) ∧ (H255.1 1826 93) ≤ 2147483647 := hrg256.1 1826 13 93 _ .int rfl rfl
                    have hQl : sP H (zu H255 1826 (up (H255.1 1826) 97 (l : Int))) := sP_fr (sP_rf H) (fr_o hf257 (by decide)) (by decide) (by decide)
                    have hPl : PWc (zu H255 1826 (up (H255.1 1826) 97 (l : Int))) := PWc_fr hP (fr_o hf257 (by decide)) (by decide) (by decide)
                    refine h_cv (i := 593) (j := 239) (b := 1826) (M' := mt_239) (xs := [.inl 0, .inl (H255.1 1875 o), .inl (i259 : Int), .inl 1000, .inl (k0 : Int), .inl (48 * (a9 : Int)), .inr (.inr 1842)]) (rest := []) rfl rfl rfl rfl rfl rfl (Nat.le_of_ble_eq_true rfl) (Nat.le_of_ble_eq_true rfl) (by omega) (m_isLike (p := (48 * a9)) (ln := k0) (N := N) (k := ki) (V := 6) (okp := (m_sg (H.1 1826 3) (H.1 1826 8) (vn : Nat))) (by omega) rfl (by decide) (by decide) hPl (by rw [hQl.1, hQl.2.1, hQl.2.2.1, hQl.2.2.2]; exact hTn) ⟨by omega, (show (H255.1 1826 93) = (N : Int) by omega)⟩ (by rw [hQl.1, hQl.2.1, hQl.2.2.1, hQl.2.2.2]; exact hTi) (by omega) (by rw [hQl.1, hQl.2.1]; exact (by show tm _ _ (H255.1 1842) _ _ 1; rw [show (H255.1 1842) = (H.1 1842) from hfH255.2.1 1842 (by decide) (by decide), ha9]; exact k03)) (show 48 * a9 + k0 ≤ 1536 ∧ k0 ≤ 60 by omega) (by omega) (Or.inr (show 0 ≤ (l : Int) ∧ (l : Int) ≤ 15 ∧ 6 ≤ 6 by omega)) (fun s9 h9 => by unfold m_sg at h9; omega) (by omega)) ?_
                    rintro _ H272 ⟨(rfl | ⟨rfl, xH272⟩), hfH272⟩
                    · refine h_rng (fun hrg274 => ?_)
                      have hf275 : fr [50, 51, 53, 76, 93, 97] [1847, 1852, 1853, 1855, 1856, 1873, 1874, 1878, 1884, 1886] H H272 := fr_t (fr_o hf257 (by decide)) hfH272 (by decide) (by decide)
                      have hOSH272 : OS H H272 n := OS_fr (OS_fr hOSH255 (show fr [97] [] H255 (zu H255 1826 (up (H255.1 1826) 97 (l : Int))) from (fr_o (fr_rf _ _ _) (by decide))) (by decide) (by decide) (by decide)) hfH272 (by decide) (by decide) (by decide)
                      have hooH272 : (H272.1 1871) 0 = (o : Int) := (congrFun (hfH272.2.1 1871 (by decide) (by decide)) 0).trans hooH255
                      refine h_run 0 (pc' := 154) (l' := [(0, .inr (.inr 1826)), (1, .inl (l : Int)), (2, .inl bk), (3, .inl (s : Int)), (4, .inl (q : Int)), (5, .inl wh), (6, .inl (o : Int)), (7, .inl (i259 : Int)), (8, .inl (a9 : Int)), (9, .inl (b9 : Int))]) (st' := [.inl 0]) rfl ?_
                      refine h_zeq (off := 35) (t := 189) rfl rfl (by decide) (fun _ => ?_) (fun c => absurd c (by decide))
                      refine h_run 4 (pc' := 194) (l' := [(0, .inr (.inr 1826)), (1, .inl (l : Int)), (2, .inl bk), (3, .inl (s : Int)), (4, .inl (q : Int)), (5, .inl wh), (6, .inl (o : Int)), (7, .inl (i259 : Int)), (8, .inl (a9 : Int)), (9, .inl (b9 : Int)), (10, .inl 0)]) (st' := [.inl (-1), .inr (.inr 1826)]) rfl ?_
                      refine h_puti (i := 202) (ci := 13) (k := 97) (a := 1826) (x := (-1)) rfl rfl rfl rfl rfl rfl (by decide) (by decide) ?_
                      refine h_run 1 (pc' := 199) (l' := [(0, .inr (.inr 1826)), (1, .inl (l : Int)), (2, .inl bk), (3, .inl (s : Int)), (4, .inl (q : Int)), (5, .inl wh), (6, .inl (o : Int)), (7, .inl (i259 : Int)), (8, .inl (a9 : Int)), (9, .inl (b9 : Int)), (10, .inl 0)]) (st' := [.inl 0]) rfl ?_
                      refine h_zne (off := 8) (t := 207) rfl rfl (by decide) (fun c => absurd c (by decide)) (fun _ => ?_)
                      refine h_run 2 (pc' := 226) (l' := [(0, .inr (.inr 1826)), (1, .inl (l : Int)), (2, .inl bk), (3, .inl (s : Int)), (4, .inl (q : Int)), (5, .inl wh), (6, .inl (o : Int)), (7, .inl (i259 : Int)), (8, .inl (a9 : Int)), (9, .inl (b9 : Int)), (10, .inl 0)]) (st' := [.inl (-104)]) rfl ?_
                      refine h_reti (x := (-104)) rfl rfl ?_
                      exact ⟨(fr_o hf275 (by decide)), (show (-1 : Int) = -1 by omega), (OS_fr hOSH272 (show fr [97] [] H272 (zu H272 1826 (up (H272.1 1826) 97 (-1))) from (fr_o (fr_rf _ _ _) (by decide))) (by decide) (by decide) (by decide)), _, rfl, by omega, by omega⟩
                    · refine h_rng (fun hrg276 => ?_)
                      have hf277 : fr [50, 51, 53, 76, 93, 97] [1847, 1852, 1853, 1855, 1856, 1873, 1874, 1878, 1884, 1886] H H272 := fr_t (fr_o hf257 (by decide)) hfH272 (by decide) (by decide)
                      have hOSH272 : OS H H272 n := OS_fr (OS_fr hOSH255 (show fr [97] [] H255 (zu H255 1826 (up (H255.1 1826) 97 (l : Int))) from (fr_o (fr_rf _ _ _) (by decide))) (by decide) (by decide) (by decide)) hfH272 (by decide) (by decide) (by decide)
                      have hooH272 : (H272.1 1871) 0 = (o : Int) := (congrFun (hfH272.2.1 1871 (by decide) (by decide)) 0).trans hooH255
                      have eNH272 : (H272.1 1884) = (H255.1 1884) := hfH272.2.1 1884 (by decide) (by decide)
                      have yH272 : fre (ma (H.1 1833) (H.1 1830)) (m_sg (H.1 1826 3) (H.1 1826 8) 60) (H272.1 1884) (H272.1 1886) N := by have h9 := xH272; rw [hQl.1, hQl.2.1, hQl.2.2.1, hQl.2.2.2] at h9; rw [eNH272]; exact h9
                      have hTnH272 : tm (ma (H.1 1833) (H.1 1830)) (m_sg (H.1 1826 3) (H.1 1826 8) 60) (H272.1 1884) N 0 1 := by rw [eNH272]; exact hTn
                      have hTiH272 : tm (ma (H.1 1833) (H.1 1830)) (m_sg (H.1 1826 3) (H.1 1826 8) 60) (H272.1 1884) ki i259 1 := by rw [eNH272]; exact hTi
                      refine h_run 0 (pc' := 154) (l' := [(0, .inr (.inr 1826)), (1, .inl (l : Int)), (2, .inl bk), (3, .inl (s : Int)), (4, .inl (q : Int)), (5, .inl wh), (6, .inl (o : Int)), (7, .inl (i259 : Int)), (8, .inl (a9 : Int)), (9, .inl (b9 : Int))]) (st' := [.inl 1]) rfl ?_
                      refine h_zeq (off := 35) (t := 189) rfl rfl (by decide) (fun c => absurd c (by decide)) (fun _ => ?_)
                      refine h_run 9 (pc' := 173) (l' := [(0, .inr (.inr 1826)), (1, .inl (l : Int)), (2, .inl bk), (3, .inl (s : Int)), (4, .inl (q : Int)), (5, .inl wh), (6, .inl (o : Int)), (7, .inl (i259 : Int)), (8, .inl (a9 : Int)), (9, .inl (b9 : Int))]) (st' := [.inl (b9 : Int), .inr (.inr 1843), .inl (48 * (b9 : Int)), .inr (.inr 1842), .inr (.inr 1826)]) rfl ?_
                      refine h_ild (c := 1843) (j := b9) (i := (b9 : Int)) rfl rfl (by decide) rfl (by omega) ?_
                      have g278 : -2147483648 ≤ (H272.1 1843 b9) ∧ (H272.1 1843 b9) ≤ 2147483647 := hrg276.2 1843 b9 32 .int rfl (by omega)
                      have e279 : (H272.1 1843 b9) = (H255.1 1843 b9) := congrFun (hfH272.2.1 1843 (by decide) (by decide)) b9
                      have e280 : (H255.1 1843 b9) = (H.1 1843 b9) := congrFun (hfH255.2.1 1843 (by decide) (by decide)) b9
                      refine h_run 0 (pc' := 174) (l' := [(0, .inr (.inr 1826)), (1, .inl (l : Int)), (2, .inl bk), (3, .inl (s : Int)), (4, .inl (q : Int)), (5, .inl wh), (6, .inl (o : Int)), (7, .inl (i259 : Int)), (8, .inl (a9 : Int)), (9, .inl (b9 : Int))]) (st' := [.inl (H272.1 1843 b9), .inl (48 * (b9 : Int)), .inr (.inr 1842), .inr (.inr 1826)]) rfl ?_
                      have hszb9 : (H272.1 1843) b9 = (k1 : Int) := by rw [show (H272.1 1843) = (H255.1 1843) from hfH272.2.1 1843 (by decide) (by decide), show (H255.1 1843) = (H.1 1843) from hfH255.2.1 1843 (by decide) (by decide), hb9]; exact k11
                      rw [show (H272.1 1843 b9) = (k1 : Int) by omega]
                      refine h_run 2 (pc' := 179) (l' := [(0, .inr (.inr 1826)), (1, .inl (l : Int)), (2, .inl bk), (3, .inl (s : Int)), (4, .inl (q : Int)), (5, .inl wh), (6, .inl (o : Int)), (7, .inl (i259 : Int)), (8, .inl (a9 : Int)), (9, .inl (b9 : Int))]) (st' := [.inl (i259 : Int), .inl 1000, .inl (k1 : Int), .inl (48 * (b9 : Int)), .inr (.inr 1842), .inr (.inr 1826)]) rfl ?_
                      have g282 : -2147483648 ≤ (H272.1 1826 93) ∧ (H272.1 1826 93) ≤ 2147483647 := hrg276.1 1826 13 93 _ .int rfl rfl
                      have e283 : (H272.1 1826 93) = (H255.1 1826 93) := hfH272.2.2 93 (by decide)
                      have hQk : sP H H272 := sP_fr (sP_rf H) hf277 (by decide) (by decide)
                      have hPk : PWc H272 := PWc_fr hP hf277 (by decide) (by decide)
                      refine h_cv (i := 597) (j := 242) (b := 1826) (M' := mt_242) (xs := [.inl (i259 : Int), .inl 1000, .inl (k1 : Int), .inl (48 * (b9 : Int)), .inr (.inr 1842)]) (rest := []) rfl rfl rfl rfl rfl rfl (Nat.le_of_ble_eq_true rfl) (Nat.le_of_ble_eq_true rfl) (by omega) (m_isMade (p := (48 * b9)) (ln := k1) (N := N) (k := ki) (okp := (m_sg (H.1 1826 3) (H.1 1826 8) (vn : Nat))) (by omega) rfl (by decide) (by decide) hPk (by rw [hQk.1, hQk.2.1, hQk.2.2.1, hQk.2.2.2]; exact hTnH272) ⟨by omega, (show (H272.1 1826 93) = (N : Int) by omega)⟩ (by rw [hQk.1, hQk.2.1, hQk.2.2.1, hQk.2.2.2]; exact hTiH272) (by omega) (by rw [hQk.1, hQk.2.1]; exact (by show tm _ _ (H272.1 1842) _ _ 1; rw [show (H272.1 1842) = (H255.1 1842) from hfH272.2.1 1842 (by decide) (by decide), show (H255.1 1842) = (H.1 1842) from hfH255.2.1 1842 (by decide) (by decide), hb9]; exact k13)) (show 48 * b9 + k1 ≤ 1536 ∧ k1 ≤ 60 by omega) (by omega) (by rw [hQk.2.2.1, hQk.2.2.2]; exact (fun s9 h9 => by unfold m_sg at *; omega)) (by rw [hQk.1, hQk.2.1, hQk.2.2.1, hQk.2.2.2]; exact yH272)) ?_
                      rintro _ H281 ⟨(rfl | ⟨rfl, MH281, zH281, mH281, tH281⟩), hfH281⟩
                      · refine h_rng (fun hrg284 => ?_)
                        have hf285 : fr [50, 51, 53, 76, 93, 97] [1847, 1852, 1853, 1855, 1856, 1873, 1874, 1878, 1884, 1886] H H281 := fr_t hf277 hfH281 (by decide) (by decide)
                        have hOSH281 : OS H H281 n := OS_fr hOSH272 hfH281 (by decide) (by decide) (by decide)
                        have hooH281 : (H281.1 1871) 0 = (o : Int) := (congrFun (hfH281.2.1 1871 (by decide) (by decide)) 0).trans hooH272
                        refine h_run 0 (pc' := 182) (l' := [(0, .inr (.inr 1826)), (1, .inl (l : Int)), (2, .inl bk), (3, .inl (s : Int)), (4, .inl (q : Int)), (5, .inl wh), (6, .inl (o : Int)), (7, .inl (i259 : Int)), (8, .inl (a9 : Int)), (9, .inl (b9 : Int))]) (st' := [.inl 0]) rfl ?_
                        refine h_zeq (off := 7) (t := 189) rfl rfl (by decide) (fun _ => ?_) (fun c => absurd c (by decide))
                        refine h_run 4 (pc' := 194) (l' := [(0, .inr (.inr 1826)), (1, .inl (l : Int)), (2, .inl bk), (3, .inl (s : Int)), (4, .inl (q : Int)), (5, .inl wh), (6, .inl (o : Int)), (7, .inl (i259 : Int)), (8, .inl (a9 : Int)), (9, .inl (b9 : Int)), (10, .inl 0)]) (st' := [.inl (-1), .inr (.inr 1826)]) rfl ?_
                        refine h_puti (i := 202) (ci := 13) (k := 97) (a := 1826) (x := (-1)) rfl rfl rfl rfl rfl rfl (by decide) (by decide) ?_
                        refine h_run 1 (pc' := 199) (l' := [(0, .inr (.inr 1826)), (1, .inl (l : Int)), (2, .inl bk), (3, .inl (s : Int)), (4, .inl (q : Int)), (5, .inl wh), (6, .inl (o : Int)), (7, .inl (i259 : Int)), (8, .inl (a9 : Int)), (9, .inl (b9 : Int)), (10, .inl 0)]) (st' := [.inl 0]) rfl ?_
                        refine h_zne (off := 8) (t := 207) rfl rfl (by decide) (fun c => absurd c (by decide)) (fun _ => ?_)
                        refine h_run 2 (pc' := 226) (l' := [(0, .inr (.inr 1826)), (1, .inl (l : Int)), (2, .inl bk), (3, .inl (s : Int)), (4, .inl (q : Int)), (5, .inl wh), (6, .inl (o : Int)), (7, .inl (i259 : Int)), (8, .inl (a9 : Int)), (9, .inl (b9 : Int)), (10, .inl 0)]) (st' := [.inl (-104)]) rfl ?_
                        refine h_reti (x := (-104)) rfl rfl ?_
                        exact ⟨(fr_o hf285 (by decide)), (show (-1 : Int) = -1 by omega), (OS_fr hOSH281 (show fr [97] [] H281 (zu H281 1826 (up (H281.1 1826) 97 (-1))) from (fr_o (fr_rf _ _ _) (by decide))) (by decide) (by decide) (by decide)), _, rfl, by omega, by omega⟩
                      · refine h_rng (fun hrg286 => ?_)
                        have hf287 : fr [50, 51, 53, 76, 93, 97] [1847, 1852, 1853, 1855, 1856, 1873, 1874, 1878, 1884, 1886] H H281 := fr_t hf277 hfH281 (by decide) (by decide)
                        have hOSH281 : OS H H281 n := OS_fr hOSH272 hfH281 (by decide) (by decide) (by decide)
                        have hooH281 : (H281.1 1871) 0 = (o : Int) := (congrFun (hfH281.2.1 1871 (by decide) (by decide)) 0).trans hooH272
                        have tdH281 : tm (ma (H.1 1833) (H.1 1830)) (m_sg (H.1 1826 3) (H.1 1826 8) 60) (H281.1 1856) MH281 0 1 := by have h9 := tH281; rw [hQk.1, hQk.2.1, hQk.2.2.1, hQk.2.2.2] at h9; exact h9
                        refine h_run 0 (pc' := 182) (l' := [(0, .inr (.inr 1826)), (1, .inl (l : Int)), (2, .inl bk), (3, .inl (s : Int)), (4, .inl (q : Int)), (5, .inl wh), (6, .inl (o : Int)), (7, .inl (i259 : Int)), (8, .inl (a9 : Int)), (9, .inl (b9 : Int))]) (st' := [.inl 1]) rfl ?_
                        refine h_zeq (off := 7) (t := 189) rfl rfl (by decide) (fun c => absurd c (by decide)) (fun _ => ?_)
                        refine h_run 5 (pc' := 194) (l' := [(0, .inr (.inr 1826)), (1, .inl (l : Int)), (2, .inl bk), (3, .inl (s : Int)), (4, .inl (q : Int)), (5, .inl wh), (6, .inl (o : Int)), (7, .inl (i259 : Int)), (8, .inl (a9 : Int)), (9, .inl (b9 : Int)), (10, .inl 1)]) (st' := [.inl (-1), .inr (.inr 1826)]) rfl ?_
                        refine h_puti (i := 202) (ci := 13) (k := 97) (a := 1826) (x := (-1)) rfl rfl rfl rfl rfl rfl (by decide) (by decide) ?_
                        refine h_run 1 (pc' := 199) (l' := [(0, .inr (.inr 1826)), (1, .inl (l : Int)), (2, .inl bk), (3, .inl (s : Int)), (4, .inl (q : Int)), (5, .inl wh), (6, .inl (o : Int)), (7, .inl (i259 : Int)), (8, .inl (a9 : Int)), (9, .inl (b9 : Int)), (10, .inl 1)]) (st' := [.inl 1]) rfl ?_
                        refine h_zne (off := 8) (t := 207) rfl rfl (by decide) (fun _ => ?_) (fun c => absurd c (by decide))
                        refine h_run 3 (pc' := 211) (l' := [(0, .inr (.inr 1826)), (1, .inl (l : Int)), (2, .inl bk), (3, .inl (s : Int)), (4, .inl (q : Int)), (5, .inl wh), (6, .inl (o : Int)), (7, .inl (i259 : Int)), (8, .inl (a9 : Int)), (9, .inl (b9 : Int)), (10, .inl 1)]) (st' := [.inl (s : Int), .inl (o : Int), .inr (.inr 1826)]) rfl ?_
                        refine h_cv (i := 575) (j := 229) (b := 1826) (M' := mt_229) (xs := [.inl (s : Int), .inl (o : Int)]) (rest := []) rfl rfl rfl rfl rfl rfl (Nat.le_of_ble_eq_true rfl) (Nat.le_of_ble_eq_true rfl) (by omega) (m_isKept (M := MH281) (by omega) (by omega) ⟨zH281, mH281⟩) ?_
                        rintro _ H288 (⟨rfl, hxH288, rfl⟩ | ⟨rfl, hlH288, hfH288, hzH288, hcH288, hoH288⟩)
                        · refine h_run 0 (pc' := 214) (l' := [(0, .inr (.inr 1826)), (1, .inl (l : Int)), (2, .inl bk), (3, .inl (s : Int)), (4, .inl (q : Int)), (5, .inl wh), (6, .inl (o : Int)), (7, .inl (i259 : Int)), (8, .inl (a9 : Int)), (9, .inl (b9 : Int)), (10, .inl 1)]) (st' := [.inl 0]) rfl ?_
                          refine h_zeq (off := 10) (t := 224) rfl rfl (by decide) (fun _ => ?_) (fun c => absurd c (by decide))
                          refine h_run 1 (pc' := 226) (l' := [(0, .inr (.inr 1826)), (1, .inl (l : Int)), (2, .inl bk), (3, .inl (s : Int)), (4, .inl (q : Int)), (5, .inl wh), (6, .inl (o : Int)), (7, .inl (i259 : Int)), (8, .inl (a9 : Int)), (9, .inl (b9 : Int)), (10, .inl 1)]) (st' := [.inl (-105)]) rfl ?_
                          refine h_reti (x := (-105)) rfl rfl ?_
                          exact ⟨(fr_o hf287 (by decide)), (show (-1 : Int) = -1 by omega), (OS_fr hOSH281 (show fr [97] [] H281 (zu H281 1826 (up (H281.1 1826) 97 (-1))) from (fr_o (fr_rf _ _ _) (by decide))) (by decide) (by decide) (by decide)), _, rfl, by omega, by omega⟩
                        · refine h_rng (fun hrg289 => ?_)
                          have hf290 : fr [50, 51, 53, 76, 93, 97] [1847, 1852, 1853, 1855, 1856, 1873, 1874, 1878, 1884, 1886] H H288 := fr_t (fr_o hf287 (by decide)) hfH288 (by decide) (by decide)
                          have hOSH288 : OS H H288 n := OS_side (OS_fr hOSH281 (show fr [97] [] H281 (zu H281 1826 (up (H281.1 1826) 97 (-1))) from (fr_o (fr_rf _ _ _) (by decide))) (by decide) (by decide) (by decide)) hooH281 hfH288 hs hlH288 hzH288 hcH288 hoH288 tdH281
                          have hooH288 : (H288.1 1871) 0 = (o : Int) := (congrFun (hfH288.2.1 1871 (by decide) (by decide)) 0).trans hooH281
                          refine h_run 0 (pc' := 214) (l' := [(0, .inr (.inr 1826)), (1, .inl (l : Int)), (2, .inl bk), (3, .inl (s : Int)), (4, .inl (q : Int)), (5, .inl wh), (6, .inl (o : Int)), (7, .inl (i259 : Int)), (8, .inl (a9 : Int)), (9, .inl (b9 : Int)), (10, .inl 1)]) (st' := [.inl 1]) rfl ?_
                          refine h_zeq (off := 10) (t := 224) rfl rfl (by decide) (fun c => absurd c (by decide)) (fun _ => ?_)
                          refine h_run 1 (pc' := 218) (l' := [(0, .inr (.inr 1826)), (1, .inl (l : Int)), (2, .inl bk), (3, .inl (s : Int)), (4, .inl (q : Int)), (5, .inl wh), (6, .inl (o : Int)), (7, .inl (i259 : Int)), (8, .inl (a9 : Int)), (9, .inl (b9 : Int)), (10, .inl 1)]) (st' := [.inr (.inr 1826)]) rfl ?_
                          refine h_cv (i := 556) (j := 232) (b := 1826) (M' := mt_232) (xs := []) (rest := []) rfl rfl rfl rfl rfl rfl (Nat.le_of_ble_eq_true rfl) (Nat.le_of_ble_eq_true rfl) (by omega) (m_did (n := n) (by omega) hOSH288.1.1 (fun q9 => absurd q9 (by omega)) (by rw [show (H288.1 1871) 0 = (o : Int) from hooH288]; omega)) ?_
                          rintro _ H291 ⟨rfl, hfH291⟩
                          refine h_rng (fun hrg292 => ?_)
                          have hf293 : fr [50, 51, 53, 76, 93, 97] [1847, 1852, 1853, 1855, 1856, 1873, 1874, 1878, 1884, 1886] H H291 := fr_t hf290 hfH291 (by decide) (by decide)
                          have hOSH291 : OS H H291 n := OS_fr hOSH288 hfH291 (by decide) (by decide) (by decide)
                          have hooH291 : (H291.1 1871) 0 = (o : Int) := (congrFun (hfH291.2.1 1871 (by decide) (by decide)) 0).trans hooH288
                          refine h_run 0 (pc' := 221) (l' := [(0, .inr (.inr 1826)), (1, .inl (l : Int)), (2, .inl bk), (3, .inl (s : Int)), (4, .inl (q : Int)), (5, .inl wh), (6, .inl (o : Int)), (7, .inl (i259 : Int)), (8, .inl (a9 : Int)), (9, .inl (b9 : Int)), (10, .inl 1)]) (st' := [.inl (n : Int)]) rfl ?_
                          refine h_run 1 (pc' := 226) (l' := [(0, .inr (.inr 1826)), (1, .inl (l : Int)), (2, .inl bk), (3, .inl (s : Int)), (4, .inl (q : Int)), (5, .inl wh), (6, .inl (o : Int)), (7, .inl (i259 : Int)), (8, .inl (a9 : Int)), (9, .inl (b9 : Int)), (10, .inl 1)]) (st' := [.inl (n : Int)]) rfl ?_
                          refine h_reti (x := (n : Int)) rfl rfl ?_
                          have g294 : -2147483648 ≤ (H291.1 1826 97) ∧ (H291.1 1826 97) ≤ 2147483647 := hrg292.1 1826 13 97 _ .int rfl rfl
                          have e295 : (H291.1 1826 97) = (H288.1 1826 97) := hfH291.2.2 97 (by decide)
                          have e296 : (H288.1 1826 97) = (-1) := hfH288.2.2 97 (by decide)
                          exact ⟨hf293, (show (H291.1 1826 97) = -1 by omega), hOSH291, _, rfl, by omega, by omega⟩
                  · refine h_run 2 (pc' := 151) (l' := [(0, .inr (.inr 1826)), (1, .inl (l : Int)), (2, .inl bk), (3, .inl (s : Int)), (4, .inl (q : Int)), (5, .inl wh), (6, .inl (o : Int)), (7, .inl (i259 : Int)), (8, .inl (a9 : Int)), (9, .inl (b9 : Int))]) (st' := [.inl 1, .inl (H255.1 1875 o), .inl (i259 : Int), .inl 1000, .inl (k0 : Int), .inl (48 * (a9 : Int)), .inr (.inr 1842), .inr (.inr 1826)]) rfl ?_
                    have g298 : -2147483648 ≤ (H255.1 1826 93) ∧ (H255.1 1826 93) ≤ 2147483647 := hrg256.1 1826 13 93 _ .int rfl rfl
                    have hQl : sP H (zu H255 1826 (up (H255.1 1826) 97 (l : Int))) := sP_fr (sP_rf H) (fr_o hf257 (by decide)) (by decide) (by decide)
                    have hPl : PWc (zu H255 1826 (up (H255.1 1826) 97 (l : Int))) := PWc_fr hP (fr_o hf257 (by decide)) (by decide) (by decide)
                    refine h_cv (i := 593) (j := 239) (b := 1826) (M' := mt_239) (xs := [.inl 1, .inl (H255.1 1875 o), .inl (i259 : Int), .inl 1000, .inl (k0 : Int), .inl (48 * (a9 : Int)), .inr (.inr 1842)]) (rest := []) rfl rfl rfl rfl rfl rfl (Nat.le_of_ble_eq_true rfl) (Nat.le_of_ble_eq_true rfl) (by omega) (m_isLike (p := (48 * a9)) (ln := k0) (N := N) (k := ki) (V := 6) (okp := (m_sg (H.1 1826 3) (H.1 1826 8) (vn : Nat))) (by omega) rfl (by decide) (by decide) hPl (by rw [hQl.1, hQl.2.1, hQl.2.2.1, hQl.2.2.2]; exact hTn) ⟨by omega, (show (H255.1 1826 93) = (N : Int) by omega)⟩ (by rw [hQl.1, hQl.2.1, hQl.2.2.1, hQl.2.2.2]; exact hTi) (by omega) (by rw [hQl.1, hQl.2.1]; exact (by show tm _ _ (H255.1 1842) _ _ 1; rw [show (H255.1 1842) = (H.1 1842) from hfH255.2.1 1842 (by decide) (by decide), ha9]; exact k03)) (show 48 * a9 + k0 ≤ 1536 ∧ k0 ≤ 60 by omega) (by omega) (Or.inr (show 0 ≤ (l : Int) ∧ (l : Int) ≤ 15 ∧ 6 ≤ 6 by omega)) (fun s9 h9 => by unfold m_sg at h9; omega) (by omega)) ?_
                    rintro _ H297 ⟨(rfl | ⟨rfl, xH297⟩), hfH297⟩
                    · refine h_rng (fun hrg299 => ?_)
                      have hf300 : fr [50, 51, 53, 76, 93, 97] [1847, 1852, 1853, 1855, 1856, 1873, 1874, 1878, 1884, 1886] H H297 := fr_t (fr_o hf257 (by decide)) hfH297 (by decide) (by decide)
                      have hOSH297 : OS H H297 n := OS_fr (OS_fr hOSH255 (show fr [97] [] H255 (zu H255 1826 (up (H255.1 1826) 97 (l : Int))) from (fr_o (fr_rf _ _ _) (by decide))) (by decide) (by decide) (by decide)) hfH297 (by decide) (by decide) (by decide)
                      have hooH297 : (H297.1 1871) 0 = (o : Int) := (congrFun (hfH297.2.1 1871 (by decide) (by decide)) 0).trans hooH255
                      refine h_run 0 (pc' := 154) (l' := [(0, .inr (.inr 1826)), (1, .inl (l : Int)), (2, .inl bk), (3, .inl (s : Int)), (4, .inl (q : Int)), (5, .inl wh), (6, .inl (o : Int)), (7, .inl (i259 : Int)), (8, .inl (a9 : Int)), (9, .inl (b9 : Int))]) (st' := [.inl 0]) rfl ?_
                      refine h_zeq (off := 35) (t := 189) rfl rfl (by decide) (fun _ => ?_) (fun c => absurd c (by decide))
                      refine h_run 4 (pc' := 194) (l' := [(0, .inr (.inr 1826)), (1, .inl (l : Int)), (2, .inl bk), (3, .inl (s : Int)), (4, .inl (q : Int)), (5, .inl wh), (6, .inl (o : Int)), (7, .inl (i259 : Int)), (8, .inl (a9 : Int)), (9, .inl (b9 : Int)), (10, .inl 0)]) (st' := [.inl (-1), .inr (.inr 1826)]) rfl ?_
                      refine h_puti (i := 202) (ci := 13) (k := 97) (a := 1826) (x := (-1)) rfl rfl rfl rfl rfl rfl (by decide) (by decide) ?_
                      refine h_run 1 (pc' := 199) (l' := [(0, .inr (.inr 1826)), (1, .inl (l : Int)), (2, .inl bk), (3, .inl (s : Int)), (4, .inl (q : Int)), (5, .inl wh), (6, .inl (o : Int)), (7, .inl (i259 : Int)), (8, .inl (a9 : Int)), (9, .inl (b9 : Int)), (10, .inl 0)]) (st' := [.inl 0]) rfl ?_
                      refine h_zne (off := 8) (t := 207) rfl rfl (by decide) (fun c => absurd c (by decide)) (fun _ => ?_)
                      refine h_run 2 (pc' := 226) (l' := [(0, .inr (.inr 1826)), (1, .inl (l : Int)), (2, .inl bk), (3, .inl (s : Int)), (4, .inl (q : Int)), (5, .inl wh), (6, .inl (o : Int)), (7, .inl (i259 : Int)), (8, .inl (a9 : Int)), (9, .inl (b9 : Int)), (10, .inl 0)]) (st' := [.inl (-104)]) rfl ?_
                      refine h_reti (x := (-104)) rfl rfl ?_
                      exact ⟨(fr_o hf300 (by decide)), (show (-1 : Int) = -1 by omega), (OS_fr hOSH297 (show fr [97] [] H297 (zu H297 1826 (up (H297.1 1826) 97 (-1))) from (fr_o (fr_rf _ _ _) (by decide))) (by decide) (by decide) (by decide)), _, rfl, by omega, by omega⟩
                    · refine h_rng (fun hrg301 => ?_)
                      have hf302 : fr [50, 51, 53, 76, 93, 97] [1847, 1852, 1853, 1855, 1856, 1873, 1874, 1878, 1884, 1886] H H297 := fr_t (fr_o hf257 (by decide)) hfH297 (by decide) (by decide)
                      have hOSH297 : OS H H297 n := OS_fr (OS_fr hOSH255 (show fr [97] [] H255 (zu H255 1826 (up (H255.1 1826) 97 (l : Int))) from (fr_o (fr_rf _ _ _) (by decide))) (by decide) (by decide) (by decide)) hfH297 (by decide) (by decide) (by decide)
                      have hooH297 : (H297.1 1871) 0 = (o : Int) := (congrFun (hfH297.2.1 1871 (by decide) (by decide)) 0).trans hooH255
                      have eNH297 : (H297.1 1884) = (H255.1 1884) := hfH297.2.1 1884 (by decide) (by decide)
                      have yH297 : fre (ma (H.1 1833) (H.1 1830)) (m_sg (H.1 1826 3) (H.1 1826 8) 60) (H297.1 1884) (H297.1 1886) N := by have h9 := xH297; rw [hQl.1, hQl.2.1, hQl.2.2.1, hQl.2.2.2] at h9; rw [eNH297]; exact h9
                      have hTnH297 : tm (ma (H.1 1833) (H.1 1830)) (m_sg (H.1 1826 3) (H.1 1826 8) 60) (H297.1 1884) N 0 1 := by rw [eNH297]; exact hTn
                      have hTiH297 : tm (ma (H.1 1833) (H.1 1830)) (m_sg (H.1 1826 3) (H.1 1826 8) 60) (H297.1 1884) ki i259 1 := by rw [eNH297]; exact hTi
                      refine h_run 0 (pc' := 154) (l' := [(0, .inr (.inr 1826)), (1, .inl (l : Int)), (2, .inl bk), (3, .inl (s : Int)), (4, .inl (q : Int)), (5, .inl wh), (6, .inl (o : Int)), (7, .inl (i259 : Int)), (8, .inl (a9 : Int)), (9, .inl (b9 : Int))]) (st' := [.inl 1]) rfl ?_
                      refine h_zeq (off := 35) (t := 189) rfl rfl (by decide) (fun c => absurd c (by decide)) (fun _ => ?_)
                      refine h_run 9 (pc' := 173) (l' := [(0, .inr (.inr 1826)), (1, .inl (l : Int)), (2, .inl bk), (3, .inl (s : Int)), (4, .inl (q : Int)), (5, .inl wh), (6, .inl (o : Int)), (7, .inl (i259 : Int)), (8, .inl (a9 : Int)), (9, .inl (b9 : Int))]) (st' := [.inl (b9 : Int), .inr (.inr 1843), .inl (48 * (b9 : Int)), .inr (.inr 1842), .inr (.inr 1826)]) rfl ?_
                      refine h_ild (c := 1843) (j := b9) (i := (b9 : Int)) rfl rfl (by decide) rfl (by omega) ?_
                      have g303 : -2147483648 ≤ (H297.1 1843 b9) ∧ (H297.1 1843 b9) ≤ 2147483647 := hrg301.2 1843 b9 32 .int rfl (by omega)
                      have e304 : (H297.1 1843 b9) = (H255.1 1843 b9) := congrFun (hfH297.2.1 1843 (by decide) (by decide)) b9
                      have e305 : (H255.1 1843 b9) = (H.1 1843 b9) := congrFun (hfH255.2.1 1843 (by decide) (by decide)) b9
                      refine h_run 0 (pc' := 174) (l' := [(0, .inr (.inr 1826)), (1, .inl (l : Int)), (2, .inl bk), (3, .inl (s : Int)), (4, .inl (q : Int)), (5, .inl wh), (6, .inl (o : Int)), (7, .inl (i259 : Int)), (8, .inl (a9 : Int)), (9, .inl (b9 : Int))]) (st' := [.inl (H297.1 1843 b9), .inl (48 * (b9 : Int)), .inr (.inr 1842), .inr (.inr 1826)]) rfl ?_
                      have hszb9 : (H297.1 1843) b9 = (k1 : Int) := by rw [show (H297.1 1843) = (H255.1 1843) from hfH297.2.1 1843 (by decide) (by decide), show (H255.1 1843) = (H.1 1843) from hfH255.2.1 1843 (by decide) (by decide), hb9]; exact k11
                      rw [show (H297.1 1843 b9) = (k1 : Int) by omega]
                      refine h_run 2 (pc' := 179) (l' := [(0, .inr (.inr 1826)), (1, .inl (l : Int)), (2, .inl bk), (3, .inl (s : Int)), (4, .inl (q : Int)), (5, .inl wh), (6, .inl (o : Int)), (7, .inl (i259 : Int)), (8, .inl (a9 : Int)), (9, .inl (b9 : Int))]) (st' := [.inl (i259 : Int), .inl 1000, .inl (k1 : Int), .inl (48 * (b9 : Int)), .inr (.inr 1842), .inr (.inr 1826)]) rfl ?_
                      have g307 : -2147483648 ≤ (H297.1 1826 93) ∧ (H297.1 1826 93) ≤ 2147483647 := hrg301.1 1826 13 93 _ .int rfl rfl
                      have e308 : (H297.1 1826 93) = (H255.1 1826 93) := hfH297.2.2 93 (by decide)
                      have hQk : sP H H297 := sP_fr (sP_rf H) hf302 (by decide) (by decide)
                      have hPk : PWc H297 := PWc_fr hP hf302 (by decide) (by decide)
                      refine h_cv (i := 597) (j := 242) (b := 1826) (M' := mt_242) (xs := [.inl (i259 : Int), .inl 1000, .inl (k1 : Int), .inl (48 * (b9 : Int)), .inr (.inr 1842)]) (rest := []) rfl rfl rfl rfl rfl rfl (Nat.le_of_ble_eq_true rfl) (Nat.le_of_ble_eq_true rfl) (by omega) (m_isMade (p := (48 * b9)) (ln := k1) (N := N) (k := ki) (okp := (m_sg (H.1 1826 3) (H.1 1826 8) (vn : Nat))) (by omega) rfl (by decide) (by decide) hPk (by rw [hQk.1, hQk.2.1, hQk.2.2.1, hQk.2.2.2]; exact hTnH297) ⟨by omega, (show (H297.1 1826 93) = (N : Int) by omega)⟩ (by rw [hQk.1, hQk.2.1, hQk.2.2.1, hQk.2.2.2]; exact hTiH297) (by omega) (by rw [hQk.1, hQk.2.1]; exact (by show tm _ _ (H297.1 1842) _ _ 1; rw [show (H297.1 1842) = (H255.1 1842) from hfH297.2.1 1842 (by decide) (by decide), show (H255.1 1842) = (H.1 1842) from hfH255.2.1 1842 (by decide) (by decide), hb9]; exact k13)) (show 48 * b9 + k1 ≤ 1536 ∧ k1 ≤ 60 by omega) (by omega) (by rw [hQk.2.2.1, hQk.2.2.2]; exact (fun s9 h9 => by unfold m_sg at *; omega)) (by rw [hQk.1, hQk.2.1, hQk.2.2.1, hQk.2.2.2]; exact yH297)) ?_
                      rintro _ H306 ⟨(rfl | ⟨rfl, MH306, zH306, mH306, tH306⟩), hfH306⟩
                      · refine h_rng (fun hrg309 => ?_)
                        have hf310 : fr [50, 51, 53, 76, 93, 97] [1847, 1852, 1853, 1855, 1856, 1873, 1874, 1878, 1884, 1886] H H306 := fr_t hf302 hfH306 (by decide) (by decide)
                        have hOSH306 : OS H H306 n := OS_fr hOSH297 hfH306 (by decide) (by decide) (by decide)
                        have hooH306 : (H306.1 1871) 0 = (o : Int) := (congrFun (hfH306.2.1 1871 (by decide) (by decide)) 0).trans hooH297
                        refine h_run 0 (pc' := 182) (l' := [(0, .inr (.inr 1826)), (1, .inl (l : Int)), (2, .inl bk), (3, .inl (s : Int)), (4, .inl (q : Int)), (5, .inl wh), (6, .inl (o : Int)), (7, .inl (i259 : Int)), (8, .inl (a9 : Int)), (9, .inl (b9 : Int))]) (st' := [.inl 0]) rfl ?_
                        refine h_zeq (off := 7) (t := 189) rfl rfl (by decide) (fun _ => ?_) (fun c => absurd c (by decide))
                        refine h_run 4 (pc' := 194) (l' := [(0, .inr (.inr 1826)), (1, .inl (l : Int)), (2, .inl bk), (3, .inl (s : Int)), (4, .inl (q : Int)), (5, .inl wh), (6, .inl (o : Int)), (7, .inl (i259 : Int)), (8, .inl (a9 : Int)), (9, .inl (b9 : Int)), (10, .inl 0)]) (st' := [.inl (-1), .inr (.inr 1826)]) rfl ?_
                        refine h_puti (i := 202) (ci := 13) (k := 97) (a := 1826) (x := (-1)) rfl rfl rfl rfl rfl rfl (by decide) (by decide) ?_
                        refine h_run 1 (pc' := 199) (l' := [(0, .inr (.inr 1826)), (1, .inl (l : Int)), (2, .inl bk), (3, .inl (s : Int)), (4, .inl (q : Int)), (5, .inl wh), (6, .inl (o : Int)), (7, .inl (i259 : Int)), (8, .inl (a9 : Int)), (9, .inl (b9 : Int)), (10, .inl 0)]) (st' := [.inl 0]) rfl ?_
                        refine h_zne (off := 8) (t := 207) rfl rfl (by decide) (fun c => absurd c (by decide)) (fun _ => ?_)
                        refine h_run 2 (pc' := 226) (l' := [(0, .inr (.inr 1826)), (1, .inl (l : Int)), (2, .inl bk), (3, .inl (s : Int)), (4, .inl (q : Int)), (5, .inl wh), (6, .inl (o : Int)), (7, .inl (i259 : Int)), (8, .inl (a9 : Int)), (9, .inl (b9 : Int)), (10, .inl 0)]) (st' := [.inl (-104)]) rfl ?_
                        refine h_reti (x := (-104)) rfl rfl ?_
                        exact ⟨(fr_o hf310 (by decide)), (show (-1 : Int) = -1 by omega), (OS_fr hOSH306 (show fr [97] [] H306 (zu H306 1826 (up (H306.1 1826) 97 (-1))) from (fr_o (fr_rf _ _ _) (by decide))) (by decide) (by decide) (by decide)), _, rfl, by omega, by omega⟩
                      · refine h_rng (fun hrg311 => ?_)
                        have hf312 : fr [50, 51, 53, 76, 93, 97] [1847, 1852, 1853, 1855, 1856, 1873, 1874, 1878, 1884, 1886] H H306 := fr_t hf302 hfH306 (by decide) (by decide)
                        have hOSH306 : OS H H306 n := OS_fr hOSH297 hfH306 (by decide) (by decide) (by decide)
                        have hooH306 : (H306.1 1871) 0 = (o : Int) := (congrFun (hfH306.2.1 1871 (by decide) (by decide)) 0).trans hooH297
                        have tdH306 : tm (ma (H.1 1833) (H.1 1830)) (m_sg (H.1 1826 3) (H.1 1826 8) 60) (H306.1 1856) MH306 0 1 := by have h9 := tH306; rw [hQk.1, hQk.2.1, hQk.2.2.1, hQk.2.2.2] at h9; exact h9
                        refine h_run 0 (pc' := 182) (l' := [(0, .inr (.inr 1826)), (1, .inl (l : Int)), (2, .inl bk), (3, .inl (s : Int)), (4, .inl (q : Int)), (5, .inl wh), (6, .inl (o : Int)), (7, .inl (i259 : Int)), (8, .inl (a9 : Int)), (9, .inl (b9 : Int))]) (st' := [.inl 1]) rfl ?_
                        refine h_zeq (off := 7) (t := 189) rfl rfl (by decide) (fun c => absurd c (by decide)) (fun _ => ?_)
                        refine h_run 5 (pc' := 194) (l' := [(0, .inr (.inr 1826)), (1, .inl (l : Int)), (2, .inl bk), (3, .inl (s : Int)), (4, .inl (q : Int)), (5, .inl wh), (6, .inl (o : Int)), (7, .inl (i259 : Int)), (8, .inl (a9 : Int)), (9, .inl (b9 : Int)), (10, .inl 1)]) (st' := [.inl (-1), .inr (.inr 1826)]) rfl ?_
                        refine h_puti (i := 202) (ci := 13) (k := 97) (a := 1826) (x := (-1)) rfl rfl rfl rfl rfl rfl (by decide) (by decide) ?_
                        refine h_run 1 (pc' := 199) (l' := [(0, .inr (.inr 1826)), (1, .inl (l : Int)), (2, .inl bk), (3, .inl (s : Int)), (4, .inl (q : Int)), (5, .inl wh), (6, .inl (o : Int)), (7, .inl (i259 : Int)), (8, .inl (a9 : Int)), (9, .inl (b9 : Int)), (10, .inl 1)]) (st' := [.inl 1]) rfl ?_
                        refine h_zne (off := 8) (t := 207) rfl rfl (by decide) (fun _ => ?_) (fun c => absurd c (by decide))
                        refine h_run 3 (pc' := 211) (l' := [(0, .inr (.inr 1826)), (1, .inl (l : Int)), (2, .inl bk), (3, .inl (s : Int)), (4, .inl (q : Int)), (5, .inl wh), (6, .inl (o : Int)), (7, .inl (i259 : Int)), (8, .inl (a9 : Int)), (9, .inl (b9 : Int)), (10, .inl 1)]) (st' := [.inl (s : Int), .inl (o : Int), .inr (.inr 1826)]) rfl ?_
                        refine h_cv (i := 575) (j := 229) (b := 1826) (M' := mt_229) (xs := [.inl (s : Int), .inl (o : Int)]) (rest := []) rfl rfl rfl rfl rfl rfl (Nat.le_of_ble_eq_true rfl) (Nat.le_of_ble_eq_true rfl) (by omega) (m_isKept (M := MH306) (by omega) (by omega) ⟨zH306, mH306⟩) ?_
                        rintro _ H313 (⟨rfl, hxH313, rfl⟩ | ⟨rfl, hlH313, hfH313, hzH313, hcH313, hoH313⟩)
                        · refine h_run 0 (pc' := 214) (l' := [(0, .inr (.inr 1826)), (1, .inl (l : Int)), (2, .inl bk), (3, .inl (s : Int)), (4, .inl (q : Int)), (5, .inl wh), (6, .inl (o : Int)), (7, .inl (i259 : Int)), (8, .inl (a9 : Int)), (9, .inl (b9 : Int)), (10, .inl 1)]) (st' := [.inl 0]) rfl ?_
                          refine h_zeq (off := 10) (t := 224) rfl rfl (by decide) (fun _ => ?_) (fun c => absurd c (by decide))
                          refine h_run 1 (pc' := 226) (l' := [(0, .inr (.inr 1826)), (1, .inl (l : Int)), (2, .inl bk), (3, .inl (s : Int)), (4, .inl (q : Int)), (5, .inl wh), (6, .inl (o : Int)), (7, .inl (i259 : Int)), (8, .inl (a9 : Int)), (9, .inl (b9 : Int)), (10, .inl 1)]) (st' := [.inl (-105)]) rfl ?_
                          refine h_reti (x := (-105)) rfl rfl ?_
                          exact ⟨(fr_o hf312 (by decide)), (show (-1 : Int) = -1 by omega), (OS_fr hOSH306 (show fr [97] [] H306 (zu H306 1826 (up (H306.1 1826) 97 (-1))) from (fr_o (fr_rf _ _ _) (by decide))) (by decide) (by decide) (by decide)), _, rfl, by omega, by omega⟩
                        · refine h_rng (fun hrg314 => ?_)
                          have hf315 : fr [50, 51, 53, 76, 93, 97] [1847, 1852, 1853, 1855, 1856, 1873, 1874, 1878, 1884, 1886] H H313 := fr_t (fr_o hf312 (by decide)) hfH313 (by decide) (by decide)
                          have hOSH313 : OS H H313 n := OS_side (OS_fr hOSH306 (show fr [97] [] H306 (zu H306 1826 (up (H306.1 1826) 97 (-1))) from (fr_o (fr_rf _ _ _) (by decide))) (by decide) (by decide) (by decide)) hooH306 hfH313 hs hlH313 hzH313 hcH313 hoH313 tdH306
                          have hooH313 : (H313.1 1871) 0 = (o : Int) := (congrFun (hfH313.2.1 1871 (by decide) (by decide)) 0).trans hooH306
                          refine h_run 0 (pc' := 214) (l' := [(0, .inr (.inr 1826)), (1, .inl (l : Int)), (2, .inl bk), (3, .inl (s : Int)), (4, .inl (q : Int)), (5, .inl wh), (6, .inl (o : Int)), (7, .inl (i259 : Int)), (8, .inl (a9 : Int)), (9, .inl (b9 : Int)), (10, .inl 1)]) (st' := [.inl 1]) rfl ?_
                          refine h_zeq (off := 10) (t := 224) rfl rfl (by decide) (fun c => absurd c (by decide)) (fun _ => ?_)
                          refine h_run 1 (pc' := 218) (l' := [(0, .inr (.inr 1826)), (1, .inl (l : Int)), (2, .inl bk), (3, .inl (s : Int)), (4, .inl (q : Int)), (5, .inl wh), (6, .inl (o : Int)), (7, .inl (i259 : Int)), (8, .inl (a9 : Int)), (9, .inl (b9 : Int)), (10, .inl 1)]) (st' := [.inr (.inr 1826)]) rfl ?_
                          refine h_cv (i := 556) (j := 232) (b := 1826) (M' := mt_232) (xs := []) (rest := []) rfl rfl rfl rfl rfl rfl (Nat.le_of_ble_eq_true rfl) (Nat.le_of_ble_eq_true rfl) (by omega) (m_did (n := n) (by omega) hOSH313.1.1 (fun q9 => absurd q9 (by omega)) (by rw [show (H313.1 1871) 0 = (o : Int) from hooH313]; omega)) ?_
                          rintro _ H316 ⟨rfl, hfH316⟩
                          refine h_rng (fun hrg317 => ?_)
                          have hf318 : fr [50, 51, 53, 76, 93, 97] [1847, 1852, 1853, 1855, 1856, 1873, 1874, 1878, 1884, 1886] H H316 := fr_t hf315 hfH316 (by decide) (by decide)
                          have hOSH316 : OS H H316 n := OS_fr hOSH313 hfH316 (by decide) (by decide) (by decide)
                          have hooH316 : (H316.1 1871) 0 = (o : Int) := (congrFun (hfH316.2.1 1871 (by decide) (by decide)) 0).trans hooH313
                          refine h_run 0 (pc' := 221) (l' := [(0, .inr (.inr 1826)), (1, .inl (l : Int)), (2, .inl bk), (3, .inl (s : Int)), (4, .inl (q : Int)), (5, .inl wh), (6, .inl (o : Int)), (7, .inl (i259 : Int)), (8, .inl (a9 : Int)), (9, .inl (b9 : Int)), (10, .inl 1)]) (st' := [.inl (n : Int)]) rfl ?_
                          refine h_run 1 (pc' := 226) (l' := [(0, .inr (.inr 1826)), (1, .inl (l : Int)), (2, .inl bk), (3, .inl (s : Int)), (4, .inl (q : Int)), (5, .inl wh), (6, .inl (o : Int)), (7, .inl (i259 : Int)), (8, .inl (a9 : Int)), (9, .inl (b9 : Int)), (10, .inl 1)]) (st' := [.inl (n : Int)]) rfl ?_
                          refine h_reti (x := (n : Int)) rfl rfl ?_
                          have g319 : -2147483648 ≤ (H316.1 1826 97) ∧ (H316.1 1826 97) ≤ 2147483647 := hrg317.1 1826 13 97 _ .int rfl rfl
                          have e320 : (H316.1 1826 97) = (H313.1 1826 97) := hfH316.2.2 97 (by decide)
                          have e321 : (H313.1 1826 97) = (-1) := hfH313.2.2 97 (by decide)
                          exact ⟨hf318, (show (H316.1 1826 97) = -1 by omega), hOSH316, _, rfl, by omega, by omega⟩
                · exfalso
                  omega
              · refine h_run 3 (pc' := 85) (l' := [(0, .inr (.inr 1826)), (1, .inl (l : Int)), (2, .inl bk), (3, .inl (s : Int)), (4, .inl (q : Int)), (5, .inl wh), (6, .inl (o : Int)), (7, .inl (i259 : Int))]) (st' := [.inl ((2 * (l : Int)) + 1)]) rfl ?_
                obtain ⟨a9, ha9⟩ : ∃ x9 : Nat, x9 = 2 * l + 1 := ⟨_, rfl⟩
                rw [show ((2 * (l : Int)) + 1) = ((a9 : Nat) : Int) from (by omega)]
                refine h_run 5 (pc' := 91) (l' := [(0, .inr (.inr 1826)), (1, .inl (l : Int)), (2, .inl bk), (3, .inl (s : Int)), (4, .inl (q : Int)), (5, .inl wh), (6, .inl (o : Int)), (7, .inl (i259 : Int)), (8, .inl (a9 : Int))]) (st' := [.inl bk, .inl (2 * (l : Int))]) rfl ?_
                refine h_zeq (off := 7) (t := 98) rfl rfl (by omega) (fun c322 => ?_) (fun c322 => ?_)
                · exfalso
                  omega
                · refine h_run 3 (pc' := 100) (l' := [(0, .inr (.inr 1826)), (1, .inl (l : Int)), (2, .inl bk), (3, .inl (s : Int)), (4, .inl (q : Int)), (5, .inl wh), (6, .inl (o : Int)), (7, .inl (i259 : Int)), (8, .inl (a9 : Int))]) (st' := [.inl ((2 * (l : Int)) + 0)]) rfl ?_
                  obtain ⟨b9, hb9⟩ : ∃ x9 : Nat, x9 = 2 * l + 0 := ⟨_, rfl⟩
                  rw [show ((2 * (l : Int)) + 0) = ((b9 : Nat) : Int) from (by omega)]
                  refine h_run 3 (pc' := 104) (l' := [(0, .inr (.inr 1826)), (1, .inl (l : Int)), (2, .inl bk), (3, .inl (s : Int)), (4, .inl (q : Int)), (5, .inl wh), (6, .inl (o : Int)), (7, .inl (i259 : Int)), (8, .inl (a9 : Int)), (9, .inl (b9 : Int))]) (st' := [.inl (l : Int), .inr (.inr 1826)]) rfl ?_
                  refine h_puti (i := 202) (ci := 13) (k := 97) (a := 1826) (x := (l : Int)) rfl rfl rfl rfl rfl rfl (by decide) (by omega) ?_
                  refine h_run 9 (pc' := 123) (l' := [(0, .inr (.inr 1826)), (1, .inl (l : Int)), (2, .inl bk), (3, .inl (s : Int)), (4, .inl (q : Int)), (5, .inl wh), (6, .inl (o : Int)), (7, .inl (i259 : Int)), (8, .inl (a9 : Int)), (9, .inl (b9 : Int))]) (st' := [.inl (a9 : Int), .inr (.inr 1843), .inl (48 * (a9 : Int)), .inr (.inr 1842), .inr (.inr 1826)]) rfl ?_
                  refine h_ild (c := 1843) (j := a9) (i := (a9 : Int)) rfl rfl (by decide) rfl (by omega) ?_
                  have g323 : -2147483648 ≤ (H255.1 1843 a9) ∧ (H255.1 1843 a9) ≤ 2147483647 := hrg256.2 1843 a9 32 .int rfl (by omega)
                  have e324 : (H255.1 1843 a9) = (H.1 1843 a9) := congrFun (hfH255.2.1 1843 (by decide) (by decide)) a9
                  refine h_run 0 (pc' := 124) (l' := [(0, .inr (.inr 1826)), (1, .inl (l : Int)), (2, .inl bk), (3, .inl (s : Int)), (4, .inl (q : Int)), (5, .inl wh), (6, .inl (o : Int)), (7, .inl (i259 : Int)), (8, .inl (a9 : Int)), (9, .inl (b9 : Int))]) (st' := [.inl (H255.1 1843 a9), .inl (48 * (a9 : Int)), .inr (.inr 1842), .inr (.inr 1826)]) rfl ?_
                  have hsza9 : (H255.1 1843) a9 = (k1 : Int) := by rw [show (H255.1 1843) = (H.1 1843) from hfH255.2.1 1843 (by decide) (by decide), ha9]; exact k11
                  rw [show (H255.1 1843 a9) = (k1 : Int) by omega]
                  refine h_run 5 (pc' := 135) (l' := [(0, .inr (.inr 1826)), (1, .inl (l : Int)), (2, .inl bk), (3, .inl (s : Int)), (4, .inl (q : Int)), (5, .inl wh), (6, .inl (o : Int)), (7, .inl (i259 : Int)), (8, .inl (a9 : Int)), (9, .inl (b9 : Int))]) (st' := [.inl (o : Int), .inr (.inr 1875), .inl (i259 : Int), .inl 1000, .inl (k1 : Int), .inl (48 * (a9 : Int)), .inr (.inr 1842), .inr (.inr 1826)]) rfl ?_
                  refine h_ild (c := 1875) (j := o) (i := (o : Int)) rfl rfl (by decide) rfl (by omega) ?_
                  have g325 : -2147483648 ≤ (H255.1 1875 o) ∧ (H255.1 1875 o) ≤ 2147483647 := hrg256.2 1875 o 40 .int rfl (by omega)
                  have e326 : (H255.1 1875 o) = (H.1 1875 o) := congrFun (hfH255.2.1 1875 (by decide) (by decide)) o
                  refine h_run 0 (pc' := 136) (l' := [(0, .inr (.inr 1826)), (1, .inl (l : Int)), (2, .inl bk), (3, .inl (s : Int)), (4, .inl (q : Int)), (5, .inl wh), (6, .inl (o : Int)), (7, .inl (i259 : Int)), (8, .inl (a9 : Int)), (9, .inl (b9 : Int))]) (st' := [.inl (H255.1 1875 o), .inl (i259 : Int), .inl 1000, .inl (k1 : Int), .inl (48 * (a9 : Int)), .inr (.inr 1842), .inr (.inr 1826)]) rfl ?_
                  refine h_run 3 (pc' := 141) (l' := [(0, .inr (.inr 1826)), (1, .inl (l : Int)), (2, .inl bk), (3, .inl (s : Int)), (4, .inl (q : Int)), (5, .inl wh), (6, .inl (o : Int)), (7, .inl (i259 : Int)), (8, .inl (a9 : Int)), (9, .inl (b9 : Int))]) (st' := [.inl (l : Int), .inr (.inr 1847), .inl (H255.1 1875 o), .inl (i259 : Int), .inl 1000, .inl (k1 : Int), .inl (48 * (a9 : Int)), .inr (.inr 1842), .inr (.inr 1826)]) rfl ?_
                  refine h_ild (c := 1847) (j := l) (i := (l : Int)) rfl rfl (by decide) rfl (by omega) ?_
                  have g327 : -2147483648 ≤ (H255.1 1847 l) ∧ (H255.1 1847 l) ≤ 2147483647 := hrg256.2 1847 l 16 .int rfl (by omega)
                  have e328 : (H255.1 1847 l) = (H.1 1847 l) := congrFun (hfH255.2.1 1847 (by decide) (by decide)) l
                  refine h_run 0 (pc' := 142) (l' := [(0, .inr (.inr 1826)), (1, .inl (l : Int)), (2, .inl bk), (3, .inl (s : Int)), (4, .inl (q : Int)), (5, .inl wh), (6, .inl (o : Int)), (7, .inl (i259 : Int)), (8, .inl (a9 : Int)), (9, .inl (b9 : Int))]) (st' := [.inl (H255.1 1847 l), .inl (H255.1 1875 o), .inl (i259 : Int), .inl 1000, .inl (k1 : Int), .inl (48 * (a9 : Int)), .inr (.inr 1842), .inr (.inr 1826)]) rfl ?_
                  refine h_run 1 (pc' := 143) (l' := [(0, .inr (.inr 1826)), (1, .inl (l : Int)), (2, .inl bk), (3, .inl (s : Int)), (4, .inl (q : Int)), (5, .inl wh), (6, .inl (o : Int)), (7, .inl (i259 : Int)), (8, .inl (a9 : Int)), (9, .inl (b9 : Int))]) (st' := [.inl 1, .inl (H255.1 1847 l), .inl (H255.1 1875 o), .inl (i259 : Int), .inl 1000, .inl (k1 : Int), .inl (48 * (a9 : Int)), .inr (.inr 1842), .inr (.inr 1826)]) rfl ?_
                  refine h_ine (off := 7) (t := 150) rfl rfl (by omega) (by decide) (fun c329 => ?_) (fun c329 => ?_)
                  · refine h_run 1 (pc' := 151) (l' := [(0, .inr (.inr 1826)), (1, .inl (l : Int)), (2, .inl bk), (3, .inl (s : Int)), (4, .inl (q : Int)), (5, .inl wh), (6, .inl (o : Int)), (7, .inl (i259 : Int)), (8, .inl (a9 : Int)), (9, .inl (b9 : Int))]) (st' := [.inl 0, .inl (H255.1 1875 o), .inl (i259 : Int), .inl 1000, .inl (k1 : Int), .inl (48 * (a9 : Int)), .inr (.inr 1842), .inr (.inr 1826)]) rfl ?_
                    have g331 : -2147483648 ≤ (H255.1 1826 93) ∧ (H255.1 1826 93) ≤ 2147483647 := hrg256.1 1826 13 93 _ .int rfl rfl
                    have hQl : sP H (zu H255 1826 (up (H255.1 1826) 97 (l : Int))) := sP_fr (sP_rf H) (fr_o hf257 (by decide)) (by decide) (by decide)
                    have hPl : PWc (zu H255 1826 (up (H255.1 1826) 97 (l : Int))) := PWc_fr hP (fr_o hf257 (by decide)) (by decide) (by decide)
                    refine h_cv (i := 593) (j := 239) (b := 1826) (M' := mt_239) (xs := [.inl 0, .inl (H255.1 1875 o), .inl (i259 : Int), .inl 1000, .inl (k1 : Int), .inl (48 * (a9 : Int)), .inr (.inr 1842)]) (rest := []) rfl rfl rfl rfl rfl rfl (Nat.le_of_ble_eq_true rfl) (Nat.le_of_ble_eq_true rfl) (by omega) (m_isLike (p := (48 * a9)) (ln := k1) (N := N) (k := ki) (V := 6) (okp := (m_sg (H.1 1826 3) (H.1 1826 8) (vn : Nat))) (by omega) rfl (by decide) (by decide) hPl (by rw [hQl.1, hQl.2.1, hQl.2.2.1, hQl.2.2.2]; exact hTn) ⟨by omega, (show (H255.1 1826 93) = (N : Int) by omega)⟩ (by rw [hQl.1, hQl.2.1, hQl.2.2.1, hQl.2.2.2]; exact hTi) (by omega) (by rw [hQl.1, hQl.2.1]; exact (by show tm _ _ (H255.1 1842) _ _ 1; rw [show (H255.1 1842) = (H.1 1842) from hfH255.2.1 1842 (by decide) (by decide), ha9]; exact k13)) (show 48 * a9 + k1 ≤ 1536 ∧ k1 ≤ 60 by omega) (by omega) (Or.inr (show 0 ≤ (l : Int) ∧ (l : Int) ≤ 15 ∧ 6 ≤ 6 by omega)) (fun s9 h9 => by unfold m_sg at h9; omega) (by omega)) ?_
                    rintro _ H330 ⟨(rfl | ⟨rfl, xH330⟩), hfH330⟩
                    · refine h_rng (fun hrg332 => ?_)
                      have hf333 : fr [50, 51, 53, 76, 93, 97] [1847, 1852, 1853, 1855, 1856, 1873, 1874, 1878, 1884, 1886] H H330 := fr_t (fr_o hf257 (by decide)) hfH330 (by decide) (by decide)
                      have hOSH330 : OS H H330 n := OS_fr (OS_fr hOSH255 (show fr [97] [] H255 (zu H255 1826 (up (H255.1 1826) 97 (l : Int))) from (fr_o (fr_rf _ _ _) (by decide))) (by decide) (by decide) (by decide)) hfH330 (by decide) (by decide) (by decide)
                      have hooH330 : (H330.1 1871) 0 = (o : Int) := (congrFun (hfH330.2.1 1871 (by decide) (by decide)) 0).trans hooH255
                      refine h_run 0 (pc' := 154) (l' := [(0, .inr (.inr 1826)), (1, .inl (l : Int)), (2, .inl bk), (3, .inl (s : Int)), (4, .inl (q : Int)), (5, .inl wh), (6, .inl (o : Int)), (7, .inl (i259 : Int)), (8, .inl (a9 : Int)), (9, .inl (b9 : Int))]) (st' := [.inl 0]) rfl ?_
                      refine h_zeq (off := 35) (t := 189) rfl rfl (by decide) (fun _ => ?_) (fun c => absurd c (by decide))
                      refine h_run 4 (pc' := 194) (l' := [(0, .inr (.inr 1826)), (1, .inl (l : Int)), (2, .inl bk), (3, .inl (s : Int)), (4, .inl (q : Int)), (5, .inl wh), (6, .inl (o : Int)), (7, .inl (i259 : Int)), (8, .inl (a9 : Int)), (9, .inl (b9 : Int)), (10, .inl 0)]) (st' := [.inl (-1), .inr (.inr 1826)]) rfl ?_
                      refine h_puti (i := 202) (ci := 13) (k := 97) (a := 1826) (x := (-1)) rfl rfl rfl rfl rfl rfl (by decide) (by decide) ?_
                      refine h_run 1 (pc' := 199) (l' := [(0, .inr (.inr 1826)), (1, .inl (l : Int)), (2, .inl bk), (3, .inl (s : Int)), (4, .inl (q : Int)), (5, .inl wh), (6, .inl (o : Int)), (7, .inl (i259 : Int)), (8, .inl (a9 : Int)), (9, .inl (b9 : Int)), (10, .inl 0)]) (st' := [.inl 0]) rfl ?_
                      refine h_zne (off := 8) (t := 207) rfl rfl (by decide) (fun c => absurd c (by decide)) (fun _ => ?_)
                      refine h_run 2 (pc' := 226) (l' := [(0, .inr (.inr 1826)), (1, .inl (l : Int)), (2, .inl bk), (3, .inl (s : Int)), (4, .inl (q : Int)), (5, .inl wh), (6, .inl (o : Int)), (7, .inl (i259 : Int)), (8, .inl (a9 : Int)), (9, .inl (b9 : Int)), (10, .inl 0)]) (st' := [.inl (-104)]) rfl ?_
                      refine h_reti (x := (-104)) rfl rfl ?_
                      exact ⟨(fr_o hf333 (by decide)), (show (-1 : Int) = -1 by omega), (OS_fr hOSH330 (show fr [97] [] H330 (zu H330 1826 (up (H330.1 1826) 97 (-1))) from (fr_o (fr_rf _ _ _) (by decide))) (by decide) (by decide) (by decide)), _, rfl, by omega, by omega⟩
                    · refine h_rng (fun hrg334 => ?_)
                      have hf335 : fr [50, 51, 53, 76, 93, 97] [1847, 1852, 1853, 1855, 1856, 1873, 1874, 1878, 1884, 1886] H H330 := fr_t (fr_o hf257 (by decide)) hfH330 (by decide) (by decide)
                      have hOSH330 : OS H H330 n := OS_fr (OS_fr hOSH255 (show fr [97] [] H255 (zu H255 1826 (up (H255.1 1826) 97 (l : Int))) from (fr_o (fr_rf _ _ _) (by decide))) (by decide) (by decide) (by decide)) hfH330 (by decide) (by decide) (by decide)
                      have hooH330 : (H330.1 1871) 0 = (o : Int) := (congrFun (hfH330.2.1 1871 (by decide) (by decide)) 0).trans hooH255
                      have eNH330 : (H330.1 1884) = (H255.1 1884) := hfH330.2.1 1884 (by decide) (by decide)
                      have yH330 : fre (ma (H.1 1833) (H.1 1830)) (m_sg (H.1 1826 3) (H.1 1826 8) 60) (H330.1 1884) (H330.1 1886) N := by have h9 := xH330; rw [hQl.1, hQl.2.1, hQl.2.2.1, hQl.2.2.2] at h9; rw [eNH330]; exact h9
                      have hTnH330 : tm (ma (H.1 1833) (H.1 1830)) (m_sg (H.1 1826 3) (H.1 1826 8) 60) (H330.1 1884) N 0 1 := by rw [eNH330]; exact hTn
                      have hTiH330 : tm (ma (H.1 1833) (H.1 1830)) (m_sg (H.1 1826 3) (H.1 1826 8) 60) (H330.1 1884) ki i259 1 := by rw [eNH330]; exact hTi
                      refine h_run 0 (pc' := 154) (l' := [(0, .inr (.inr 1826)), (1, .inl (l : Int)), (2, .inl bk), (3, .inl (s : Int)), (4, .inl (q : Int)), (5, .inl wh), (6, .inl (o : Int)), (7, .inl (i259 : Int)), (8, .inl (a9 : Int)), (9, .inl (b9 : Int))]) (st' := [.inl 1]) rfl ?_
                      refine h_zeq (off := 35) (t := 189) rfl rfl (by decide) (fun c => absurd c (by decide)) (fun _ => ?_)
                      refine h_run 9 (pc' := 173) (l' := [(0, .inr (.inr 1826)), (1, .inl (l : Int)), (2, .inl bk), (3, .inl (s : Int)), (4, .inl (q : Int)), (5, .inl wh), (6, .inl (o : Int)), (7, .inl (i259 : Int)), (8, .inl (a9 : Int)), (9, .inl (b9 : Int))]) (st' := [.inl (b9 : Int), .inr (.inr 1843), .inl (48 * (b9 : Int)), .inr (.inr 1842), .inr (.inr 1826)]) rfl ?_
                      refine h_ild (c := 1843) (j := b9) (i := (b9 : Int)) rfl rfl (by decide) rfl (by omega) ?_
                      have g336 : -2147483648 ≤ (H330.1 1843 b9) ∧ (H330.1 1843 b9) ≤ 2147483647 := hrg334.2 1843 b9 32 .int rfl (by omega)
                      have e337 : (H330.1 1843 b9) = (H255.1 1843 b9) := congrFun (hfH330.2.1 1843 (by decide) (by decide)) b9
                      have e338 : (H255.1 1843 b9) = (H.1 1843 b9) := congrFun (hfH255.2.1 1843 (by decide) (by decide)) b9
                      refine h_run 0 (pc' := 174) (l' := [(0, .inr (.inr 1826)), (1, .inl (l : Int)), (2, .inl bk), (3, .inl (s : Int)), (4, .inl (q : Int)), (5, .inl wh), (6, .inl (o : Int)), (7, .inl (i259 : Int)), (8, .inl (a9 : Int)), (9, .inl (b9 : Int))]) (st' := [.inl (H330.1 1843 b9), .inl (48 * (b9 : Int)), .inr (.inr 1842), .inr (.inr 1826)]) rfl ?_
                      have hszb9 : (H330.1 1843) b9 = (k0 : Int) := by rw [show (H330.1 1843) = (H255.1 1843) from hfH330.2.1 1843 (by decide) (by decide), show (H255.1 1843) = (H.1 1843) from hfH255.2.1 1843 (by decide) (by decide), hb9]; exact k01
                      rw [show (H330.1 1843 b9) = (k0 : Int) by omega]
                      refine h_run 2 (pc' := 179) (l' := [(0, .inr (.inr 1826)), (1, .inl (l : Int)), (2, .inl bk), (3, .inl (s : Int)), (4, .inl (q : Int)), (5, .inl wh), (6, .inl (o : Int)), (7, .inl (i259 : Int)), (8, .inl (a9 : Int)), (9, .inl (b9 : Int))]) (st' := [.inl (i259 : Int), .inl 1000, .inl (k0 : Int), .inl (48 * (b9 : Int)), .inr (.inr 1842), .inr (.inr 1826)]) rfl ?_
                      have g340 : -2147483648 ≤ (H330.1 1826 93) ∧ (H330.1 1826 93) ≤ 2147483647 := hrg334.1 1826 13 93 _ .int rfl rfl
                      have e341 : (H330.1 1826 93) = (H255.1 1826 93) := hfH330.2.2 93 (by decide)
                      have hQk : sP H H330 := sP_fr (sP_rf H) hf335 (by decide) (by decide)
                      have hPk : PWc H330 := PWc_fr hP hf335 (by decide) (by decide)
                      refine h_cv (i := 597) (j := 242) (b := 1826) (M' := mt_242) (xs := [.inl (i259 : Int), .inl 1000, .inl (k0 : Int), .inl (48 * (b9 : Int)), .inr (.inr 1842)]) (rest := []) rfl rfl rfl rfl rfl rfl (Nat.le_of_ble_eq_true rfl) (Nat.le_of_ble_eq_true rfl) (by omega) (m_isMade (p := (48 * b9)) (ln := k0) (N := N) (k := ki) (okp := (m_sg (H.1 1826 3) (H.1 1826 8) (vn : Nat))) (by omega) rfl (by decide) (by decide) hPk (by rw [hQk.1, hQk.2.1, hQk.2.2.1, hQk.2.2.2]; exact hTnH330) ⟨by omega, (show (H330.1 1826 93) = (N : Int) by omega)⟩ (by rw [hQk.1, hQk.2.1, hQk.2.2.1, hQk.2.2.2]; exact hTiH330) (by omega) (by rw [hQk.1, hQk.2.1]; exact (by show tm _ _ (H330.1 1842) _ _ 1; rw [show (H330.1 1842) = (H255.1 1842) from hfH330.2.1 1842 (by decide) (by decide), show (H255.1 1842) = (H.1 1842) from hfH255.2.1 1842 (by decide) (by decide), hb9]; exact k03)) (show 48 * b9 + k0 ≤ 1536 ∧ k0 ≤ 60 by omega) (by omega) (by rw [hQk.2.2.1, hQk.2.2.2]; exact (fun s9 h9 => by unfold m_sg at *; omega)) (by rw [hQk.1, hQk.2.1, hQk.2.2.1, hQk.2.2.2]; exact yH330)) ?_
                      rintro _ H339 ⟨(rfl | ⟨rfl, MH339, zH339, mH339, tH339⟩), hfH339⟩
                      · refine h_rng (fun hrg342 => ?_)
                        have hf343 : fr [50, 51, 53, 76, 93, 97] [1847, 1852, 1853, 1855, 1856, 1873, 1874, 1878, 1884, 1886] H H339 := fr_t hf335 hfH339 (by decide) (by decide)
                        have hOSH339 : OS H H339 n := OS_fr hOSH330 hfH339 (by decide) (by decide) (by decide)
                        have hooH339 : (H339.1 1871) 0 = (o : Int) := (congrFun (hfH339.2.1 1871 (by decide) (by decide)) 0).trans hooH330
                        refine h_run 0 (pc' := 182) (l' := [(0, .inr (.inr 1826)), (1, .inl (l : Int)), (2, .inl bk), (3, .inl (s : Int)), (4, .inl (q : Int)), (5, .inl wh), (6, .inl (o : Int)), (7, .inl (i259 : Int)), (8, .inl (a9 : Int)), (9, .inl (b9 : Int))]) (st' := [.inl 0]) rfl ?_
                        refine h_zeq (off := 7) (t := 189) rfl rfl (by decide) (fun _ => ?_) (fun c => absurd c (by decide))
                        refine h_run 4 (pc' := 194) (l' := [(0, .inr (.inr 1826)), (1, .inl (l : Int)), (2, .inl bk), (3, .inl (s : Int)), (4, .inl (q : Int)), (5, .inl wh), (6, .inl (o : Int)), (7, .inl (i259 : Int)), (8, .inl (a9 : Int)), (9, .inl (b9 : Int)), (10, .inl 0)]) (st' := [.inl (-1), .inr (.inr 1826)]) rfl ?_
                        refine h_puti (i := 202) (ci := 13) (k := 97) (a := 1826) (x := (-1)) rfl rfl rfl rfl rfl rfl (by decide) (by decide) ?_
                        refine h_run 1 (pc' := 199) (l' := [(0, .inr (.inr 1826)), (1, .inl (l : Int)), (2, .inl bk), (3, .inl (s : Int)), (4, .inl (q : Int)), (5, .inl wh), (6, .inl (o : Int)), (7, .inl (i259 : Int)), (8, .inl (a9 : Int)), (9, .inl (b9 : Int)), (10, .inl 0)]) (st' := [.inl 0]) rfl ?_
                        refine h_zne (off := 8) (t := 207) rfl rfl (by decide) (fun c => absurd c (by decide)) (fun _ => ?_)
                        refine h_run 2 (pc' := 226) (l' := [(0, .inr (.inr 1826)), (1, .inl (l : Int)), (2, .inl bk), (3, .inl (s : Int)), (4, .inl (q : Int)), (5, .inl wh), (6, .inl (o : Int)), (7, .inl (i259 : Int)), (8, .inl (a9 : Int)), (9, .inl (b9 : Int)), (10, .inl 0)]) (st' := [.inl (-104)]) rfl ?_
                        refine h_reti (x := (-104)) rfl rfl ?_
                        exact ⟨(fr_o hf343 (by decide)), (show (-1 : Int) = -1 by omega), (OS_fr hOSH339 (show fr [97] [] H339 (zu H339 1826 (up (H339.1 1826) 97 (-1))) from (fr_o (fr_rf _ _ _) (by decide))) (by decide) (by decide) (by decide)), _, rfl, by omega, by omega⟩
                      · refine h_rng (fun hrg344 => ?_)
                        have hf345 : fr [50, 51, 53, 76, 93, 97] [1847, 1852, 1853, 1855, 1856, 1873, 1874, 1878, 1884, 1886] H H339 := fr_t hf335 hfH339 (by decide) (by decide)
                        have hOSH339 : OS H H339 n := OS_fr hOSH330 hfH339 (by decide) (by decide) (by decide)
                        have hooH339 : (H339.1 1871) 0 = (o : Int) := (congrFun (hfH339.2.1 1871 (by decide) (by decide)) 0).trans hooH330
                        have tdH339 : tm (ma (H.1 1833) (H.1 1830)) (m_sg (H.1 1826 3) (H.1 1826 8) 60) (H339.1 1856) MH339 0 1 := by have h9 := tH339; rw [hQk.1, hQk.2.1, hQk.2.2.1, hQk.2.2.2] at h9; exact h9
                        refine h_run 0 (pc' := 182) (l' := [(0, .inr (.inr 1826)), (1, .inl (l : Int)), (2, .inl bk), (3, .inl (s : Int)), (4, .inl (q : Int)), (5, .inl wh), (6, .inl (o : Int)), (7, .inl (i259 : Int)), (8, .inl (a9 : Int)), (9, .inl (b9 : Int))]) (st' := [.inl 1]) rfl ?_
                        refine h_zeq (off := 7) (t := 189) rfl rfl (by decide) (fun c => absurd c (by decide)) (fun _ => ?_)
                        refine h_run 5 (pc' := 194) (l' := [(0, .inr (.inr 1826)), (1, .inl (l : Int)), (2, .inl bk), (3, .inl (s : Int)), (4, .inl (q : Int)), (5, .inl wh), (6, .inl (o : Int)), (7, .inl (i259 : Int)), (8, .inl (a9 : Int)), (9, .inl (b9 : Int)), (10, .inl 1)]) (st' := [.inl (-1), .inr (.inr 1826)]) rfl ?_
                        refine h_puti (i := 202) (ci := 13) (k := 97) (a := 1826) (x := (-1)) rfl rfl rfl rfl rfl rfl (by decide) (by decide) ?_
                        refine h_run 1 (pc' := 199) (l' := [(0, .inr (.inr 1826)), (1, .inl (l : Int)), (2, .inl bk), (3, .inl (s : Int)), (4, .inl (q : Int)), (5, .inl wh), (6, .inl (o : Int)), (7, .inl (i259 : Int)), (8, .inl (a9 : Int)), (9, .inl (b9 : Int)), (10, .inl 1)]) (st' := [.inl 1]) rfl ?_
                        refine h_zne (off := 8) (t := 207) rfl rfl (by decide) (fun _ => ?_) (fun c => absurd c (by decide))
                        refine h_run 3 (pc' := 211) (l' := [(0, .inr (.inr 1826)), (1, .inl (l : Int)), (2, .inl bk), (3, .inl (s : Int)), (4, .inl (q : Int)), (5, .inl wh), (6, .inl (o : Int)), (7, .inl (i259 : Int)), (8, .inl (a9 : Int)), (9, .inl (b9 : Int)), (10, .inl 1)]) (st' := [.inl (s : Int), .inl (o : Int), .inr (.inr 1826)]) rfl ?_
                        refine h_cv (i := 575) (j := 229) (b := 1826) (M' := mt_229) (xs := [.inl (s : Int), .inl (o : Int)]) (rest := []) rfl rfl rfl rfl rfl rfl (Nat.le_of_ble_eq_true rfl) (Nat.le_of_ble_eq_true rfl) (by omega) (m_isKept (M := MH339) (by omega) (by omega) ⟨zH339, mH339⟩) ?_
                        rintro _ H346 (⟨rfl, hxH346, rfl⟩ | ⟨rfl, hlH346, hfH346, hzH346, hcH346, hoH346⟩)
                        · refine h_run 0 (pc' := 214) (l' := [(0, .inr (.inr 1826)), (1, .inl (l : Int)), (2, .inl bk), (3, .inl (s : Int)), (4, .inl (q : Int)), (5, .inl wh), (6, .inl (o : Int)), (7, .inl (i259 : Int)), (8, .inl (a9 : Int)), (9, .inl (b9 : Int)), (10, .inl 1)]) (st' := [.inl 0]) rfl ?_
                          refine h_zeq (off := 10) (t := 224) rfl rfl (by decide) (fun _ => ?_) (fun c => absurd c (by decide))
                          refine h_run 1 (pc' := 226) (l' := [(0, .inr (.inr 1826)), (1, .inl (l : Int)), (2, .inl bk), (3, .inl (s : Int)), (4, .inl (q : Int)), (5, .inl wh), (6, .inl (o : Int)), (7, .inl (i259 : Int)), (8, .inl (a9 : Int)), (9, .inl (b9 : Int)), (10, .inl 1)]) (st' := [.inl (-105)]) rfl ?_
                          refine h_reti (x := (-105)) rfl rfl ?_
                          exact ⟨(fr_o hf345 (by decide)), (show (-1 : Int) = -1 by omega), (OS_fr hOSH339 (show fr [97] [] H339 (zu H339 1826 (up (H339.1 1826) 97 (-1))) from (fr_o (fr_rf _ _ _) (by decide))) (by decide) (by decide) (by decide)), _, rfl, by omega, by omega⟩
                        · refine h_rng (fun hrg347 => ?_)
                          have hf348 : fr [50, 51, 53, 76, 93, 97] [1847, 1852, 1853, 1855, 1856, 1873, 1874, 1878, 1884, 1886] H H346 := fr_t (fr_o hf345 (by decide)) hfH346 (by decide) (by decide)
                          have hOSH346 : OS H H346 n := OS_side (OS_fr hOSH339 (show fr [97] [] H339 (zu H339 1826 (up (H339.1 1826) 97 (-1))) from (fr_o (fr_rf _ _ _) (by decide))) (by decide) (by decide) (by decide)) hooH339 hfH346 hs hlH346 hzH346 hcH346 hoH346 tdH339
                          have hooH346 : (H346.1 1871) 0 = (o : Int) := (congrFun (hfH346.2.1 1871 (by decide) (by decide)) 0).trans hooH339
                          refine h_run 0 (pc' := 214) (l' := [(0, .inr (.inr 1826)), (1, .inl (l : Int)), (2, .inl bk), (3, .inl (s : Int)), (4, .inl (q : Int)), (5, .inl wh), (6, .inl (o : Int)), (7, .inl (i259 : Int)), (8, .inl (a9 : Int)), (9, .inl (b9 : Int)), (10, .inl 1)]) (st' := [.inl 1]) rfl ?_
                          refine h_zeq (off := 10) (t := 224) rfl rfl (by decide) (fun c => absurd c (by decide)) (fun _ => ?_)
                          refine h_run 1 (pc' := 218) (l' := [(0, .inr (.inr 1826)), (1, .inl (l : Int)), (2, .inl bk), (3, .inl (s : Int)), (4, .inl (q : Int)), (5, .inl wh), (6, .inl (o : Int)), (7, .inl (i259 : Int)), (8, .inl (a9 : Int)), (9, .inl (b9 : Int)), (10, .inl 1)]) (st' := [.inr (.inr 1826)]) rfl ?_
                          refine h_cv (i := 556) (j := 232) (b := 1826) (M' := mt_232) (xs := []) (rest := []) rfl rfl rfl rfl rfl rfl (Nat.le_of_ble_eq_true rfl) (Nat.le_of_ble_eq_true rfl) (by omega) (m_did (n := n) (by omega) hOSH346.1.1 (fun q9 => absurd q9 (by omega)) (by rw [show (H346.1 1871) 0 = (o : Int) from hooH346]; omega)) ?_
                          rintro _ H349 ⟨rfl, hfH349⟩
                          refine h_rng (fun hrg350 => ?_)
                          have hf351 : fr [50, 51, 53, 76, 93, 97] [1847, 1852, 1853, 1855, 1856, 1873, 1874, 1878, 1884, 1886] H H349 := fr_t hf348 hfH349 (by decide) (by decide)
                          have hOSH349 : OS H H349 n := OS_fr hOSH346 hfH349 (by decide) (by decide) (by decide)
                          have hooH349 : (H349.1 1871) 0 = (o : Int) := (congrFun (hfH349.2.1 1871 (by decide) (by decide)) 0).trans hooH346
                          refine h_run 0 (pc' := 221) (l' := [(0, .inr (.inr 1826)), (1, .inl (l : Int)), (2, .inl bk), (3, .inl (s : Int)), (4, .inl (q : Int)), (5, .inl wh), (6, .inl (o : Int)), (7, .inl (i259 : Int)), (8, .inl (a9 : Int)), (9, .inl (b9 : Int)), (10, .inl 1)]) (st' := [.inl (n : Int)]) rfl ?_
                          refine h_run 1 (pc' := 226) (l' := [(0, .inr (.inr 1826)), (1, .inl (l : Int)), (2, .inl bk), (3, .inl (s : Int)), (4, .inl (q : Int)), (5, .inl wh), (6, .inl (o : Int)), (7, .inl (i259 : Int)), (8, .inl (a9 : Int)), (9, .inl (b9 : Int)), (10, .inl 1)]) (st' := [.inl (n : Int)]) rfl ?_
                          refine h_reti (x := (n : Int)) rfl rfl ?_
                          have g352 : -2147483648 ≤ (H349.1 1826 97) ∧ (H349.1 1826 97) ≤ 2147483647 := hrg350.1 1826 13 97 _ .int rfl rfl
                          have e353 : (H349.1 1826 97) = (H346.1 1826 97) := hfH349.2.2 97 (by decide)
                          have e354 : (H346.1 1826 97) = (-1) := hfH346.2.2 97 (by decide)
                          exact ⟨hf351, (show (H349.1 1826 97) = -1 by omega), hOSH349, _, rfl, by omega, by omega⟩
                  · refine h_run 2 (pc' := 151) (l' := [(0, .inr (.inr 1826)), (1, .inl (l : Int)), (2, .inl bk), (3, .inl (s : Int)), (4, .inl (q : Int)), (5, .inl wh), (6, .inl (o : Int)), (7, .inl (i259 : Int)), (8, .inl (a9 : Int)), (9, .inl (b9 : Int))]) (st' := [.inl 1, .inl (H255.1 1875 o), .inl (i259 : Int), .inl 1000, .inl (k1 : Int), .inl (48 * (a9 : Int)), .inr (.inr 1842), .inr (.inr 1826)]) rfl ?_
                    have g356 : -2147483648 ≤ (H255.1 1826 93) ∧ (H255.1 1826 93) ≤ 2147483647 := hrg256.1 1826 13 93 _ .int rfl rfl
                    have hQl : sP H (zu H255 1826 (up (H255.1 1826) 97 (l : Int))) := sP_fr (sP_rf H) (fr_o hf257 (by decide)) (by decide) (by decide)
                    have hPl : PWc (zu H255 1826 (up (H255.1 1826) 97 (l : Int))) := PWc_fr hP (fr_o hf257 (by decide)) (by decide) (by decide)
                    refine h_cv (i := 593) (j := 239) (b := 1826) (M' := mt_239) (xs := [.inl 1, .inl (H255.1 1875 o), .inl (i259 : Int), .inl 1000, .inl (k1 : Int), .inl (48 * (a9 : Int)), .inr (.inr 1842)]) (rest := []) rfl rfl rfl rfl rfl rfl (Nat.le_of_ble_eq_true rfl) (Nat.le_of_ble_eq_true rfl) (by omega) (m_isLike (p := (48 * a9)) (ln := k1) (N := N) (k := ki) (V := 6) (okp := (m_sg (H.1 1826 3) (H.1 1826 8) (vn : Nat))) (by omega) rfl (by decide) (by decide) hPl (by rw [hQl.1, hQl.2.1, hQl.2.2.1, hQl.2.2.2]; exact hTn) ⟨by omega, (show (H255.1 1826 93) = (N : Int) by omega)⟩ (by rw [hQl.1, hQl.2.1, hQl.2.2.1, hQl.2.2.2]; exact hTi) (by omega) (by rw [hQl.1, hQl.2.1]; exact (by show tm _ _ (H255.1 1842) _ _ 1; rw [show (H255.1 1842) = (H.1 1842) from hfH255.2.1 1842 (by decide) (by decide), ha9]; exact k13)) (show 48 * a9 + k1 ≤ 1536 ∧ k1 ≤ 60 by omega) (by omega) (Or.inr (show 0 ≤ (l : Int) ∧ (l : Int) ≤ 15 ∧ 6 ≤ 6 by omega)) (fun s9 h9 => by unfold m_sg at h9; omega) (by omega)) ?_
                    rintro _ H355 ⟨(rfl | ⟨rfl, xH355⟩), hfH355⟩
                    · refine h_rng (fun hrg357 => ?_)
                      have hf358 : fr [50, 51, 53, 76, 93, 97] [1847, 1852, 1853, 1855, 1856, 1873, 1874, 1878, 1884, 1886] H H355 := fr_t (fr_o hf257 (by decide)) hfH355 (by decide) (by decide)
                      have hOSH355 : OS H H355 n := OS_fr (OS_fr hOSH255 (show fr [97] [] H255 (zu H255 1826 (up (H255.1 1826) 97 (l : Int))) from (fr_o (fr_rf _ _ _) (by decide))) (by decide) (by decide) (by decide)) hfH355 (by decide) (by decide) (by decide)
                      have hooH355 : (H355.1 1871) 0 = (o : Int) := (congrFun (hfH355.2.1 1871 (by decide) (by decide)) 0).trans hooH255
                      refine h_run 0 (pc' := 154) (l' := [(0, .inr (.inr 1826)), (1, .inl (l : Int)), (2, .inl bk), (3, .inl (s : Int)), (4, .inl (q : Int)), (5, .inl wh), (6, .inl (o : Int)), (7, .inl (i259 : Int)), (8, .inl (a9 : Int)), (9, .inl (b9 : Int))]) (st' := [.inl 0]) rfl ?_
                      refine h_zeq (off := 35) (t := 189) rfl rfl (by decide) (fun _ => ?_) (fun c => absurd c (by decide))
                      refine h_run 4 (pc' := 194) (l' := [(0, .inr (.inr 1826)), (1, .inl (l : Int)), (2, .inl bk), (3, .inl (s : Int)), (4, .inl (q : Int)), (5, .inl wh), (6, .inl (o : Int)), (7, .inl (i259 : Int)), (8, .inl (a9 : Int)), (9, .inl (b9 : Int)), (10, .inl 0)]) (st' := [.inl (-1), .inr (.inr 1826)]) rfl ?_
                      refine h_puti (i := 202) (ci := 13) (k := 97) (a := 1826) (x := (-1)) rfl rfl rfl rfl rfl rfl (by decide) (by decide) ?_
                      refine h_run 1 (pc' := 199) (l' := [(0, .inr (.inr 1826)), (1, .inl (l : Int)), (2, .inl bk), (3, .inl (s : Int)), (4, .inl (q : Int)), (5, .inl wh), (6, .inl (o : Int)), (7, .inl (i259 : Int)), (8, .inl (a9 : Int)), (9, .inl (b9 : Int)), (10, .inl 0)]) (st' := [.inl 0]) rfl ?_
                      refine h_zne (off := 8) (t := 207) rfl rfl (by decide) (fun c => absurd c (by decide)) (fun _ => ?_)
                      refine h_run 2 (pc' := 226) (l' := [(0, .inr (.inr 1826)), (1, .inl (l : Int)), (2, .inl bk), (3, .inl (s : Int)), (4, .inl (q : Int)), (5, .inl wh), (6, .inl (o : Int)), (7, .inl (i259 : Int)), (8, .inl (a9 : Int)), (9, .inl (b9 : Int)), (10, .inl 0)]) (st' := [.inl (-104)]) rfl ?_
                      refine h_reti (x := (-104)) rfl rfl ?_
                      exact ⟨(fr_o hf358 (by decide)), (show (-1 : Int) = -1 by omega), (OS_fr hOSH355 (show fr [97] [] H355 (zu H355 1826 (up (H355.1 1826) 97 (-1))) from (fr_o (fr_rf _ _ _) (by decide))) (by decide) (by decide) (by decide)), _, rfl, by omega, by omega⟩
                    · refine h_rng (fun hrg359 => ?_)
                      have hf360 : fr [50, 51, 53, 76, 93, 97] [1847, 1852, 1853, 1855, 1856, 1873, 1874, 1878, 1884, 1886] H H355 := fr_t (fr_o hf257 (by decide)) hfH355 (by decide) (by decide)
                      have hOSH355 : OS H H355 n := OS_fr (OS_fr hOSH255 (show fr [97] [] H255 (zu H255 1826 (up (H255.1 1826) 97 (l : Int))) from (fr_o (fr_rf _ _ _) (by decide))) (by decide) (by decide) (by decide)) hfH355 (by decide) (by decide) (by decide)
                      have hooH355 : (H355.1 1871) 0 = (o : Int) := (congrFun (hfH355.2.1 1871 (by decide) (by decide)) 0).trans hooH255
                      have eNH355 : (H355.1 1884) = (H255.1 1884) := hfH355.2.1 1884 (by decide) (by decide)
                      have yH355 : fre (ma (H.1 1833) (H.1 1830)) (m_sg (H.1 1826 3) (H.1 1826 8) 60) (H355.1 1884) (H355.1 1886) N := by have h9 := xH355; rw [hQl.1, hQl.2.1, hQl.2.2.1, hQl.2.2.2] at h9; rw [eNH355]; exact h9
                      have hTnH355 : tm (ma (H.1 1833) (H.1 1830)) (m_sg (H.1 1826 3) (H.1 1826 8) 60) (H355.1 1884) N 0 1 := by rw [eNH355]; exact hTn
                      have hTiH355 : tm (ma (H.1 1833) (H.1 1830)) (m_sg (H.1 1826 3) (H.1 1826 8) 60) (H355.1 1884) ki i259 1 := by rw [eNH355]; exact hTi
                      refine h_run 0 (pc' := 154) (l' := [(0, .inr (.inr 1826)), (1, .inl (l : Int)), (2, .inl bk), (3, .inl (s : Int)), (4, .inl (q : Int)), (5, .inl wh), (6, .inl (o : Int)), (7, .inl (i259 : Int)), (8, .inl (a9 : Int)), (9, .inl (b9 : Int))]) (st' := [.inl 1]) rfl ?_
                      refine h_zeq (off := 35) (t := 189) rfl rfl (by decide) (fun c => absurd c (by decide)) (fun _ => ?_)
                      refine h_run 9 (pc' := 173) (l' := [(0, .inr (.inr 1826)), (1, .inl (l : Int)), (2, .inl bk), (3, .inl (s : Int)), (4, .inl (q : Int)), (5, .inl wh), (6, .inl (o : Int)), (7, .inl (i259 : Int)), (8, .inl (a9 : Int)), (9, .inl (b9 : Int))]) (st' := [.inl (b9 : Int), .inr (.inr 1843), .inl (48 * (b9 : Int)), .inr (.inr 1842), .inr (.inr 1826)]) rfl ?_
                      refine h_ild (c := 1843) (j := b9) (i := (b9 : Int)) rfl rfl (by decide) rfl (by omega) ?_
                      have g361 : -2147483648 ≤ (H355.1 1843 b9) ∧ (H355.1 1843 b9) ≤ 2147483647 := hrg359.2 1843 b9 32 .int rfl (by omega)
                      have e362 : (H355.1 1843 b9) = (H255.1 1843 b9) := congrFun (hfH355.2.1 1843 (by decide) (by decide)) b9
                      have e363 : (H255.1 1843 b9) = (H.1 1843 b9) := congrFun (hfH255.2.1 1843 (by decide) (by decide)) b9
                      refine h_run 0 (pc' := 174) (l' := [(0, .inr (.inr 1826)), (1, .inl (l : Int)), (2, .inl bk), (3, .inl (s : Int)), (4, .inl (q : Int)), (5, .inl wh), (6, .inl (o : Int)), (7, .inl (i259 : Int)), (8, .inl (a9 : Int)), (9, .inl (b9 : Int))]) (st' := [.inl (H355.1 1843 b9), .inl (48 * (b9 : Int)), .inr (.inr 1842), .inr (.inr 1826)]) rfl ?_
                      have hszb9 : (H355.1 1843) b9 = (k0 : Int) := by rw [show (H355.1 1843) = (H255.1 1843) from hfH355.2.1 1843 (by decide) (by decide), show (H255.1 1843) = (H.1 1843) from hfH255.2.1 1843 (by decide) (by decide), hb9]; exact k01
                      rw [show (H355.1 1843 b9) = (k0 : Int) by omega]
                      refine h_run 2 (pc' := 179) (l' := [(0, .inr (.inr 1826)), (1, .inl (l : Int)), (2, .inl bk), (3, .inl (s : Int)), (4, .inl (q : Int)), (5, .inl wh), (6, .inl (o : Int)), (7, .inl (i259 : Int)), (8, .inl (a9 : Int)), (9, .inl (b9 : Int))]) (st' := [.inl (i259 : Int), .inl 1000, .inl (k0 : Int), .inl (48 * (b9 : Int)), .inr (.inr 1842), .inr (.inr 1826)]) rfl ?_
                      have g365 : -2147483648 ≤ (H355.1 1826 93) ∧ (H355.1 1826 93) ≤ 2147483647 := hrg359.1 1826 13 93 _ .int rfl rfl
                      have e366 : (H355.1 1826 93) = (H255.1 1826 93) := hfH355.2.2 93 (by decide)
                      have hQk : sP H H355 := sP_fr (sP_rf H) hf360 (by decide) (by decide)
                      have hPk : PWc H355 := PWc_fr hP hf360 (by decide) (by decide)
                      refine h_cv (i := 597) (j := 242) (b := 1826) (M' := mt_242) (xs := [.inl (i259 : Int), .inl 1000, .inl (k0 : Int), .inl (48 * (b9 : Int)), .inr (.inr 1842)]) (rest := []) rfl rfl rfl rfl rfl rfl (Nat.le_of_ble_eq_true rfl) (Nat.le_of_ble_eq_true rfl) (by omega) (m_isMade (p := (48 * b9)) (ln := k0) (N := N) (k := ki) (okp := (m_sg (H.1 1826 3) (H.1 1826 8) (vn : Nat))) (by omega) rfl (by decide) (by decide) hPk (by rw [hQk.1, hQk.2.1, hQk.2.2.1, hQk.2.2.2]; exact hTnH355) ⟨by omega, (show (H355.1 1826 93) = (N : Int) by omega)⟩ (by rw [hQk.1, hQk.2.1, hQk.2.2.1, hQk.2.2.2]; exact hTiH355) (by omega) (by rw [hQk.1, hQk.2.1]; exact (by show tm _ _ (H355.1 1842) _ _ 1; rw [show (H355.1 1842) = (H255.1 1842) from hfH355.2.1 1842 (by decide) (by decide), show (H255.1 1842) = (H.1 1842) from hfH255.2.1 1842 (by decide) (by decide), hb9]; exact k03)) (show 48 * b9 + k0 ≤ 1536 ∧ k0 ≤ 60 by omega) (by omega) (by rw [hQk.2.2.1, hQk.2.2.2]; exact (fun s9 h9 => by unfold m_sg at *; omega)) (by rw [hQk.1, hQk.2.1, hQk.2.2.1, hQk.2.2.2]; exact yH355)) ?_
                      rintro _ H364 ⟨(rfl | ⟨rfl, MH364, zH364, mH364, tH364⟩), hfH364⟩
                      · refine h_rng (fun hrg367 => ?_)
                        have hf368 : fr [50, 51, 53, 76, 93, 97] [1847, 1852, 1853, 1855, 1856, 1873, 1874, 1878, 1884, 1886] H H364 := fr_t hf360 hfH364 (by decide) (by decide)
                        have hOSH364 : OS H H364 n := OS_fr hOSH355 hfH364 (by decide) (by decide) (by decide)
                        have hooH364 : (H364.1 1871) 0 = (o : Int) := (congrFun (hfH364.2.1 1871 (by decide) (by decide)) 0).trans hooH355
                        refine h_run 0 (pc' := 182) (l' := [(0, .inr (.inr 1826)), (1, .inl (l : Int)), (2, .inl bk), (3, .inl (s : Int)), (4, .inl (q : Int)), (5, .inl wh), (6, .inl (o : Int)), (7, .inl (i259 : Int)), (8, .inl (a9 : Int)), (9, .inl (b9 : Int))]) (st' := [.inl 0]) rfl ?_
                        refine h_zeq (off := 7) (t := 189) rfl rfl (by decide) (fun _ => ?_) (fun c => absurd c (by decide))
                        refine h_run 4 (pc' := 194) (l' := [(0, .inr (.inr 1826)), (1, .inl (l : Int)), (2, .inl bk), (3, .inl (s : Int)), (4, .inl (q : Int)), (5, .inl wh), (6, .inl (o : Int)), (7, .inl (i259 : Int)), (8, .inl (a9 : Int)), (9, .inl (b9 : Int)), (10, .inl 0)]) (st' := [.inl (-1), .inr (.inr 1826)]) rfl ?_
                        refine h_puti (i := 202) (ci := 13) (k := 97) (a := 1826) (x := (-1)) rfl rfl rfl rfl rfl rfl (by decide) (by decide) ?_
                        refine h_run 1 (pc' := 199) (l' := [(0, .inr (.inr 1826)), (1, .inl (l : Int)), (2, .inl bk), (3, .inl (s : Int)), (4, .inl (q : Int)), (5, .inl wh), (6, .inl (o : Int)), (7, .inl (i259 : Int)), (8, .inl (a9 : Int)), (9, .inl (b9 : Int)), (10, .inl 0)]) (st' := [.inl 0]) rfl ?_
                        refine h_zne (off := 8) (t := 207) rfl rfl (by decide) (fun c => absurd c (by decide)) (fun _ => ?_)
                        refine h_run 2 (pc' := 226) (l' := [(0, .inr (.inr 1826)), (1, .inl (l : Int)), (2, .inl bk), (3, .inl (s : Int)), (4, .inl (q : Int)), (5, .inl wh), (6, .inl (o : Int)), (7, .inl (i259 : Int)), (8, .inl (a9 : Int)), (9, .inl (b9 : Int)), (10, .inl 0)]) (st' := [.inl (-104)]) rfl ?_
                        refine h_reti (x := (-104)) rfl rfl ?_
                        exact ⟨(fr_o hf368 (by decide)), (show (-1 : Int) = -1 by omega), (OS_fr hOSH364 (show fr [97] [] H364 (zu H364 1826 (up (H364.1 1826) 97 (-1))) from (fr_o (fr_rf _ _ _) (by decide))) (by decide) (by decide) (by decide)), _, rfl, by omega, by omega⟩
                      · refine h_rng (fun hrg369 => ?_)
                        have hf370 : fr [50, 51, 53, 76, 93, 97] [1847, 1852, 1853, 1855, 1856, 1873, 1874, 1878, 1884, 1886] H H364 := fr_t hf360 hfH364 (by decide) (by decide)
                        have hOSH364 : OS H H364 n := OS_fr hOSH355 hfH364 (by decide) (by decide) (by decide)
                        have hooH364 : (H364.1 1871) 0 = (o : Int) := (congrFun (hfH364.2.1 1871 (by decide) (by decide)) 0).trans hooH355
                        have tdH364 : tm (ma (H.1 1833) (H.1 1830)) (m_sg (H.1 1826 3) (H.1 1826 8) 60) (H364.1 1856) MH364 0 1 := by have h9 := tH364; rw [hQk.1, hQk.2.1, hQk.2.2.1, hQk.2.2.2] at h9; exact h9
                        refine h_run 0 (pc' := 182) (l' := [(0, .inr (.inr 1826)), (1, .inl (l : Int)), (2, .inl bk), (3, .inl (s : Int)), (4, .inl (q : Int)), (5, .inl wh), (6, .inl (o : Int)), (7, .inl (i259 : Int)), (8, .inl (a9 : Int)), (9, .inl (b9 : Int))]) (st' := [.inl 1]) rfl ?_
                        refine h_zeq (off := 7) (t := 189) rfl rfl (by decide) (fun c => absurd c (by decide)) (fun _ => ?_)
                        refine h_run 5 (pc' := 194) (l' := [(0, .inr (.inr 1826)), (1, .inl (l : Int)), (2, .inl bk), (3, .inl (s : Int)), (4, .inl (q : Int)), (5, .inl wh), (6, .inl (o : Int)), (7, .inl (i259 : Int)), (8, .inl (a9 : Int)), (9, .inl (b9 : Int)), (10, .inl 1)]) (st' := [.inl (-1), .inr (.inr 1826)]) rfl ?_
                        refine h_puti (i := 202) (ci := 13) (k := 97) (a := 1826) (x := (-1)) rfl rfl rfl rfl rfl rfl (by decide) (by decide) ?_
                        refine h_run 1 (pc' := 199) (l' := [(0, .inr (.inr 1826)), (1, .inl (l : Int)), (2, .inl bk), (3, .inl (s : Int)), (4, .inl (q : Int)), (5, .inl wh), (6, .inl (o : Int)), (7, .inl (i259 : Int)), (8, .inl (a9 : Int)), (9, .inl (b9 : Int)), (10, .inl 1)]) (st' := [.inl 1]) rfl ?_
                        refine h_zne (off := 8) (t := 207) rfl rfl (by decide) (fun _ => ?_) (fun c => absurd c (by decide))
                        refine h_run 3 (pc' := 211) (l' := [(0, .inr (.inr 1826)), (1, .inl (l : Int)), (2, .inl bk), (3, .inl (s : Int)), (4, .inl (q : Int)), (5, .inl wh), (6, .inl (o : Int)), (7, .inl (i259 : Int)), (8, .inl (a9 : Int)), (9, .inl (b9 : Int)), (10, .inl 1)]) (st' := [.inl (s : Int), .inl (o : Int), .inr (.inr 1826)]) rfl ?_
                        refine h_cv (i := 575) (j := 229) (b := 1826) (M' := mt_229) (xs := [.inl (s : Int), .inl (o : Int)]) (rest := []) rfl rfl rfl rfl rfl rfl (Nat.le_of_ble_eq_true rfl) (Nat.le_of_ble_eq_true rfl) (by omega) (m_isKept (M := MH364) (by omega) (by omega) ⟨zH364, mH364⟩) ?_
                        rintro _ H371 (⟨rfl, hxH371, rfl⟩ | ⟨rfl, hlH371, hfH371, hzH371, hcH371, hoH371⟩)
                        · refine h_run 0 (pc' := 214) (l' := [(0, .inr (.inr 1826)), (1, .inl (l : Int)), (2, .inl bk), (3, .inl (s : Int)), (4, .inl (q : Int)), (5, .inl wh), (6, .inl (o : Int)), (7, .inl (i259 : Int)), (8, .inl (a9 : Int)), (9, .inl (b9 : Int)), (10, .inl 1)]) (st' := [.inl 0]) rfl ?_
                          refine h_zeq (off := 10) (t := 224) rfl rfl (by decide) (fun _ => ?_) (fun c => absurd c (by decide))
                          refine h_run 1 (pc' := 226) (l' := [(0, .inr (.inr 1826)), (1, .inl (l : Int)), (2, .inl bk), (3, .inl (s : Int)), (4, .inl (q : Int)), (5, .inl wh), (6, .inl (o : Int)), (7, .inl (i259 : Int)), (8, .inl (a9 : Int)), (9, .inl (b9 : Int)), (10, .inl 1)]) (st' := [.inl (-105)]) rfl ?_
                          refine h_reti (x := (-105)) rfl rfl ?_
                          exact ⟨(fr_o hf370 (by decide)), (show (-1 : Int) = -1 by omega), (OS_fr hOSH364 (show fr [97] [] H364 (zu H364 1826 (up (H364.1 1826) 97 (-1))) from (fr_o (fr_rf _ _ _) (by decide))) (by decide) (by decide) (by decide)), _, rfl, by omega, by omega⟩
                        · refine h_rng (fun hrg372 => ?_)
                          have hf373 : fr [50, 51, 53, 76, 93, 97] [1847, 1852, 1853, 1855, 1856, 1873, 1874, 1878, 1884, 1886] H H371 := fr_t (fr_o hf370 (by decide)) hfH371 (by decide) (by decide)
                          have hOSH371 : OS H H371 n := OS_side (OS_fr hOSH364 (show fr [97] [] H364 (zu H364 1826 (up (H364.1 1826) 97 (-1))) from (fr_o (fr_rf _ _ _) (by decide))) (by decide) (by decide) (by decide)) hooH364 hfH371 hs hlH371 hzH371 hcH371 hoH371 tdH364
                          have hooH371 : (H371.1 1871) 0 = (o : Int) := (congrFun (hfH371.2.1 1871 (by decide) (by decide)) 0).trans hooH364
                          refine h_run 0 (pc' := 214) (l' := [(0, .inr (.inr 1826)), (1, .inl (l : Int)), (2, .inl bk), (3, .inl (s : Int)), (4, .inl (q : Int)), (5, .inl wh), (6, .inl (o : Int)), (7, .inl (i259 : Int)), (8, .inl (a9 : Int)), (9, .inl (b9 : Int)), (10, .inl 1)]) (st' := [.inl 1]) rfl ?_
                          refine h_zeq (off := 10) (t := 224) rfl rfl (by decide) (fun c => absurd c (by decide)) (fun _ => ?_)
                          refine h_run 1 (pc' := 218) (l' := [(0, .inr (.inr 1826)), (1, .inl (l : Int)), (2, .inl bk), (3, .inl (s : Int)), (4, .inl (q : Int)), (5, .inl wh), (6, .inl (o : Int)), (7, .inl (i259 : Int)), (8, .inl (a9 : Int)), (9, .inl (b9 : Int)), (10, .inl 1)]) (st' := [.inr (.inr 1826)]) rfl ?_
                          refine h_cv (i := 556) (j := 232) (b := 1826) (M' := mt_232) (xs := []) (rest := []) rfl rfl rfl rfl rfl rfl (Nat.le_of_ble_eq_true rfl) (Nat.le_of_ble_eq_true rfl) (by omega) (m_did (n := n) (by omega) hOSH371.1.1 (fun q9 => absurd q9 (by omega)) (by rw [show (H371.1 1871) 0 = (o : Int) from hooH371]; omega)) ?_
                          rintro _ H374 ⟨rfl, hfH374⟩
                          refine h_rng (fun hrg375 => ?_)
                          have hf376 : fr [50, 51, 53, 76, 93, 97] [1847, 1852, 1853, 1855, 1856, 1873, 1874, 1878, 1884, 1886] H H374 := fr_t hf373 hfH374 (by decide) (by decide)
                          have hOSH374 : OS H H374 n := OS_fr hOSH371 hfH374 (by decide) (by decide) (by decide)
                          have hooH374 : (H374.1 1871) 0 = (o : Int) := (congrFun (hfH374.2.1 1871 (by decide) (by decide)) 0).trans hooH371
                          refine h_run 0 (pc' := 221) (l' := [(0, .inr (.inr 1826)), (1, .inl (l : Int)), (2, .inl bk), (3, .inl (s : Int)), (4, .inl (q : Int)), (5, .inl wh), (6, .inl (o : Int)), (7, .inl (i259 : Int)), (8, .inl (a9 : Int)), (9, .inl (b9 : Int)), (10, .inl 1)]) (st' := [.inl (n : Int)]) rfl ?_
                          refine h_run 1 (pc' := 226) (l' := [(0, .inr (.inr 1826)), (1, .inl (l : Int)), (2, .inl bk), (3, .inl (s : Int)), (4, .inl (q : Int)), (5, .inl wh), (6, .inl (o : Int)), (7, .inl (i259 : Int)), (8, .inl (a9 : Int)), (9, .inl (b9 : Int)), (10, .inl 1)]) (st' := [.inl (n : Int)]) rfl ?_
                          refine h_reti (x := (n : Int)) rfl rfl ?_
                          have g377 : -2147483648 ≤ (H374.1 1826 97) ∧ (H374.1 1826 97) ≤ 2147483647 := hrg375.1 1826 13 97 _ .int rfl rfl
                          have e378 : (H374.1 1826 97) = (H371.1 1826 97) := hfH374.2.2 97 (by decide)
                          have e379 : (H371.1 1826 97) = (-1) := hfH371.2.2 97 (by decide)
                          exact ⟨hf376, (show (H374.1 1826 97) = -1 by omega), hOSH374, _, rfl, by omega, by omega⟩
            · refine h_run 1 (pc' := 71) (l' := [(0, .inr (.inr 1826)), (1, .inl (l : Int)), (2, .inl bk), (3, .inl (s : Int)), (4, .inl (q : Int)), (5, .inl wh), (6, .inl (o : Int)), (7, .inl (i259 : Int))]) (st' := [.inl (-104)]) rfl ?_
              refine h_reti (x := (-104)) rfl rfl ?_
              have g380 : -2147483648 ≤ (H255.1 1826 97) ∧ (H255.1 1826 97) ≤ 2147483647 := hrg256.1 1826 13 97 _ .int rfl rfl
              have e381 : (H255.1 1826 97) = (H.1 1826 97) := hfH255.2.2 97 (by decide)
              exact ⟨hf257, (show (H255.1 1826 97) = -1 by omega), hOSH255, _, rfl, by omega, by omega⟩
        · obtain ⟨wi, hwi⟩ : ∃ k9 : Nat, wh = (k9 : Int) := ⟨(wh).toNat, by omega⟩
          rw [show wh = (wi : Int) from hwi]
          refine h_run 5 (pc' := 66) (l' := [(0, .inr (.inr 1826)), (1, .inl (l : Int)), (2, .inl bk), (3, .inl (s : Int)), (4, .inl (q : Int)), (5, .inl (wi : Int)), (6, .inl (o : Int)), (7, .inl (wi : Int))]) (st' := [.inl (-1), .inl (wi : Int)]) rfl ?_
          refine h_ine (off := 6) (t := 72) rfl rfl (by omega) (by decide) (fun c382 => ?_) (fun c382 => ?_)
          · obtain ⟨ki, hki, hTi⟩ := tm_sub hTn (p := wi) (by omega)
            have hki1 : 1 ≤ ki := tm_le hTi
            have hsi := tm_ok hTn wi (by omega)
            rw [Nat.zero_add] at hsi
            have hsi9 := hsi
            unfold m_sg at hsi9
            refine h_run 4 (pc' := 76) (l' := [(0, .inr (.inr 1826)), (1, .inl (l : Int)), (2, .inl bk), (3, .inl (s : Int)), (4, .inl (q : Int)), (5, .inl (wi : Int)), (6, .inl (o : Int)), (7, .inl (wi : Int))]) (st' := [.inl bk, .inl (2 * (l : Int))]) rfl ?_
            refine h_zeq (off := 7) (t := 83) rfl rfl (by omega) (fun c383 => ?_) (fun c383 => ?_)
            · refine h_run 2 (pc' := 85) (l' := [(0, .inr (.inr 1826)), (1, .inl (l : Int)), (2, .inl bk), (3, .inl (s : Int)), (4, .inl (q : Int)), (5, .inl (wi : Int)), (6, .inl (o : Int)), (7, .inl (wi : Int))]) (st' := [.inl ((2 * (l : Int)) + 0)]) rfl ?_
              obtain ⟨a9, ha9⟩ : ∃ x9 : Nat, x9 = 2 * l + 0 := ⟨_, rfl⟩
              rw [show ((2 * (l : Int)) + 0) = ((a9 : Nat) : Int) from (by omega)]
              refine h_run 5 (pc' := 91) (l' := [(0, .inr (.inr 1826)), (1, .inl (l : Int)), (2, .inl bk), (3, .inl (s : Int)), (4, .inl (q : Int)), (5, .inl (wi : Int)), (6, .inl (o : Int)), (7, .inl (wi : Int)), (8, .inl (a9 : Int))]) (st' := [.inl bk, .inl (2 * (l : Int))]) rfl ?_
              refine h_zeq (off := 7) (t := 98) rfl rfl (by omega) (fun c384 => ?_) (fun c384 => ?_)
              · refine h_run 2 (pc' := 100) (l' := [(0, .inr (.inr 1826)), (1, .inl (l : Int)), (2, .inl bk), (3, .inl (s : Int)), (4, .inl (q : Int)), (5, .inl (wi : Int)), (6, .inl (o : Int)), (7, .inl (wi : Int)), (8, .inl (a9 : Int))]) (st' := [.inl ((2 * (l : Int)) + 1)]) rfl ?_
                obtain ⟨b9, hb9⟩ : ∃ x9 : Nat, x9 = 2 * l + 1 := ⟨_, rfl⟩
                rw [show ((2 * (l : Int)) + 1) = ((b9 : Nat) : Int) from (by omega)]
                refine h_run 3 (pc' := 104) (l' := [(0, .inr (.inr 1826)), (1, .inl (l : Int)), (2, .inl bk), (3, .inl (s : Int)), (4, .inl (q : Int)), (5, .inl (wi : Int)), (6, .inl (o : Int)), (7, .inl (wi : Int)), (8, .inl (a9 : Int)), (9, .inl (b9 : Int))]) (st' := [.inl (l : Int), .inr (.inr 1826)]) rfl ?_
                refine h_puti (i := 202) (ci := 13) (k := 97) (a := 1826) (x := (l : Int)) rfl rfl rfl rfl rfl rfl (by decide) (by omega) ?_
                refine h_run 9 (pc' := 123) (l' := [(0, .inr (.inr 1826)), (1, .inl (l : Int)), (2, .inl bk), (3, .inl (s : Int)), (4, .inl (q : Int)), (5, .inl (wi : Int)), (6, .inl (o : Int)), (7, .inl (wi : Int)), (8, .inl (a9 : Int)), (9, .inl (b9 : Int))]) (st' := [.inl (a9 : Int), .inr (.inr 1843), .inl (48 * (a9 : Int)), .inr (.inr 1842), .inr (.inr 1826)]) rfl ?_
                refine h_ild (c := 1843) (j := a9) (i := (a9 : Int)) rfl rfl (by decide) rfl (by omega) ?_
                have g385 : -2147483648 ≤ (H255.1 1843 a9) ∧ (H255.1 1843 a9) ≤ 2147483647 := hrg256.2 1843 a9 32 .int rfl (by omega)
                have e386 : (H255.1 1843 a9) = (H.1 1843 a9) := congrFun (hfH255.2.1 1843 (by decide) (by decide)) a9
                refine h_run 0 (pc' := 124) (l' := [(0, .inr (.inr 1826)), (1, .inl (l : Int)), (2, .inl bk), (3, .inl (s : Int)), (4, .inl (q : Int)), (5, .inl (wi : Int)), (6, .inl (o : Int)), (7, .inl (wi : Int)), (8, .inl (a9 : Int)), (9, .inl (b9 : Int))]) (st' := [.inl (H255.1 1843 a9), .inl (48 * (a9 : Int)), .inr (.inr 1842), .inr (.inr 1826)]) rfl ?_
                have hsza9 : (H255.1 1843) a9 = (k0 : Int) := by rw [show (H255.1 1843) = (H.1 1843) from hfH255.2.1 1843 (by decide) (by decide), ha9]; exact k01
                rw [show (H255.1 1843 a9) = (k0 : Int) by omega]
                refine h_run 5 (pc' := 135) (l' := [(0, .inr (.inr 1826)), (1, .inl (l : Int)), (2, .inl bk), (3, .inl (s : Int)), (4, .inl (q : Int)), (5, .inl (wi : Int)), (6, .inl (o : Int)), (7, .inl (wi : Int)), (8, .inl (a9 : Int)), (9, .inl (b9 : Int))]) (st' := [.inl (o : Int), .inr (.inr 1875), .inl (wi : Int), .inl 1000, .inl (k0 : Int), .inl (48 * (a9 : Int)), .inr (.inr 1842), .inr (.inr 1826)]) rfl ?_
                refine h_ild (c := 1875) (j := o) (i := (o : Int)) rfl rfl (by decide) rfl (by omega) ?_
                have g387 : -2147483648 ≤ (H255.1 1875 o) ∧ (H255.1 1875 o) ≤ 2147483647 := hrg256.2 1875 o 40 .int rfl (by omega)
                have e388 : (H255.1 1875 o) = (H.1 1875 o) := congrFun (hfH255.2.1 1875 (by decide) (by decide)) o
                refine h_run 0 (pc' := 136) (l' := [(0, .inr (.inr 1826)), (1, .inl (l : Int)), (2, .inl bk), (3, .inl (s : Int)), (4, .inl (q : Int)), (5, .inl (wi : Int)), (6, .inl (o : Int)), (7, .inl (wi : Int)), (8, .inl (a9 : Int)), (9, .inl (b9 : Int))]) (st' := [.inl (H255.1 1875 o), .inl (wi : Int), .inl 1000, .inl (k0 : Int), .inl (48 * (a9 : Int)), .inr (.inr 1842), .inr (.inr 1826)]) rfl ?_
                refine h_run 3 (pc' := 141) (l' := [(0, .inr (.inr 1826)), (1, .inl (l : Int)), (2, .inl bk), (3, .inl (s : Int)), (4, .inl (q : Int)), (5, .inl (wi : Int)), (6, .inl (o : Int)), (7, .inl (wi : Int)), (8, .inl (a9 : Int)), (9, .inl (b9 : Int))]) (st' := [.inl (l : Int), .inr (.inr 1847), .inl (H255.1 1875 o), .inl (wi : Int), .inl 1000, .inl (k0 : Int), .inl (48 * (a9 : Int)), .inr (.inr 1842), .inr (.inr 1826)]) rfl ?_
                refine h_ild (c := 1847) (j := l) (i := (l : Int)) rfl rfl (by decide) rfl (by omega) ?_
                have g389 : -2147483648 ≤ (H255.1 1847 l) ∧ (H255.1 1847 l) ≤ 2147483647 := hrg256.2 1847 l 16 .int rfl (by omega)
                have e390 : (H255.1 1847 l) = (H.1 1847 l) := congrFun (hfH255.2.1 1847 (by decide) (by decide)) l
                refine h_run 0 (pc' := 142) (l' := [(0, .inr (.inr 1826)), (1, .inl (l : Int)), (2, .inl bk), (3, .inl (s : Int)), (4, .inl (q : Int)), (5, .inl (wi : Int)), (6, .inl (o : Int)), (7, .inl (wi : Int)), (8, .inl (a9 : Int)), (9, .inl (b9 : Int))]) (st' := [.inl (H255.1 1847 l), .inl (H255.1 1875 o), .inl (wi : Int), .inl 1000, .inl (k0 : Int), .inl (48 * (a9 : Int)), .inr (.inr 1842), .inr (.inr 1826)]) rfl ?_
                refine h_run 1 (pc' := 143) (l' := [(0, .inr (.inr 1826)), (1, .inl (l : Int)), (2, .inl bk), (3, .inl (s : Int)), (4, .inl (q : Int)), (5, .inl (wi : Int)), (6, .inl (o : Int)), (7, .inl (wi : Int)), (8, .inl (a9 : Int)), (9, .inl (b9 : Int))]) (st' := [.inl 1, .inl (H255.1 1847 l), .inl (H255.1 1875 o), .inl (wi : Int), .inl 1000, .inl (k0 : Int), .inl (48 * (a9 : Int)), .inr (.inr 1842), .inr (.inr 1826)]) rfl ?_
                refine h_ine (off := 7) (t := 150) rfl rfl (by omega) (by decide) (fun c391 => ?_) (fun c391 => ?_)
                · refine h_run 1 (pc' := 151) (l' := [(0, .inr (.inr 1826)), (1, .inl (l : Int)), (2, .inl bk), (3, .inl (s : Int)), (4, .inl (q : Int)), (5, .inl (wi : Int)), (6, .inl (o : Int)), (7, .inl (wi : Int)), (8, .inl (a9 : Int)), (9, .inl (b9 : Int))]) (st' := [.inl 0, .inl (H255.1 1875 o), .inl (wi : Int), .inl 1000, .inl (k0 : Int), .inl (48 * (a9 : Int)), .inr (.inr 1842), .inr (.inr 1826)]) rfl ?_
                  have g393 : -2147483648 ≤ (H255.1 1826 93) ∧ (H255.1 1826 93) ≤ 2147483647 := hrg256.1 1826 13 93 _ .int rfl rfl
                  have hQl : sP H (zu H255 1826 (up (H255.1 1826) 97 (l : Int))) := sP_fr (sP_rf H) (fr_o hf257 (by decide)) (by decide) (by decide)
                  have hPl : PWc (zu H255 1826 (up (H255.1 1826) 97 (l : Int))) := PWc_fr hP (fr_o hf257 (by decide)) (by decide) (by decide)
                  refine h_cv (i := 593) (j := 239) (b := 1826) (M' := mt_239) (xs := [.inl 0, .inl (H255.1 1875 o), .inl (wi : Int), .inl 1000, .inl (k0 : Int), .inl (48 * (a9 : Int)), .inr (.inr 1842)]) (rest := []) rfl rfl rfl rfl rfl rfl (Nat.le_of_ble_eq_true rfl) (Nat.le_of_ble_eq_true rfl) (by omega) (m_isLike (p := (48 * a9)) (ln := k0) (N := N) (k := ki) (V := 6) (okp := (m_sg (H.1 1826 3) (H.1 1826 8) (vn : Nat))) (by omega) rfl (by decide) (by decide) hPl (by rw [hQl.1, hQl.2.1, hQl.2.2.1, hQl.2.2.2]; exact hTn) ⟨by omega, (show (H255.1 1826 93) = (N : Int) by omega)⟩ (by rw [hQl.1, hQl.2.1, hQl.2.2.1, hQl.2.2.2]; exact hTi) (by omega) (by rw [hQl.1, hQl.2.1]; exact (by show tm _ _ (H255.1 1842) _ _ 1; rw [show (H255.1 1842) = (H.1 1842) from hfH255.2.1 1842 (by decide) (by decide), ha9]; exact k03)) (show 48 * a9 + k0 ≤ 1536 ∧ k0 ≤ 60 by omega) (by omega) (Or.inr (show 0 ≤ (l : Int) ∧ (l : Int) ≤ 15 ∧ 6 ≤ 6 by omega)) (fun s9 h9 => by unfold m_sg at h9; omega) (by omega)) ?_
                  rintro _ H392 ⟨(rfl | ⟨rfl, xH392⟩), hfH392⟩
                  · refine h_rng (fun hrg394 => ?_)
                    have hf395 : fr [50, 51, 53, 76, 93, 97] [1847, 1852, 1853, 1855, 1856, 1873, 1874, 1878, 1884, 1886] H H392 := fr_t (fr_o hf257 (by decide)) hfH392 (by decide) (by decide)
                    have hOSH392 : OS H H392 n := OS_fr (OS_fr hOSH255 (show fr [97] [] H255 (zu H255 1826 (up (H255.1 1826) 97 (l : Int))) from (fr_o (fr_rf _ _ _) (by decide))) (by decide) (by decide) (by decide)) hfH392 (by decide) (by decide) (by decide)
                    have hooH392 : (H392.1 1871) 0 = (o : Int) := (congrFun (hfH392.2.1 1871 (by decide) (by decide)) 0).trans hooH255
                    refine h_run 0 (pc' := 154) (l' := [(0, .inr (.inr 1826)), (1, .inl (l : Int)), (2, .inl bk), (3, .inl (s : Int)), (4, .inl (q : Int)), (5, .inl (wi : Int)), (6, .inl (o : Int)), (7, .inl (wi : Int)), (8, .inl (a9 : Int)), (9, .inl (b9 : Int))]) (st' := [.inl 0]) rfl ?_
                    refine h_zeq (off := 35) (t := 189) rfl rfl (by decide) (fun _ => ?_) (fun c => absurd c (by decide))
                    refine h_run 4 (pc' := 194) (l' := [(0, .inr (.inr 1826)), (1, .inl (l : Int)), (2, .inl bk), (3, .inl (s : Int)), (4, .inl (q : Int)), (5, .inl (wi : Int)), (6, .inl (o : Int)), (7, .inl (wi : Int)), (8, .inl (a9 : Int)), (9, .inl (b9 : Int)), (10, .inl 0)]) (st' := [.inl (-1), .inr (.inr 1826)]) rfl ?_
                    refine h_puti (i := 202) (ci := 13) (k := 97) (a := 1826) (x := (-1)) rfl rfl rfl rfl rfl rfl (by decide) (by decide) ?_
                    refine h_run 1 (pc' := 199) (l' := [(0, .inr (.inr 1826)), (1, .inl (l : Int)), (2, .inl bk), (3, .inl (s : Int)), (4, .inl (q : Int)), (5, .inl (wi : Int)), (6, .inl (o : Int)), (7, .inl (wi : Int)), (8, .inl (a9 : Int)), (9, .inl (b9 : Int)), (10, .inl 0)]) (st' := [.inl 0]) rfl ?_
                    refine h_zne (off := 8) (t := 207) rfl rfl (by decide) (fun c => absurd c (by decide)) (fun _ => ?_)
                    refine h_run 2 (pc' := 226) (l' := [(0, .inr (.inr 1826)), (1, .inl (l : Int)), (2, .inl bk), (3, .inl (s : Int)), (4, .inl (q : Int)), (5, .inl (wi : Int)), (6, .inl (o : Int)), (7, .inl (wi : Int)), (8, .inl (a9 : Int)), (9, .inl (b9 : Int)), (10, .inl 0)]) (st' := [.inl (-104)]) rfl ?_
                    refine h_reti (x := (-104)) rfl rfl ?_
                    exact ⟨(fr_o hf395 (by decide)), (show (-1 : Int) = -1 by omega), (OS_fr hOSH392 (show fr [97] [] H392 (zu H392 1826 (up (H392.1 1826) 97 (-1))) from (fr_o (fr_rf _ _ _) (by decide))) (by decide) (by decide) (by decide)), _, rfl, by omega, by omega⟩
                  · refine h_rng (fun hrg396 => ?_)
                    have hf397 : fr [50, 51, 53, 76, 93, 97] [1847, 1852, 1853, 1855, 1856, 1873, 1874, 1878, 1884, 1886] H H392 := fr_t (fr_o hf257 (by decide)) hfH392 (by decide) (by decide)
                    have hOSH392 : OS H H392 n := OS_fr (OS_fr hOSH255 (show fr [97] [] H255 (zu H255 1826 (up (H255.1 1826) 97 (l : Int))) from (fr_o (fr_rf _ _ _) (by decide))) (by decide) (by decide) (by decide)) hfH392 (by decide) (by decide) (by decide)
                    have hooH392 : (H392.1 1871) 0 = (o : Int) := (congrFun (hfH392.2.1 1871 (by decide) (by decide)) 0).trans hooH255
                    have eNH392 : (H392.1 1884) = (H255.1 1884) := hfH392.2.1 1884 (by decide) (by decide)
                    have yH392 : fre (ma (H.1 1833) (H.1 1830)) (m_sg (H.1 1826 3) (H.1 1826 8) 60) (H392.1 1884) (H392.1 1886) N := by have h9 := xH392; rw [hQl.1, hQl.2.1, hQl.2.2.1, hQl.2.2.2] at h9; rw [eNH392]; exact h9
                    have hTnH392 : tm (ma (H.1 1833) (H.1 1830)) (m_sg (H.1 1826 3) (H.1 1826 8) 60) (H392.1 1884) N 0 1 := by rw [eNH392]; exact hTn
                    have hTiH392 : tm (ma (H.1 1833) (H.1 1830)) (m_sg (H.1 1826 3) (H.1 1826 8) 60) (H392.1 1884) ki wi 1 := by rw [eNH392]; exact hTi
                    refine h_run 0 (pc' := 154) (l' := [(0, .inr (.inr 1826)), (1, .inl (l : Int)), (2, .inl bk), (3, .inl (s : Int)), (4, .inl (q : Int)), (5, .inl (wi : Int)), (6, .inl (o : Int)), (7, .inl (wi : Int)), (8, .inl (a9 : Int)), (9, .inl (b9 : Int))]) (st' := [.inl 1]) rfl ?_
                    refine h_zeq (off := 35) (t := 189) rfl rfl (by decide) (fun c => absurd c (by decide)) (fun _ => ?_)
                    refine h_run 9 (pc' := 173) (l' := [(0, .inr (.inr 1826)), (1, .inl (l : Int)), (2, .inl bk), (3, .inl (s : Int)), (4, .inl (q : Int)), (5, .inl (wi : Int)), (6, .inl (o : Int)), (7, .inl (wi : Int)), (8, .inl (a9 : Int)), (9, .inl (b9 : Int))]) (st' := [.inl (b9 : Int), .inr (.inr 1843), .inl (48 * (b9 : Int)), .inr (.inr 1842), .inr (.inr 1826)]) rfl ?_
                    refine h_ild (c := 1843) (j := b9) (i := (b9 : Int)) rfl rfl (by decide) rfl (by omega) ?_
                    have g398 : -2147483648 ≤ (H392.1 1843 b9) ∧ (H392.1 1843 b9) ≤ 2147483647 := hrg396.2 1843 b9 32 .int rfl (by omega)
                    have e399 : (H392.1 1843 b9) = (H255.1 1843 b9) := congrFun (hfH392.2.1 1843 (by decide) (by decide)) b9
                    have e400 : (H255.1 1843 b9) = (H.1 1843 b9) := congrFun (hfH255.2.1 1843 (by decide) (by decide)) b9
                    refine h_run 0 (pc' := 174) (l' := [(0, .inr (.inr 1826)), (1, .inl (l : Int)), (2, .inl bk), (3, .inl (s : Int)), (4, .inl (q : Int)), (5, .inl (wi : Int)), (6, .inl (o : Int)), (7, .inl (wi : Int)), (8, .inl (a9 : Int)), (9, .inl (b9 : Int))]) (st' := [.inl (H392.1 1843 b9), .inl (48 * (b9 : Int)), .inr (.inr 1842), .inr (.inr 1826)]) rfl ?_
                    have hszb9 : (H392.1 1843) b9 = (k1 : Int) := by rw [show (H392.1 1843) = (H255.1 1843) from hfH392.2.1 1843 (by decide) (by decide), show (H255.1 1843) = (H.1 1843) from hfH255.2.1 1843 (by decide) (by decide), hb9]; exact k11
                    rw [show (H392.1 1843 b9) = (k1 : Int) by omega]
                    refine h_run 2 (pc' := 179) (l' := [(0, .inr (.inr 1826)), (1, .inl (l : Int)), (2, .inl bk), (3, .inl (s : Int)), (4, .inl (q : Int)), (5, .inl (wi : Int)), (6, .inl (o : Int)), (7, .inl (wi : Int)), (8, .inl (a9 : Int)), (9, .inl (b9 : Int))]) (st' := [.inl (wi : Int), .inl 1000, .inl (k1 : Int), .inl (48 * (b9 : Int)), .inr (.inr 1842), .inr (.inr 1826)]) rfl ?_
                    have g402 : -2147483648 ≤ (H392.1 1826 93) ∧ (H392.1 1826 93) ≤ 2147483647 := hrg396.1 1826 13 93 _ .int rfl rfl
                    have e403 : (H392.1 1826 93) = (H255.1 1826 93) := hfH392.2.2 93 (by decide)
                    have hQk : sP H H392 := sP_fr (sP_rf H) hf397 (by decide) (by decide)
                    have hPk : PWc H392 := PWc_fr hP hf397 (by decide) (by decide)
                    refine h_cv (i := 597) (j := 242) (b := 1826) (M' := mt_242) (xs := [.inl (wi : Int), .inl 1000, .inl (k1 : Int), .inl (48 * (b9 : Int)), .inr (.inr 1842)]) (rest := []) rfl rfl rfl rfl rfl rfl (Nat.le_of_ble_eq_true rfl) (Nat.le_of_ble_eq_true rfl) (by omega) (m_isMade (p := (48 * b9)) (ln := k1) (N := N) (k := ki) (okp := (m_sg (H.1 1826 3) (H.1 1826 8) (vn : Nat))) (by omega) rfl (by decide) (by decide) hPk (by rw [hQk.1, hQk.2.1, hQk.2.2.1, hQk.2.2.2]; exact hTnH392) ⟨by omega, (show (H392.1 1826 93) = (N : Int) by omega)⟩ (by rw [hQk.1, hQk.2.1, hQk.2.2.1, hQk.2.2.2]; exact hTiH392) (by omega) (by rw [hQk.1, hQk.2.1]; exact (by show tm _ _ (H392.1 1842) _ _ 1; rw [show (H392.1 1842) = (H255.1 1842) from hfH392.2.1 1842 (by decide) (by decide), show (H255.1 1842) = (H.1 1842) from hfH255.2.1 1842 (by decide) (by decide), hb9]; exact k13)) (show 48 * b9 + k1 ≤ 1536 ∧ k1 ≤ 60 by omega) (by omega) (by rw [hQk.2.2.1, hQk.2.2.2]; exact (fun s9 h9 => by unfold m_sg at *; omega)) (by rw [hQk.1, hQk.2.1, hQk.2.2.1, hQk.2.2.2]; exact yH392)) ?_
                    rintro _ H401 ⟨(rfl | ⟨rfl, MH401, zH401, mH401, tH401⟩), hfH401⟩
                    · refine h_rng (fun hrg404 => ?_)
                      have hf405 : fr [50, 51, 53, 76, 93, 97] [1847, 1852, 1853, 1855, 1856, 1873, 1874, 1878, 1884, 1886] H H401 := fr_t hf397 hfH401 (by decide) (by decide)
                      have hOSH401 : OS H H401 n := OS_fr hOSH392 hfH401 (by decide) (by decide) (by decide)
                      have hooH401 : (H401.1 1871) 0 = (o : Int) := (congrFun (hfH401.2.1 1871 (by decide) (by decide)) 0).trans hooH392
                      refine h_run 0 (pc' := 182) (l' := [(0, .inr (.inr 1826)), (1, .inl (l : Int)), (2, .inl bk), (3, .inl (s : Int)), (4, .inl (q : Int)), (5, .inl (wi : Int)), (6, .inl (o : Int)), (7, .inl (wi : Int)), (8, .inl (a9 : Int)), (9, .inl (b9 : Int))]) (st' := [.inl 0]) rfl ?_
                      refine h_zeq (off := 7) (t := 189) rfl rfl (by decide) (fun _ => ?_) (fun c => absurd c (by decide))
                      refine h_run 4 (pc' := 194) (l' := [(0, .inr (.inr 1826)), (1, .inl (l : Int)), (2, .inl bk), (3, .inl (s : Int)), (4, .inl (q : Int)), (5, .inl (wi : Int)), (6, .inl (o : Int)), (7, .inl (wi : Int)), (8, .inl (a9 : Int)), (9, .inl (b9 : Int)), (10, .inl 0)]) (st' := [.inl (-1), .inr (.inr 1826)]) rfl ?_
                      refine h_puti (i := 202) (ci := 13) (k := 97) (a := 1826) (x := (-1)) rfl rfl rfl rfl rfl rfl (by decide) (by decide) ?_
                      refine h_run 1 (pc' := 199) (l' := [(0, .inr (.inr 1826)), (1, .inl (l : Int)), (2, .inl bk), (3, .inl (s : Int)), (4, .inl (q : Int)), (5, .inl (wi : Int)), (6, .inl (o : Int)), (7, .inl (wi : Int)), (8, .inl (a9 : Int)), (9, .inl (b9 : Int)), (10, .inl 0)]) (st' := [.inl 0]) rfl ?_
                      refine h_zne (off := 8) (t := 207) rfl rfl (by decide) (fun c => absurd c (by decide)) (fun _ => ?_)
                      refine h_run 2 (pc' := 226) (l' := [(0, .inr (.inr 1826)), (1, .inl (l : Int)), (2, .inl bk), (3, .inl (s : Int)), (4, .inl (q : Int)), (5, .inl (wi : Int)), (6, .inl (o : Int)), (7, .inl (wi : Int)), (8, .inl (a9 : Int)), (9, .inl (b9 : Int)), (10, .inl 0)]) (st' := [.inl (-104)]) rfl ?_
                      refine h_reti (x := (-104)) rfl rfl ?_
                      exact ⟨(fr_o hf405 (by decide)), (show (-1 : Int) = -1 by omega), (OS_fr hOSH401 (show fr [97] [] H401 (zu H401 1826 (up (H401.1 1826) 97 (-1))) from (fr_o (fr_rf _ _ _) (by decide))) (by decide) (by decide) (by decide)), _, rfl, by omega, by omega⟩
                    · refine h_rng (fun hrg406 => ?_)
                      have hf407 : fr [50, 51, 53, 76, 93, 97] [1847, 1852, 1853, 1855, 1856, 1873, 1874, 1878, 1884, 1886] H H401 := fr_t hf397 hfH401 (by decide) (by decide)
                      have hOSH401 : OS H H401 n := OS_fr hOSH392 hfH401 (by decide) (by decide) (by decide)
                      have hooH401 : (H401.1 1871) 0 = (o : Int) := (congrFun (hfH401.2.1 1871 (by decide) (by decide)) 0).trans hooH392
                      have tdH401 : tm (ma (H.1 1833) (H.1 1830)) (m_sg (H.1 1826 3) (H.1 1826 8) 60) (H401.1 1856) MH401 0 1 := by have h9 := tH401; rw [hQk.1, hQk.2.1, hQk.2.2.1, hQk.2.2.2] at h9; exact h9
                      refine h_run 0 (pc' := 182) (l' := [(0, .inr (.inr 1826)), (1, .inl (l : Int)), (2, .inl bk), (3, .inl (s : Int)), (4, .inl (q : Int)), (5, .inl (wi : Int)), (6, .inl (o : Int)), (7, .inl (wi : Int)), (8, .inl (a9 : Int)), (9, .inl (b9 : Int))]) (st' := [.inl 1]) rfl ?_
                      refine h_zeq (off := 7) (t := 189) rfl rfl (by decide) (fun c => absurd c (by decide)) (fun _ => ?_)
                      refine h_run 5 (pc' := 194) (l' := [(0, .inr (.inr 1826)), (1, .inl (l : Int)), (2, .inl bk), (3, .inl (s : Int)), (4, .inl (q : Int)), (5, .inl (wi : Int)), (6, .inl (o : Int)), (7, .inl (wi : Int)), (8, .inl (a9 : Int)), (9, .inl (b9 : Int)), (10, .inl 1)]) (st' := [.inl (-1), .inr (.inr 1826)]) rfl ?_
                      refine h_puti (i := 202) (ci := 13) (k := 97) (a := 1826) (x := (-1)) rfl rfl rfl rfl rfl rfl (by decide) (by decide) ?_
                      refine h_run 1 (pc' := 199) (l' := [(0, .inr (.inr 1826)), (1, .inl (l : Int)), (2, .inl bk), (3, .inl (s : Int)), (4, .inl (q : Int)), (5, .inl (wi : Int)), (6, .inl (o : Int)), (7, .inl (wi : Int)), (8, .inl (a9 : Int)), (9, .inl (b9 : Int)), (10, .inl 1)]) (st' := [.inl 1]) rfl ?_
                      refine h_zne (off := 8) (t := 207) rfl rfl (by decide) (fun _ => ?_) (fun c => absurd c (by decide))
                      refine h_run 3 (pc' := 211) (l' := [(0, .inr (.inr 1826)), (1, .inl (l : Int)), (2, .inl bk), (3, .inl (s : Int)), (4, .inl (q : Int)), (5, .inl (wi : Int)), (6, .inl (o : Int)), (7, .inl (wi : Int)), (8, .inl (a9 : Int)), (9, .inl (b9 : Int)), (10, .inl 1)]) (st' := [.inl (s : Int), .inl (o : Int), .inr (.inr 1826)]) rfl ?_
                      refine h_cv (i := 575) (j := 229) (b := 1826) (M' := mt_229) (xs := [.inl (s : Int), .inl (o : Int)]) (rest := []) rfl rfl rfl rfl rfl rfl (Nat.le_of_ble_eq_true rfl) (Nat.le_of_ble_eq_true rfl) (by omega) (m_isKept (M := MH401) (by omega) (by omega) ⟨zH401, mH401⟩) ?_
                      rintro _ H408 (⟨rfl, hxH408, rfl⟩ | ⟨rfl, hlH408, hfH408, hzH408, hcH408, hoH408⟩)
                      · refine h_run 0 (pc' := 214) (l' := [(0, .inr (.inr 1826)), (1, .inl (l : Int)), (2, .inl bk), (3, .inl (s : Int)), (4, .inl (q : Int)), (5, .inl (wi : Int)), (6, .inl (o : Int)), (7, .inl (wi : Int)), (8, .inl (a9 : Int)), (9, .inl (b9 : Int)), (10, .inl 1)]) (st' := [.inl 0]) rfl ?_
                        refine h_zeq (off := 10) (t := 224) rfl rfl (by decide) (fun _ => ?_) (fun c => absurd c (by decide))
                        refine h_run 1 (pc' := 226) (l' := [(0, .inr (.inr 1826)), (1, .inl (l : Int)), (2, .inl bk), (3, .inl (s : Int)), (4, .inl (q : Int)), (5, .inl (wi : Int)), (6, .inl (o : Int)), (7, .inl (wi : Int)), (8, .inl (a9 : Int)), (9, .inl (b9 : Int)), (10, .inl 1)]) (st' := [.inl (-105)]) rfl ?_
                        refine h_reti (x := (-105)) rfl rfl ?_
                        exact ⟨(fr_o hf407 (by decide)), (show (-1 : Int) = -1 by omega), (OS_fr hOSH401 (show fr [97] [] H401 (zu H401 1826 (up (H401.1 1826) 97 (-1))) from (fr_o (fr_rf _ _ _) (by decide))) (by decide) (by decide) (by decide)), _, rfl, by omega, by omega⟩
                      · refine h_rng (fun hrg409 => ?_)
                        have hf410 : fr [50, 51, 53, 76, 93, 97] [1847, 1852, 1853, 1855, 1856, 1873, 1874, 1878, 1884, 1886] H H408 := fr_t (fr_o hf407 (by decide)) hfH408 (by decide) (by decide)
                        have hOSH408 : OS H H408 n := OS_side (OS_fr hOSH401 (show fr [97] [] H401 (zu H401 1826 (up (H401.1 1826) 97 (-1))) from (fr_o (fr_rf _ _ _) (by decide))) (by decide) (by decide) (by decide)) hooH401 hfH408 hs hlH408 hzH408 hcH408 hoH408 tdH401
                        have hooH408 : (H408.1 1871) 0 = (o : Int) := (congrFun (hfH408.2.1 1871 (by decide) (by decide)) 0).trans hooH401
                        refine h_run 0 (pc' := 214) (l' := [(0, .inr (.inr 1826)), (1, .inl (l : Int)), (2, .inl bk), (3, .inl (s : Int)), (4, .inl (q : Int)), (5, .inl (wi : Int)), (6, .inl (o : Int)), (7, .inl (wi : Int)), (8, .inl (a9 : Int)), (9, .inl (b9 : Int)), (10, .inl 1)]) (st' := [.inl 1]) rfl ?_
                        refine h_zeq (off := 10) (t := 224) rfl rfl (by decide) (fun c => absurd c (by decide)) (fun _ => ?_)
                        refine h_run 1 (pc' := 218) (l' := [(0, .inr (.inr 1826)), (1, .inl (l : Int)), (2, .inl bk), (3, .inl (s : Int)), (4, .inl (q : Int)), (5, .inl (wi : Int)), (6, .inl (o : Int)), (7, .inl (wi : Int)), (8, .inl (a9 : Int)), (9, .inl (b9 : Int)), (10, .inl 1)]) (st' := [.inr (.inr 1826)]) rfl ?_
                        refine h_cv (i := 556) (j := 232) (b := 1826) (M' := mt_232) (xs := []) (rest := []) rfl rfl rfl rfl rfl rfl (Nat.le_of_ble_eq_true rfl) (Nat.le_of_ble_eq_true rfl) (by omega) (m_did (n := n) (by omega) hOSH408.1.1 (fun q9 => absurd q9 (by omega)) (by rw [show (H408.1 1871) 0 = (o : Int) from hooH408]; omega)) ?_
                        rintro _ H411 ⟨rfl, hfH411⟩
                        refine h_rng (fun hrg412 => ?_)
                        have hf413 : fr [50, 51, 53, 76, 93, 97] [1847, 1852, 1853, 1855, 1856, 1873, 1874, 1878, 1884, 1886] H H411 := fr_t hf410 hfH411 (by decide) (by decide)
                        have hOSH411 : OS H H411 n := OS_fr hOSH408 hfH411 (by decide) (by decide) (by decide)
                        have hooH411 : (H411.1 1871) 0 = (o : Int) := (congrFun (hfH411.2.1 1871 (by decide) (by decide)) 0).trans hooH408
                        refine h_run 0 (pc' := 221) (l' := [(0, .inr (.inr 1826)), (1, .inl (l : Int)), (2, .inl bk), (3, .inl (s : Int)), (4, .inl (q : Int)), (5, .inl (wi : Int)), (6, .inl (o : Int)), (7, .inl (wi : Int)), (8, .inl (a9 : Int)), (9, .inl (b9 : Int)), (10, .inl 1)]) (st' := [.inl (n : Int)]) rfl ?_
                        refine h_run 1 (pc' := 226) (l' := [(0, .inr (.inr 1826)), (1, .inl (l : Int)), (2, .inl bk), (3, .inl (s : Int)), (4, .inl (q : Int)), (5, .inl (wi : Int)), (6, .inl (o : Int)), (7, .inl (wi : Int)), (8, .inl (a9 : Int)), (9, .inl (b9 : Int)), (10, .inl 1)]) (st' := [.inl (n : Int)]) rfl ?_
                        refine h_reti (x := (n : Int)) rfl rfl ?_
                        have g414 : -2147483648 ≤ (H411.1 1826 97) ∧ (H411.1 1826 97) ≤ 2147483647 := hrg412.1 1826 13 97 _ .int rfl rfl
                        have e415 : (H411.1 1826 97) = (H408.1 1826 97) := hfH411.2.2 97 (by decide)
                        have e416 : (H408.1 1826 97) = (-1) := hfH408.2.2 97 (by decide)
                        exact ⟨hf413, (show (H411.1 1826 97) = -1 by omega), hOSH411, _, rfl, by omega, by omega⟩
                · refine h_run 2 (pc' := 151) (l' := [(0, .inr (.inr 1826)), (1, .inl (l : Int)), (2, .inl bk), (3, .inl (s : Int)), (4, .inl (q : Int)), (5, .inl (wi : Int)), (6, .inl (o : Int)), (7, .inl (wi : Int)), (8, .inl (a9 : Int)), (9, .inl (b9 : Int))]) (st' := [.inl 1, .inl (H255.1 1875 o), .inl (wi : Int), .inl 1000, .inl (k0 : Int), .inl (48 * (a9 : Int)), .inr (.inr 1842), .inr (.inr 1826)]) rfl ?_
                  have g418 : -2147483648 ≤ (H255.1 1826 93) ∧ (H255.1 1826 93) ≤ 2147483647 := hrg256.1 1826 13 93 _ .int rfl rfl
                  have hQl : sP H (zu H255 1826 (up (H255.1 1826) 97 (l : Int))) := sP_fr (sP_rf H) (fr_o hf257 (by decide)) (by decide) (by decide)
                  have hPl : PWc (zu H255 1826 (up (H255.1 1826) 97 (l : Int))) := PWc_fr hP (fr_o hf257 (by decide)) (by decide) (by decide)
                  refine h_cv (i := 593) (j := 239) (b := 1826) (M' := mt_239) (xs := [.inl 1, .inl (H255.1 1875 o), .inl (wi : Int), .inl 1000, .inl (k0 : Int), .inl (48 * (a9 : Int)), .inr (.inr 1842)]) (rest := []) rfl rfl rfl rfl rfl rfl (Nat.le_of_ble_eq_true rfl) (Nat.le_of_ble_eq_true rfl) (by omega) (m_isLike (p := (48 * a9)) (ln := k0) (N := N) (k := ki) (V := 6) (okp := (m_sg (H.1 1826 3) (H.1 1826 8) (vn : Nat))) (by omega) rfl (by decide) (by decide) hPl (by rw [hQl.1, hQl.2.1, hQl.2.2.1, hQl.2.2.2]; exact hTn) ⟨by omega, (show (H255.1 1826 93) = (N : Int) by omega)⟩ (by rw [hQl.1, hQl.2.1, hQl.2.2.1, hQl.2.2.2]; exact hTi) (by omega) (by rw [hQl.1, hQl.2.1]; exact (by show tm _ _ (H255.1 1842) _ _ 1; rw [show (H255.1 1842) = (H.1 1842) from hfH255.2.1 1842 (by decide) (by decide), ha9]; exact k03)) (show 48 * a9 + k0 ≤ 1536 ∧ k0 ≤ 60 by omega) (by omega) (Or.inr (show 0 ≤ (l : Int) ∧ (l : Int) ≤ 15 ∧ 6 ≤ 6 by omega)) (fun s9 h9 => by unfold m_sg at h9; omega) (by omega)) ?_
                  rintro _ H417 ⟨(rfl | ⟨rfl, xH417⟩), hfH417⟩
                  · refine h_rng (fun hrg419 => ?_)
                    have hf420 : fr [50, 51, 53, 76, 93, 97] [1847, 1852, 1853, 1855, 1856, 1873, 1874, 1878, 1884, 1886] H H417 := fr_t (fr_o hf257 (by decide)) hfH417 (by decide) (by decide)
                    have hOSH417 : OS H H417 n := OS_fr (OS_fr hOSH255 (show fr [97] [] H255 (zu H255 1826 (up (H255.1 1826) 97 (l : Int))) from (fr_o (fr_rf _ _ _) (by decide))) (by decide) (by decide) (by decide)) hfH417 (by decide) (by decide) (by decide)
                    have hooH417 : (H417.1 1871) 0 = (o : Int) := (congrFun (hfH417.2.1 1871 (by decide) (by decide)) 0).trans hooH255
                    refine h_run 0 (pc' := 154) (l' := [(0, .inr (.inr 1826)), (1, .inl (l : Int)), (2, .inl bk), (3, .inl (s : Int)), (4, .inl (q : Int)), (5, .inl (wi : Int)), (6, .inl (o : Int)), (7, .inl (wi : Int)), (8, .inl (a9 : Int)), (9, .inl (b9 : Int))]) (st' := [.inl 0]) rfl ?_
                    refine h_zeq (off := 35) (t := 189) rfl rfl (by decide) (fun _ => ?_) (fun c => absurd c (by decide))
                    refine h_run 4 (pc' := 194) (l' := [(0, .inr (.inr 1826)), (1, .inl (l : Int)), (2, .inl bk), (3, .inl (s : Int)), (4, .inl (q : Int)), (5, .inl (wi : Int)), (6, .inl (o : Int)), (7, .inl (wi : Int)), (8, .inl (a9 : Int)), (9, .inl (b9 : Int)), (10, .inl 0)]) (st' := [.inl (-1), .inr (.inr 1826)]) rfl ?_
                    refine h_puti (i := 202) (ci := 13) (k := 97) (a := 1826) (x := (-1)) rfl rfl rfl rfl rfl rfl (by decide) (by decide) ?_
                    refine h_run 1 (pc' := 199) (l' := [(0, .inr (.inr 1826)), (1, .inl (l : Int)), (2, .inl bk), (3, .inl (s : Int)), (4, .inl (q : Int)), (5, .inl (wi : Int)), (6, .inl (o : Int)), (7, .inl (wi : Int)), (8, .inl (a9 : Int)), (9, .inl (b9 : Int)), (10, .inl 0)]) (st' := [.inl 0]) rfl ?_
                    refine h_zne (off := 8) (t := 207) rfl rfl (by decide) (fun c => absurd c (by decide)) (fun _ => ?_)
                    refine h_run 2 (pc' := 226) (l' := [(0, .inr (.inr 1826)), (1, .inl (l : Int)), (2, .inl bk), (3, .inl (s : Int)), (4, .inl (q : Int)), (5, .inl (wi : Int)), (6, .inl (o : Int)), (7, .inl (wi : Int)), (8, .inl (a9 : Int)), (9, .inl (b9 : Int)), (10, .inl 0)]) (st' := [.inl (-104)]) rfl ?_
                    refine h_reti (x := (-104)) rfl rfl ?_
                    exact ⟨(fr_o hf420 (by decide)), (show (-1 : Int) = -1 by omega), (OS_fr hOSH417 (show fr [97] [] H417 (zu H417 1826 (up (H417.1 1826) 97 (-1))) from (fr_o (fr_rf _ _ _) (by decide))) (by decide) (by decide) (by decide)), _, rfl, by omega, by omega⟩
                  · refine h_rng (fun hrg421 => ?_)
                    have hf422 : fr [50, 51, 53, 76, 93, 97] [1847, 1852, 1853, 1855, 1856, 1873, 1874, 1878, 1884, 1886] H H417 := fr_t (fr_o hf257 (by decide)) hfH417 (by decide) (by decide)
                    have hOSH417 : OS H H417 n := OS_fr (OS_fr hOSH255 (show fr [97] [] H255 (zu H255 1826 (up (H255.1 1826) 97 (l : Int))) from (fr_o (fr_rf _ _ _) (by decide))) (by decide) (by decide) (by decide)) hfH417 (by decide) (by decide) (by decide)
                    have hooH417 : (H417.1 1871) 0 = (o : Int) := (congrFun (hfH417.2.1 1871 (by decide) (by decide)) 0).trans hooH255
                    have eNH417 : (H417.1 1884) = (H255.1 1884) := hfH417.2.1 1884 (by decide) (by decide)
                    have yH417 : fre (ma (H.1 1833) (H.1 1830)) (m_sg (H.1 1826 3) (H.1 1826 8) 60) (H417.1 1884) (H417.1 1886) N := by have h9 := xH417; rw [hQl.1, hQl.2.1, hQl.2.2.1, hQl.2.2.2] at h9; rw [eNH417]; exact h9
                    have hTnH417 : tm (ma (H.1 1833) (H.1 1830)) (m_sg (H.1 1826 3) (H.1 1826 8) 60) (H417.1 1884) N 0 1 := by rw [eNH417]; exact hTn
                    have hTiH417 : tm (ma (H.1 1833) (H.1 1830)) (m_sg (H.1 1826 3) (H.1 1826 8) 60) (H417.1 1884) ki wi 1 := by rw [eNH417]; exact hTi
                    refine h_run 0 (pc' := 154) (l' := [(0, .inr (.inr 1826)), (1, .inl (l : Int)), (2, .inl bk), (3, .inl (s : Int)), (4, .inl (q : Int)), (5, .inl (wi : Int)), (6, .inl (o : Int)), (7, .inl (wi : Int)), (8, .inl (a9 : Int)), (9, .inl (b9 : Int))]) (st' := [.inl 1]) rfl ?_
                    refine h_zeq (off := 35) (t := 189) rfl rfl (by decide) (fun c => absurd c (by decide)) (fun _ => ?_)
                    refine h_run 9 (pc' := 173) (l' := [(0, .inr (.inr 1826)), (1, .inl (l : Int)), (2, .inl bk), (3, .inl (s : Int)), (4, .inl (q : Int)), (5, .inl (wi : Int)), (6, .inl (o : Int)), (7, .inl (wi : Int)), (8, .inl (a9 : Int)), (9, .inl (b9 : Int))]) (st' := [.inl (b9 : Int), .inr (.inr 1843), .inl (48 * (b9 : Int)), .inr (.inr 1842), .inr (.inr 1826)]) rfl ?_
                    refine h_ild (c := 1843) (j := b9) (i := (b9 : Int)) rfl rfl (by decide) rfl (by omega) ?_
                    have g423 : -2147483648 ≤ (H417.1 1843 b9) ∧ (H417.1 1843 b9) ≤ 2147483647 := hrg421.2 1843 b9 32 .int rfl (by omega)
                    have e424 : (H417.1 1843 b9) = (H255.1 1843 b9) := congrFun (hfH417.2.1 1843 (by decide) (by decide)) b9
                    have e425 : (H255.1 1843 b9) = (H.1 1843 b9) := congrFun (hfH255.2.1 1843 (by decide) (by decide)) b9
                    refine h_run 0 (pc' := 174) (l' := [(0, .inr (.inr 1826)), (1, .inl (l : Int)), (2, .inl bk), (3, .inl (s : Int)), (4, .inl (q : Int)), (5, .inl (wi : Int)), (6, .inl (o : Int)), (7, .inl (wi : Int)), (8, .inl (a9 : Int)), (9, .inl (b9 : Int))]) (st' := [.inl (H417.1 1843 b9), .inl (48 * (b9 : Int)), .inr (.inr 1842), .inr (.inr 1826)]) rfl ?_
                    have hszb9 : (H417.1 1843) b9 = (k1 : Int) := by rw [show (H417.1 1843) = (H255.1 1843) from hfH417.2.1 1843 (by decide) (by decide), show (H255.1 1843) = (H.1 1843) from hfH255.2.1 1843 (by decide) (by decide), hb9]; exact k11
                    rw [show (H417.1 1843 b9) = (k1 : Int) by omega]
                    refine h_run 2 (pc' := 179) (l' := [(0, .inr (.inr 1826)), (1, .inl (l : Int)), (2, .inl bk), (3, .inl (s : Int)), (4, .inl (q : Int)), (5, .inl (wi : Int)), (6, .inl (o : Int)), (7, .inl (wi : Int)), (8, .inl (a9 : Int)), (9, .inl (b9 : Int))]) (st' := [.inl (wi : Int), .inl 1000, .inl (k1 : Int), .inl (48 * (b9 : Int)), .inr (.inr 1842), .inr (.inr 1826)]) rfl ?_
                    have g427 : -2147483648 ≤ (H417.1 1826 93) ∧ (H417.1 1826 93) ≤ 2147483647 := hrg421.1 1826 13 93 _ .int rfl rfl
                    have e428 : (H417.1 1826 93) = (H255.1 1826 93) := hfH417.2.2 93 (by decide)
                    have hQk : sP H H417 := sP_fr (sP_rf H) hf422 (by decide) (by decide)
                    have hPk : PWc H417 := PWc_fr hP hf422 (by decide) (by decide)
                    refine h_cv (i := 597) (j := 242) (b := 1826) (M' := mt_242) (xs := [.inl (wi : Int), .inl 1000, .inl (k1 : Int), .inl (48 * (b9 : Int)), .inr (.inr 1842)]) (rest := []) rfl rfl rfl rfl rfl rfl (Nat.le_of_ble_eq_true rfl) (Nat.le_of_ble_eq_true rfl) (by omega) (m_isMade (p := (48 * b9)) (ln := k1) (N := N) (k := ki) (okp := (m_sg (H.1 1826 3) (H.1 1826 8) (vn : Nat))) (by omega) rfl (by decide) (by decide) hPk (by rw [hQk.1, hQk.2.1, hQk.2.2.1, hQk.2.2.2]; exact hTnH417) ⟨by omega, (show (H417.1 1826 93) = (N : Int) by omega)⟩ (by rw [hQk.1, hQk.2.1, hQk.2.2.1, hQk.2.2.2]; exact hTiH417) (by omega) (by rw [hQk.1, hQk.2.1]; exact (by show tm _ _ (H417.1 1842) _ _ 1; rw [show (H417.1 1842) = (H255.1 1842) from hfH417.2.1 1842 (by decide) (by decide), show (H255.1 1842) = (H.1 1842) from hfH255.2.1 1842 (by decide) (by decide), hb9]; exact k13)) (show 48 * b9 + k1 ≤ 1536 ∧ k1 ≤ 60 by omega) (by omega) (by rw [hQk.2.2.1, hQk.2.2.2]; exact (fun s9 h9 => by unfold m_sg at *; omega)) (by rw [hQk.1, hQk.2.1, hQk.2.2.1, hQk.2.2.2]; exact yH417)) ?_
                    rintro _ H426 ⟨(rfl | ⟨rfl, MH426, zH426, mH426, tH426⟩), hfH426⟩
                    · refine h_rng (fun hrg429 => ?_)
                      have hf430 : fr [50, 51, 53, 76, 93, 97] [1847, 1852, 1853, 1855, 1856, 1873, 1874, 1878, 1884, 1886] H H426 := fr_t hf422 hfH426 (by decide) (by decide)
                      have hOSH426 : OS H H426 n := OS_fr hOSH417 hfH426 (by decide) (by decide) (by decide)
                      have hooH426 : (H426.1 1871) 0 = (o : Int) := (congrFun (hfH426.2.1 1871 (by decide) (by decide)) 0).trans hooH417
                      refine h_run 0 (pc' := 182) (l' := [(0, .inr (.inr 1826)), (1, .inl (l : Int)), (2, .inl bk), (3, .inl (s : Int)), (4, .inl (q : Int)), (5, .inl (wi : Int)), (6, .inl (o : Int)), (7, .inl (wi : Int)), (8, .inl (a9 : Int)), (9, .inl (b9 : Int))]) (st' := [.inl 0]) rfl ?_
                      refine h_zeq (off := 7) (t := 189) rfl rfl (by decide) (fun _ => ?_) (fun c => absurd c (by decide))
                      refine h_run 4 (pc' := 194) (l' := [(0, .inr (.inr 1826)), (1, .inl (l : Int)), (2, .inl bk), (3, .inl (s : Int)), (4, .inl (q : Int)), (5, .inl (wi : Int)), (6, .inl (o : Int)), (7, .inl (wi : Int)), (8, .inl (a9 : Int)), (9, .inl (b9 : Int)), (10, .inl 0)]) (st' := [.inl (-1), .inr (.inr 1826)]) rfl ?_
                      refine h_puti (i := 202) (ci := 13) (k := 97) (a := 1826) (x := (-1)) rfl rfl rfl rfl rfl rfl (by decide) (by decide) ?_
                      refine h_run 1 (pc' := 199) (l' := [(0, .inr (.inr 1826)), (1, .inl (l : Int)), (2, .inl bk), (3, .inl (s : Int)), (4, .inl (q : Int)), (5, .inl (wi : Int)), (6, .inl (o : Int)), (7, .inl (wi : Int)), (8, .inl (a9 : Int)), (9, .inl (b9 : Int)), (10, .inl 0)]) (st' := [.inl 0]) rfl ?_
                      refine h_zne (off := 8) (t := 207) rfl rfl (by decide) (fun c => absurd c (by decide)) (fun _ => ?_)
                      refine h_run 2 (pc' := 226) (l' := [(0, .inr (.inr 1826)), (1, .inl (l : Int)), (2, .inl bk), (3, .inl (s : Int)), (4, .inl (q : Int)), (5, .inl (wi : Int)), (6, .inl (o : Int)), (7, .inl (wi : Int)), (8, .inl (a9 : Int)), (9, .inl (b9 : Int)), (10, .inl 0)]) (st' := [.inl (-104)]) rfl ?_
                      refine h_reti (x := (-104)) rfl rfl ?_
                      exact ⟨(fr_o hf430 (by decide)), (show (-1 : Int) = -1 by omega), (OS_fr hOSH426 (show fr [97] [] H426 (zu H426 1826 (up (H426.1 1826) 97 (-1))) from (fr_o (fr_rf _ _ _) (by decide))) (by decide) (by decide) (by decide)), _, rfl, by omega, by omega⟩
                    · refine h_rng (fun hrg431 => ?_)
                      have hf432 : fr [50, 51, 53, 76, 93, 97] [1847, 1852, 1853, 1855, 1856, 1873, 1874, 1878, 1884, 1886] H H426 := fr_t hf422 hfH426 (by decide) (by decide)
                      have hOSH426 : OS H H426 n := OS_fr hOSH417 hfH426 (by decide) (by decide) (by decide)
                      have hooH426 : (H426.1 1871) 0 = (o : Int) := (congrFun (hfH426.2.1 1871 (by decide) (by decide)) 0).trans hooH417
                      have tdH426 : tm (ma (H.1 1833) (H.1 1830)) (m_sg (H.1 1826 3) (H.1 1826 8) 60) (H426.1 1856) MH426 0 1 := by have h9 := tH426; rw [hQk.1, hQk.2.1, hQk.2.2.1, hQk.2.2.2] at h9; exact h9
                      refine h_run 0 (pc' := 182) (l' := [(0, .inr (.inr 1826)), (1, .inl (l : Int)), (2, .inl bk), (3, .inl (s : Int)), (4, .inl (q : Int)), (5, .inl (wi : Int)), (6, .inl (o : Int)), (7, .inl (wi : Int)), (8, .inl (a9 : Int)), (9, .inl (b9 : Int))]) (st' := [.inl 1]) rfl ?_
                      refine h_zeq (off := 7) (t := 189) rfl rfl (by decide) (fun c => absurd c (by decide)) (fun _ => ?_)
                      refine h_run 5 (pc' := 194) (l' := [(0, .inr (.inr 1826)), (1, .inl (l : Int)), (2, .inl bk), (3, .inl (s : Int)), (4, .inl (q : Int)), (5, .inl (wi : Int)), (6, .inl (o : Int)), (7, .inl (wi : Int)), (8, .inl (a9 : Int)), (9, .inl (b9 : Int)), (10, .inl 1)]) (st' := [.inl (-1), .inr (.inr 1826)]) rfl ?_
                      refine h_puti (i := 202) (ci := 13) (k := 97) (a := 1826) (x := (-1)) rfl rfl rfl rfl rfl rfl (by decide) (by decide) ?_
                      refine h_run 1 (pc' := 199) (l' := [(0, .inr (.inr 1826)), (1, .inl (l : Int)), (2, .inl bk), (3, .inl (s : Int)), (4, .inl (q : Int)), (5, .inl (wi : Int)), (6, .inl (o : Int)), (7, .inl (wi : Int)), (8, .inl (a9 : Int)), (9, .inl (b9 : Int)), (10, .inl 1)]) (st' := [.inl 1]) rfl ?_
                      refine h_zne (off := 8) (t := 207) rfl rfl (by decide) (fun _ => ?_) (fun c => absurd c (by decide))
                      refine h_run 3 (pc' := 211) (l' := [(0, .inr (.inr 1826)), (1, .inl (l : Int)), (2, .inl bk), (3, .inl (s : Int)), (4, .inl (q : Int)), (5, .inl (wi : Int)), (6, .inl (o : Int)), (7, .inl (wi : Int)), (8, .inl (a9 : Int)), (9, .inl (b9 : Int)), (10, .inl 1)]) (st' := [.inl (s : Int), .inl (o : Int), .inr (.inr 1826)]) rfl ?_
                      refine h_cv (i := 575) (j := 229) (b := 1826) (M' := mt_229) (xs := [.inl (s : Int), .inl (o : Int)]) (rest := []) rfl rfl rfl rfl rfl rfl (Nat.le_of_ble_eq_true rfl) (Nat.le_of_ble_eq_true rfl) (by omega) (m_isKept (M := MH426) (by omega) (by omega) ⟨zH426, mH426⟩) ?_
                      rintro _ H433 (⟨rfl, hxH433, rfl⟩ | ⟨rfl, hlH433, hfH433, hzH433, hcH433, hoH433⟩)
                      · refine h_run 0 (pc' := 214) (l' := [(0, .inr (.inr 1826)), (1, .inl (l : Int)), (2, .inl bk), (3, .inl (s : Int)), (4, .inl (q : Int)), (5, .inl (wi : Int)), (6, .inl (o : Int)), (7, .inl (wi : Int)), (8, .inl (a9 : Int)), (9, .inl (b9 : Int)), (10, .inl 1)]) (st' := [.inl 0]) rfl ?_
                        refine h_zeq (off := 10) (t := 224) rfl rfl (by decide) (fun _ => ?_) (fun c => absurd c (by decide))
                        refine h_run 1 (pc' := 226) (l' := [(0, .inr (.inr 1826)), (1, .inl (l : Int)), (2, .inl bk), (3, .inl (s : Int)), (4, .inl (q : Int)), (5, .inl (wi : Int)), (6, .inl (o : Int)), (7, .inl (wi : Int)), (8, .inl (a9 : Int)), (9, .inl (b9 : Int)), (10, .inl 1)]) (st' := [.inl (-105)]) rfl ?_
                        refine h_reti (x := (-105)) rfl rfl ?_
                        exact ⟨(fr_o hf432 (by decide)), (show (-1 : Int) = -1 by omega), (OS_fr hOSH426 (show fr [97] [] H426 (zu H426 1826 (up (H426.1 1826) 97 (-1))) from (fr_o (fr_rf _ _ _) (by decide))) (by decide) (by decide) (by decide)), _, rfl, by omega, by omega⟩
                      · refine h_rng (fun hrg434 => ?_)
                        have hf435 : fr [50, 51, 53, 76, 93, 97] [1847, 1852, 1853, 1855, 1856, 1873, 1874, 1878, 1884, 1886] H H433 := fr_t (fr_o hf432 (by decide)) hfH433 (by decide) (by decide)
                        have hOSH433 : OS H H433 n := OS_side (OS_fr hOSH426 (show fr [97] [] H426 (zu H426 1826 (up (H426.1 1826) 97 (-1))) from (fr_o (fr_rf _ _ _) (by decide))) (by decide) (by decide) (by decide)) hooH426 hfH433 hs hlH433 hzH433 hcH433 hoH433 tdH426
                        have hooH433 : (H433.1 1871) 0 = (o : Int) := (congrFun (hfH433.2.1 1871 (by decide) (by decide)) 0).trans hooH426
                        refine h_run 0 (pc' := 214) (l' := [(0, .inr (.inr 1826)), (1, .inl (l : Int)), (2, .inl bk), (3, .inl (s : Int)), (4, .inl (q : Int)), (5, .inl (wi : Int)), (6, .inl (o : Int)), (7, .inl (wi : Int)), (8, .inl (a9 : Int)), (9, .inl (b9 : Int)), (10, .inl 1)]) (st' := [.inl 1]) rfl ?_
                        refine h_zeq (off := 10) (t := 224) rfl rfl (by decide) (fun c => absurd c (by decide)) (fun _ => ?_)
                        refine h_run 1 (pc' := 218) (l' := [(0, .inr (.inr 1826)), (1, .inl (l : Int)), (2, .inl bk), (3, .inl (s : Int)), (4, .inl (q : Int)), (5, .inl (wi : Int)), (6, .inl (o : Int)), (7, .inl (wi : Int)), (8, .inl (a9 : Int)), (9, .inl (b9 : Int)), (10, .inl 1)]) (st' := [.inr (.inr 1826)]) rfl ?_
                        refine h_cv (i := 556) (j := 232) (b := 1826) (M' := mt_232) (xs := []) (rest := []) rfl rfl rfl rfl rfl rfl (Nat.le_of_ble_eq_true rfl) (Nat.le_of_ble_eq_true rfl) (by omega) (m_did (n := n) (by omega) hOSH433.1.1 (fun q9 => absurd q9 (by omega)) (by rw [show (H433.1 1871) 0 = (o : Int) from hooH433]; omega)) ?_
                        rintro _ H436 ⟨rfl, hfH436⟩
                        refine h_rng (fun hrg437 => ?_)
                        have hf438 : fr [50, 51, 53, 76, 93, 97] [1847, 1852, 1853, 1855, 1856, 1873, 1874, 1878, 1884, 1886] H H436 := fr_t hf435 hfH436 (by decide) (by decide)
                        have hOSH436 : OS H H436 n := OS_fr hOSH433 hfH436 (by decide) (by decide) (by decide)
                        have hooH436 : (H436.1 1871) 0 = (o : Int) := (congrFun (hfH436.2.1 1871 (by decide) (by decide)) 0).trans hooH433
                        refine h_run 0 (pc' := 221) (l' := [(0, .inr (.inr 1826)), (1, .inl (l : Int)), (2, .inl bk), (3, .inl (s : Int)), (4, .inl (q : Int)), (5, .inl (wi : Int)), (6, .inl (o : Int)), (7, .inl (wi : Int)), (8, .inl (a9 : Int)), (9, .inl (b9 : Int)), (10, .inl 1)]) (st' := [.inl (n : Int)]) rfl ?_
                        refine h_run 1 (pc' := 226) (l' := [(0, .inr (.inr 1826)), (1, .inl (l : Int)), (2, .inl bk), (3, .inl (s : Int)), (4, .inl (q : Int)), (5, .inl (wi : Int)), (6, .inl (o : Int)), (7, .inl (wi : Int)), (8, .inl (a9 : Int)), (9, .inl (b9 : Int)), (10, .inl 1)]) (st' := [.inl (n : Int)]) rfl ?_
                        refine h_reti (x := (n : Int)) rfl rfl ?_
                        have g439 : -2147483648 ≤ (H436.1 1826 97) ∧ (H436.1 1826 97) ≤ 2147483647 := hrg437.1 1826 13 97 _ .int rfl rfl
                        have e440 : (H436.1 1826 97) = (H433.1 1826 97) := hfH436.2.2 97 (by decide)
                        have e441 : (H433.1 1826 97) = (-1) := hfH433.2.2 97 (by decide)
                        exact ⟨hf438, (show (H436.1 1826 97) = -1 by omega), hOSH436, _, rfl, by omega, by omega⟩
              · exfalso
                omega
            · refine h_run 3 (pc' := 85) (l' := [(0, .inr (.inr 1826)), (1, .inl (l : Int)), (2, .inl bk), (3, .inl (s : Int)), (4, .inl (q : Int)), (5, .inl (wi : Int)), (6, .inl (o : Int)), (7, .inl (wi : Int))]) (st' := [.inl ((2 * (l : Int)) + 1)]) rfl ?_
              obtain ⟨a9, ha9⟩ : ∃ x9 : Nat, x9 = 2 * l + 1 := ⟨_, rfl⟩
              rw [show ((2 * (l : Int)) + 1) = ((a9 : Nat) : Int) from (by omega)]
              refine h_run 5 (pc' := 91) (l' := [(0, .inr (.inr 1826)), (1, .inl (l : Int)), (2, .inl bk), (3, .inl (s : Int)), (4, .inl (q : Int)), (5, .inl (wi : Int)), (6, .inl (o : Int)), (7, .inl (wi : Int)), (8, .inl (a9 : Int))]) (st' := [.inl bk, .inl (2 * (l : Int))]) rfl ?_
              refine h_zeq (off := 7) (t := 98) rfl rfl (by omega) (fun c442 => ?_) (fun c442 => ?_)
              · exfalso
                omega
              · refine h_run 3 (pc' := 100) (l' := [(0, .inr (.inr 1826)), (1, .inl (l : Int)), (2, .inl bk), (3, .inl (s : Int)), (4, .inl (q : Int)), (5, .inl (wi : Int)), (6, .inl (o : Int)), (7, .inl (wi : Int)), (8, .inl (a9 : Int))]) (st' := [.inl ((2 * (l : Int)) + 0)]) rfl ?_
                obtain ⟨b9, hb9⟩ : ∃ x9 : Nat, x9 = 2 * l + 0 := ⟨_, rfl⟩
                rw [show ((2 * (l : Int)) + 0) = ((b9 : Nat) : Int) from (by omega)]
                refine h_run 3 (pc' := 104) (l' := [(0, .inr (.inr 1826)), (1, .inl (l : Int)), (2, .inl bk), (3, .inl (s : Int)), (4, .inl (q : Int)), (5, .inl (wi : Int)), (6, .inl (o : Int)), (7, .inl (wi : Int)), (8, .inl (a9 : Int)), (9, .inl (b9 : Int))]) (st' := [.inl (l : Int), .inr (.inr 1826)]) rfl ?_
                refine h_puti (i := 202) (ci := 13) (k := 97) (a := 1826) (x := (l : Int)) rfl rfl rfl rfl rfl rfl (by decide) (by omega) ?_
                refine h_run 9 (pc' := 123) (l' := [(0, .inr (.inr 1826)), (1, .inl (l : Int)), (2, .inl bk), (3, .inl (s : Int)), (4, .inl (q : Int)), (5, .inl (wi : Int)), (6, .inl (o : Int)), (7, .inl (wi : Int)), (8, .inl (a9 : Int)), (9, .inl (b9 : Int))]) (st' := [.inl (a9 : Int), .inr (.inr 1843), .inl (48 * (a9 : Int)), .inr (.inr 1842), .inr (.inr 1826)]) rfl ?_
                refine h_ild (c := 1843) (j := a9) (i := (a9 : Int)) rfl rfl (by decide) rfl (by omega) ?_
                have g443 : -2147483648 ≤ (H255.1 1843 a9) ∧ (H255.1 1843 a9) ≤ 2147483647 := hrg256.2 1843 a9 32 .int rfl (by omega)
                have e444 : (H255.1 1843 a9) = (H.1 1843 a9) := congrFun (hfH255.2.1 1843 (by decide) (by decide)) a9
                refine h_run 0 (pc' := 124) (l' := [(0, .inr (.inr 1826)), (1, .inl (l : Int)), (2, .inl bk), (3, .inl (s : Int)), (4, .inl (q : Int)), (5, .inl (wi : Int)), (6, .inl (o : Int)), (7, .inl (wi : Int)), (8, .inl (a9 : Int)), (9, .inl (b9 : Int))]) (st' := [.inl (H255.1 1843 a9), .inl (48 * (a9 : Int)), .inr (.inr 1842), .inr (.inr 1826)]) rfl ?_
                have hsza9 : (H255.1 1843) a9 = (k1 : Int) := by rw [show (H255.1 1843) = (H.1 1843) from hfH255.2.1 1843 (by decide) (by decide), ha9]; exact k11
                rw [show (H255.1 1843 a9) = (k1 : Int) by omega]
                refine h_run 5 (pc' := 135) (l' := [(0, .inr (.inr 1826)), (1, .inl (l : Int)), (2, .inl bk), (3, .inl (s : Int)), (4, .inl (q : Int)), (5, .inl (wi : Int)), (6, .inl (o : Int)), (7, .inl (wi : Int)), (8, .inl (a9 : Int)), (9, .inl (b9 : Int))]) (st' := [.inl (o : Int), .inr (.inr 1875), .inl (wi : Int), .inl 1000, .inl (k1 : Int), .inl (48 * (a9 : Int)), .inr (.inr 1842), .inr (.inr 1826)]) rfl ?_
                refine h_ild (c := 1875) (j := o) (i := (o : Int)) rfl rfl (by decide) rfl (by omega) ?_
                have g445 : -2147483648 ≤ (H255.1 1875 o) ∧ (H255.1 1875 o) ≤ 2147483647 := hrg256.2 1875 o 40 .int rfl (by omega)
                have e446 : (H255.1 1875 o) = (H.1 1875 o) := congrFun (hfH255.2.1 1875 (by decide) (by decide)) o
                refine h_run 0 (pc' := 136) (l' := [(0, .inr (.inr 1826)), (1, .inl (l : Int)), (2, .inl bk), (3, .inl (s : Int)), (4, .inl (q : Int)), (5, .inl (wi : Int)), (6, .inl (o : Int)), (7, .inl (wi : Int)), (8, .inl (a9 : Int)), (9, .inl (b9 : Int))]) (st' := [.inl (H255.1 1875 o), .inl (wi : Int), .inl 1000, .inl (k1 : Int), .inl (48 * (a9 : Int)), .inr (.inr 1842), .inr (.inr 1826)]) rfl ?_
                refine h_run 3 (pc' := 141) (l' := [(0, .inr (.inr 1826)), (1, .inl (l : Int)), (2, .inl bk), (3, .inl (s : Int)), (4, .inl (q : Int)), (5, .inl (wi : Int)), (6, .inl (o : Int)), (7, .inl (wi : Int)), (8, .inl (a9 : Int)), (9, .inl (b9 : Int))]) (st' := [.inl (l : Int), .inr (.inr 1847), .inl (H255.1 1875 o), .inl (wi : Int), .inl 1000, .inl (k1 : Int), .inl (48 * (a9 : Int)), .inr (.inr 1842), .inr (.inr 1826)]) rfl ?_
                refine h_ild (c := 1847) (j := l) (i := (l : Int)) rfl rfl (by decide) rfl (by omega) ?_
                have g447 : -2147483648 ≤ (H255.1 1847 l) ∧ (H255.1 1847 l) ≤ 2147483647 := hrg256.2 1847 l 16 .int rfl (by omega)
                have e448 : (H255.1 1847 l) = (H.1 1847 l) := congrFun (hfH255.2.1 1847 (by decide) (by decide)) l
                refine h_run 0 (pc' := 142) (l' := [(0, .inr (.inr 1826)), (1, .inl (l : Int)), (2, .inl bk), (3, .inl (s : Int)), (4, .inl (q : Int)), (5, .inl (wi : Int)), (6, .inl (o : Int)), (7, .inl (wi : Int)), (8, .inl (a9 : Int)), (9, .inl (b9 : Int))]) (st' := [.inl (H255.1 1847 l), .inl (H255.1 1875 o), .inl (wi : Int), .inl 1000, .inl (k1 : Int), .inl (48 * (a9 : Int)), .inr (.inr 1842), .inr (.inr 1826)]) rfl ?_
                refine h_run 1 (pc' := 143) (l' := [(0, .inr (.inr 1826)), (1, .inl (l : Int)), (2, .inl bk), (3, .inl (s : Int)), (4, .inl (q : Int)), (5, .inl (wi : Int)), (6, .inl (o : Int)), (7, .inl (wi : Int)), (8, .inl (a9 : Int)), (9, .inl (b9 : Int))]) (st' := [.inl 1, .inl (H255.1 1847 l), .inl (H255.1 1875 o), .inl (wi : Int), .inl 1000, .inl (k1 : Int), .inl (48 * (a9 : Int)), .inr (.inr 1842), .inr (.inr 1826)]) rfl ?_
                refine h_ine (off := 7) (t := 150) rfl rfl (by omega) (by decide) (fun c449 => ?_) (fun c449 => ?_)
                · refine h_run 1 (pc' := 151) (l' := [(0, .inr (.inr 1826)), (1, .inl (l : Int)), (2, .inl bk), (3, .inl (s : Int)), (4, .inl (q : Int)), (5, .inl (wi : Int)), (6, .inl (o : Int)), (7, .inl (wi : Int)), (8, .inl (a9 : Int)), (9, .inl (b9 : Int))]) (st' := [.inl 0, .inl (H255.1 1875 o), .inl (wi : Int), .inl 1000, .inl (k1 : Int), .inl (48 * (a9 : Int)), .inr (.inr 1842), .inr (.inr 1826)]) rfl ?_
                  have g451 : -2147483648 ≤ (H255.1 1826 93) ∧ (H255.1 1826 93) ≤ 2147483647 := hrg256.1 1826 13 93 _ .int rfl rfl
                  have hQl : sP H (zu H255 1826 (up (H255.1 1826) 97 (l : Int))) := sP_fr (sP_rf H) (fr_o hf257 (by decide)) (by decide) (by decide)
                  have hPl : PWc (zu H255 1826 (up (H255.1 1826) 97 (l : Int))) := PWc_fr hP (fr_o hf257 (by decide)) (by decide) (by decide)
                  refine h_cv (i := 593) (j := 239) (b := 1826) (M' := mt_239) (xs := [.inl 0, .inl (H255.1 1875 o), .inl (wi : Int), .inl 1000, .inl (k1 : Int), .inl (48 * (a9 : Int)), .inr (.inr 1842)]) (rest := []) rfl rfl rfl rfl rfl rfl (Nat.le_of_ble_eq_true rfl) (Nat.le_of_ble_eq_true rfl) (by omega) (m_isLike (p := (48 * a9)) (ln := k1) (N := N) (k := ki) (V := 6) (okp := (m_sg (H.1 1826 3) (H.1 1826 8) (vn : Nat))) (by omega) rfl (by decide) (by decide) hPl (by rw [hQl.1, hQl.2.1, hQl.2.2.1, hQl.2.2.2]; exact hTn) ⟨by omega, (show (H255.1 1826 93) = (N : Int) by omega)⟩ (by rw [hQl.1, hQl.2.1, hQl.2.2.1, hQl.2.2.2]; exact hTi) (by omega) (by rw [hQl.1, hQl.2.1]; exact (by show tm _ _ (H255.1 1842) _ _ 1; rw [show (H255.1 1842) = (H.1 1842) from hfH255.2.1 1842 (by decide) (by decide), ha9]; exact k13)) (show 48 * a9 + k1 ≤ 1536 ∧ k1 ≤ 60 by omega) (by omega) (Or.inr (show 0 ≤ (l : Int) ∧ (l : Int) ≤ 15 ∧ 6 ≤ 6 by omega)) (fun s9 h9 => by unfold m_sg at h9; omega) (by omega)) ?_
                  rintro _ H450 ⟨(rfl | ⟨rfl, xH450⟩), hfH450⟩
                  · refine h_rng (fun hrg452 => ?_)
                    have hf453 : fr [50, 51, 53, 76, 93, 97] [1847, 1852, 1853, 1855, 1856, 1873, 1874, 1878, 1884, 1886] H H450 := fr_t (fr_o hf257 (by decide)) hfH450 (by decide) (by decide)
                    have hOSH450 : OS H H450 n := OS_fr (OS_fr hOSH255 (show fr [97] [] H255 (zu H255 1826 (up (H255.1 1826) 97 (l : Int))) from (fr_o (fr_rf _ _ _) (by decide))) (by decide) (by decide) (by decide)) hfH450 (by decide) (by decide) (by decide)
                    have hooH450 : (H450.1 1871) 0 = (o : Int) := (congrFun (hfH450.2.1 1871 (by decide) (by decide)) 0).trans hooH255
                    refine h_run 0 (pc' := 154) (l' := [(0, .inr (.inr 1826)), (1, .inl (l : Int)), (2, .inl bk), (3, .inl (s : Int)), (4, .inl (q : Int)), (5, .inl (wi : Int)), (6, .inl (o : Int)), (7, .inl (wi : Int)), (8, .inl (a9 : Int)), (9, .inl (b9 : Int))]) (st' := [.inl 0]) rfl ?_
                    refine h_zeq (off := 35) (t := 189) rfl rfl (by decide) (fun _ => ?_) (fun c => absurd c (by decide))
                    refine h_run 4 (pc' := 194) (l' := [(0, .inr (.inr 1826)), (1, .inl (l : Int)), (2, .inl bk), (3, .inl (s : Int)), (4, .inl (q : Int)), (5, .inl (wi : Int)), (6, .inl (o : Int)), (7, .inl (wi : Int)), (8, .inl (a9 : Int)), (9, .inl (b9 : Int)), (10, .inl 0)]) (st' := [.inl (-1), .inr (.inr 1826)]) rfl ?_
                    refine h_puti (i := 202) (ci := 13) (k := 97) (a := 1826) (x := (-1)) rfl rfl rfl rfl rfl rfl (by decide) (by decide) ?_
                    refine h_run 1 (pc' := 199) (l' := [(0, .inr (.inr 1826)), (1, .inl (l : Int)), (2, .inl bk), (3, .inl (s : Int)), (4, .inl (q : Int)), (5, .inl (wi : Int)), (6, .inl (o : Int)), (7, .inl (wi : Int)), (8, .inl (a9 : Int)), (9, .inl (b9 : Int)), (10, .inl 0)]) (st' := [.inl 0]) rfl ?_
                    refine h_zne (off := 8) (t := 207) rfl rfl (by decide) (fun c => absurd c (by decide)) (fun _ => ?_)
                    refine h_run 2 (pc' := 226) (l' := [(0, .inr (.inr 1826)), (1, .inl (l : Int)), (2, .inl bk), (3, .inl (s : Int)), (4, .inl (q : Int)), (5, .inl (wi : Int)), (6, .inl (o : Int)), (7, .inl (wi : Int)), (8, .inl (a9 : Int)), (9, .inl (b9 : Int)), (10, .inl 0)]) (st' := [.inl (-104)]) rfl ?_
                    refine h_reti (x := (-104)) rfl rfl ?_
                    exact ⟨(fr_o hf453 (by decide)), (show (-1 : Int) = -1 by omega), (OS_fr hOSH450 (show fr [97] [] H450 (zu H450 1826 (up (H450.1 1826) 97 (-1))) from (fr_o (fr_rf _ _ _) (by decide))) (by decide) (by decide) (by decide)), _, rfl, by omega, by omega⟩
                  · refine h_rng (fun hrg454 => ?_)
                    have hf455 : fr [50, 51, 53, 76, 93, 97] [1847, 1852, 1853, 1855, 1856, 1873, 1874, 1878, 1884, 1886] H H450 := fr_t (fr_o hf257 (by decide)) hfH450 (by decide) (by decide)
                    have hOSH450 : OS H H450 n := OS_fr (OS_fr hOSH255 (show fr [97] [] H255 (zu H255 1826 (up (H255.1 1826) 97 (l : Int))) from (fr_o (fr_rf _ _ _) (by decide))) (by decide) (by decide) (by decide)) hfH450 (by decide) (by decide) (by decide)
                    have hooH450 : (H450.1 1871) 0 = (o : Int) := (congrFun (hfH450.2.1 1871 (by decide) (by decide)) 0).trans hooH255
                    have eNH450 : (H450.1 1884) = (H255.1 1884) := hfH450.2.1 1884 (by decide) (by decide)
                    have yH450 : fre (ma (H.1 1833) (H.1 1830)) (m_sg (H.1 1826 3) (H.1 1826 8) 60) (H450.1 1884) (H450.1 1886) N := by have h9 := xH450; rw [hQl.1, hQl.2.1, hQl.2.2.1, hQl.2.2.2] at h9; rw [eNH450]; exact h9
                    have hTnH450 : tm (ma (H.1 1833) (H.1 1830)) (m_sg (H.1 1826 3) (H.1 1826 8) 60) (H450.1 1884) N 0 1 := by rw [eNH450]; exact hTn
                    have hTiH450 : tm (ma (H.1 1833) (H.1 1830)) (m_sg (H.1 1826 3) (H.1 1826 8) 60) (H450.1 1884) ki wi 1 := by rw [eNH450]; exact hTi
                    refine h_run 0 (pc' := 154) (l' := [(0, .inr (.inr 1826)), (1, .inl (l : Int)), (2, .inl bk), (3, .inl (s : Int)), (4, .inl (q : Int)), (5, .inl (wi : Int)), (6, .inl (o : Int)), (7, .inl (wi : Int)), (8, .inl (a9 : Int)), (9, .inl (b9 : Int))]) (st' := [.inl 1]) rfl ?_
                    refine h_zeq (off := 35) (t := 189) rfl rfl (by decide) (fun c => absurd c (by decide)) (fun _ => ?_)
                    refine h_run 9 (pc' := 173) (l' := [(0, .inr (.inr 1826)), (1, .inl (l : Int)), (2, .inl bk), (3, .inl (s : Int)), (4, .inl (q : Int)), (5, .inl (wi : Int)), (6, .inl (o : Int)), (7, .inl (wi : Int)), (8, .inl (a9 : Int)), (9, .inl (b9 : Int))]) (st' := [.inl (b9 : Int), .inr (.inr 1843), .inl (48 * (b9 : Int)), .inr (.inr 1842), .inr (.inr 1826)]) rfl ?_
                    refine h_ild (c := 1843) (j := b9) (i := (b9 : Int)) rfl rfl (by decide) rfl (by omega) ?_
                    have g456 : -2147483648 ≤ (H450.1 1843 b9) ∧ (H450.1 1843 b9) ≤ 2147483647 := hrg454.2 1843 b9 32 .int rfl (by omega)
                    have e457 : (H450.1 1843 b9) = (H255.1 1843 b9) := congrFun (hfH450.2.1 1843 (by decide) (by decide)) b9
                    have e458 : (H255.1 1843 b9) = (H.1 1843 b9) := congrFun (hfH255.2.1 1843 (by decide) (by decide)) b9
                    refine h_run 0 (pc' := 174) (l' := [(0, .inr (.inr 1826)), (1, .inl (l : Int)), (2, .inl bk), (3, .inl (s : Int)), (4, .inl (q : Int)), (5, .inl (wi : Int)), (6, .inl (o : Int)), (7, .inl (wi : Int)), (8, .inl (a9 : Int)), (9, .inl (b9 : Int))]) (st' := [.inl (H450.1 1843 b9), .inl (48 * (b9 : Int)), .inr (.inr 1842), .inr (.inr 1826)]) rfl ?_
                    have hszb9 : (H450.1 1843) b9 = (k0 : Int) := by rw [show (H450.1 1843) = (H255.1 1843) from hfH450.2.1 1843 (by decide) (by decide), show (H255.1 1843) = (H.1 1843) from hfH255.2.1 1843 (by decide) (by decide), hb9]; exact k01
                    rw [show (H450.1 1843 b9) = (k0 : Int) by omega]
                    refine h_run 2 (pc' := 179) (l' := [(0, .inr (.inr 1826)), (1, .inl (l : Int)), (2, .inl bk), (3, .inl (s : Int)), (4, .inl (q : Int)), (5, .inl (wi : Int)), (6, .inl (o : Int)), (7, .inl (wi : Int)), (8, .inl (a9 : Int)), (9, .inl (b9 : Int))]) (st' := [.inl (wi : Int), .inl 1000, .inl (k0 : Int), .inl (48 * (b9 : Int)), .inr (.inr 1842), .inr (.inr 1826)]) rfl ?_
                    have g460 : -2147483648 ≤ (H450.1 1826 93) ∧ (H450.1 1826 93) ≤ 2147483647 := hrg454.1 1826 13 93 _ .int rfl rfl
                    have e461 : (H450.1 1826 93) = (H255.1 1826 93) := hfH450.2.2 93 (by decide)
                    have hQk : sP H H450 := sP_fr (sP_rf H) hf455 (by decide) (by decide)
                    have hPk : PWc H450 := PWc_fr hP hf455 (by decide) (by decide)
                    refine h_cv (i := 597) (j := 242) (b := 1826) (M' := mt_242) (xs := [.inl (wi : Int), .inl 1000, .inl (k0 : Int), .inl (48 * (b9 : Int)), .inr (.inr 1842)]) (rest := []) rfl rfl rfl rfl rfl rfl (Nat.le_of_ble_eq_true rfl) (Nat.le_of_ble_eq_true rfl) (by omega) (m_isMade (p := (48 * b9)) (ln := k0) (N := N) (k := ki) (okp := (m_sg (H.1 1826 3) (H.1 1826 8) (vn : Nat))) (by omega) rfl (by decide) (by decide) hPk (by rw [hQk.1, hQk.2.1, hQk.2.2.1, hQk.2.2.2]; exact hTnH450) ⟨by omega, (show (H450.1 1826 93) = (N : Int) by omega)⟩ (by rw [hQk.1, hQk.2.1, hQk.2.2.1, hQk.2.2.2]; exact hTiH450) (by omega) (by rw [hQk.1, hQk.2.1]; exact (by show tm _ _ (H450.1 1842) _ _ 1; rw [show (H450.1 1842) = (H255.1 1842) from hfH450.2.1 1842 (by decide) (by decide), show (H255.1 1842) = (H.1 1842) from hfH255.2.1 1842 (by decide) (by decide), hb9]; exact k03)) (show 48 * b9 + k0 ≤ 1536 ∧ k0 ≤ 60 by omega) (by omega) (by rw [hQk.2.2.1, hQk.2.2.2]; exact (fun s9 h9 => by unfold m_sg at *; omega)) (by rw [hQk.1, hQk.2.1, hQk.2.2.1, hQk.2.2.2]; exact yH450)) ?_
                    rintro _ H459 ⟨(rfl | ⟨rfl, MH459, zH459, mH459, tH459⟩), hfH459⟩
                    · refine h_rng (fun hrg462 => ?_)
                      have hf463 : fr [50, 51, 53, 76, 93, 97] [1847, 1852, 1853, 1855, 1856, 1873, 1874, 1878, 1884, 1886] H H459 := fr_t hf455 hfH459 (by decide) (by decide)
                      have hOSH459 : OS H H459 n := OS_fr hOSH450 hfH459 (by decide) (by decide) (by decide)
                      have hooH459 : (H459.1 1871) 0 = (o : Int) := (congrFun (hfH459.2.1 1871 (by decide) (by decide)) 0).trans hooH450
                      refine h_run 0 (pc' := 182) (l' := [(0, .inr (.inr 1826)), (1, .inl (l : Int)), (2, .inl bk), (3, .inl (s : Int)), (4, .inl (q : Int)), (5, .inl (wi : Int)), (6, .inl (o : Int)), (7, .inl (wi : Int)), (8, .inl (a9 : Int)), (9, .inl (b9 : Int))]) (st' := [.inl 0]) rfl ?_
                      refine h_zeq (off := 7) (t := 189) rfl rfl (by decide) (fun _ => ?_) (fun c => absurd c (by decide))
                      refine h_run 4 (pc' := 194) (l' := [(0, .inr (.inr 1826)), (1, .inl (l : Int)), (2, .inl bk), (3, .inl (s : Int)), (4, .inl (q : Int)), (5, .inl (wi : Int)), (6, .inl (o : Int)), (7, .inl (wi : Int)), (8, .inl (a9 : Int)), (9, .inl (b9 : Int)), (10, .inl 0)]) (st' := [.inl (-1), .inr (.inr 1826)]) rfl ?_
                      refine h_puti (i := 202) (ci := 13) (k := 97) (a := 1826) (x := (-1)) rfl rfl rfl rfl rfl rfl (by decide) (by decide) ?_
                      refine h_run 1 (pc' := 199) (l' := [(0, .inr (.inr 1826)), (1, .inl (l : Int)), (2, .inl bk), (3, .inl (s : Int)), (4, .inl (q : Int)), (5, .inl (wi : Int)), (6, .inl (o : Int)), (7, .inl (wi : Int)), (8, .inl (a9 : Int)), (9, .inl (b9 : Int)), (10, .inl 0)]) (st' := [.inl 0]) rfl ?_
                      refine h_zne (off := 8) (t := 207) rfl rfl (by decide) (fun c => absurd c (by decide)) (fun _ => ?_)
                      refine h_run 2 (pc' := 226) (l' := [(0, .inr (.inr 1826)), (1, .inl (l : Int)), (2, .inl bk), (3, .inl (s : Int)), (4, .inl (q : Int)), (5, .inl (wi : Int)), (6, .inl (o : Int)), (7, .inl (wi : Int)), (8, .inl (a9 : Int)), (9, .inl (b9 : Int)), (10, .inl 0)]) (st' := [.inl (-104)]) rfl ?_
                      refine h_reti (x := (-104)) rfl rfl ?_
                      exact ⟨(fr_o hf463 (by decide)), (show (-1 : Int) = -1 by omega), (OS_fr hOSH459 (show fr [97] [] H459 (zu H459 1826 (up (H459.1 1826) 97 (-1))) from (fr_o (fr_rf _ _ _) (by decide))) (by decide) (by decide) (by decide)), _, rfl, by omega, by omega⟩
                    · refine h_rng (fun hrg464 => ?_)
                      have hf465 : fr [50, 51, 53, 76, 93, 97] [1847, 1852, 1853, 1855, 1856, 1873, 1874, 1878, 1884, 1886] H H459 := fr_t hf455 hfH459 (by decide) (by decide)
                      have hOSH459 : OS H H459 n := OS_fr hOSH450 hfH459 (by decide) (by decide) (by decide)
                      have hooH459 : (H459.1 1871) 0 = (o : Int) := (congrFun (hfH459.2.1 1871 (by decide) (by decide)) 0).trans hooH450
                      have tdH459 : tm (ma (H.1 1833) (H.1 1830)) (m_sg (H.1 1826 3) (H.1 1826 8) 60) (H459.1 1856) MH459 0 1 := by have h9 := tH459; rw [hQk.1, hQk.2.1, hQk.2.2.1, hQk.2.2.2] at h9; exact h9
                      refine h_run 0 (pc' := 182) (l' := [(0, .inr (.inr 1826)), (1, .inl (l : Int)), (2, .inl bk), (3, .inl (s : Int)), (4, .inl (q : Int)), (5, .inl (wi : Int)), (6, .inl (o : Int)), (7, .inl (wi : Int)), (8, .inl (a9 : Int)), (9, .inl (b9 : Int))]) (st' := [.inl 1]) rfl ?_
                      refine h_zeq (off := 7) (t := 189) rfl rfl (by decide) (fun c => absurd c (by decide)) (fun _ => ?_)
                      refine h_run 5 (pc' := 194) (l' := [(0, .inr (.inr 1826)), (1, .inl (l : Int)), (2, .inl bk), (3, .inl (s : Int)), (4, .inl (q : Int)), (5, .inl (wi : Int)), (6, .inl (o : Int)), (7, .inl (wi : Int)), (8, .inl (a9 : Int)), (9, .inl (b9 : Int)), (10, .inl 1)]) (st' := [.inl (-1), .inr (.inr 1826)]) rfl ?_
                      refine h_puti (i := 202) (ci := 13) (k := 97) (a := 1826) (x := (-1)) rfl rfl rfl rfl rfl rfl (by decide) (by decide) ?_
                      refine h_run 1 (pc' := 199) (l' := [(0, .inr (.inr 1826)), (1, .inl (l : Int)), (2, .inl bk), (3, .inl (s : Int)), (4, .inl (q : Int)), (5, .inl (wi : Int)), (6, .inl (o : Int)), (7, .inl (wi : Int)), (8, .inl (a9 : Int)), (9, .inl (b9 : Int)), (10, .inl 1)]) (st' := [.inl 1]) rfl ?_
                      refine h_zne (off := 8) (t := 207) rfl rfl (by decide) (fun _ => ?_) (fun c => absurd c (by decide))
                      refine h_run 3 (pc' := 211) (l' := [(0, .inr (.inr 1826)), (1, .inl (l : Int)), (2, .inl bk), (3, .inl (s : Int)), (4, .inl (q : Int)), (5, .inl (wi : Int)), (6, .inl (o : Int)), (7, .inl (wi : Int)), (8, .inl (a9 : Int)), (9, .inl (b9 : Int)), (10, .inl 1)]) (st' := [.inl (s : Int), .inl (o : Int), .inr (.inr 1826)]) rfl ?_
                      refine h_cv (i := 575) (j := 229) (b := 1826) (M' := mt_229) (xs := [.inl (s : Int), .inl (o : Int)]) (rest := []) rfl rfl rfl rfl rfl rfl (Nat.le_of_ble_eq_true rfl) (Nat.le_of_ble_eq_true rfl) (by omega) (m_isKept (M := MH459) (by omega) (by omega) ⟨zH459, mH459⟩) ?_
                      rintro _ H466 (⟨rfl, hxH466, rfl⟩ | ⟨rfl, hlH466, hfH466, hzH466, hcH466, hoH466⟩)
                      · refine h_run 0 (pc' := 214) (l' := [(0, .inr (.inr 1826)), (1, .inl (l : Int)), (2, .inl bk), (3, .inl (s : Int)), (4, .inl (q : Int)), (5, .inl (wi : Int)), (6, .inl (o : Int)), (7, .inl (wi : Int)), (8, .inl (a9 : Int)), (9, .inl (b9 : Int)), (10, .inl 1)]) (st' := [.inl 0]) rfl ?_
                        refine h_zeq (off := 10) (t := 224) rfl rfl (by decide) (fun _ => ?_) (fun c => absurd c (by decide))
                        refine h_run 1 (pc' := 226) (l' := [(0, .inr (.inr 1826)), (1, .inl (l : Int)), (2, .inl bk), (3, .inl (s : Int)), (4, .inl (q : Int)), (5, .inl (wi : Int)), (6, .inl (o : Int)), (7, .inl (wi : Int)), (8, .inl (a9 : Int)), (9, .inl (b9 : Int)), (10, .inl 1)]) (st' := [.inl (-105)]) rfl ?_
                        refine h_reti (x := (-105)) rfl rfl ?_
                        exact ⟨(fr_o hf465 (by decide)), (show (-1 : Int) = -1 by omega), (OS_fr hOSH459 (show fr [97] [] H459 (zu H459 1826 (up (H459.1 1826) 97 (-1))) from (fr_o (fr_rf _ _ _) (by decide))) (by decide) (by decide) (by decide)), _, rfl, by omega, by omega⟩
                      · refine h_rng (fun hrg467 => ?_)
                        have hf468 : fr [50, 51, 53, 76, 93, 97] [1847, 1852, 1853, 1855, 1856, 1873, 1874, 1878, 1884, 1886] H H466 := fr_t (fr_o hf465 (by decide)) hfH466 (by decide) (by decide)
                        have hOSH466 : OS H H466 n := OS_side (OS_fr hOSH459 (show fr [97] [] H459 (zu H459 1826 (up (H459.1 1826) 97 (-1))) from (fr_o (fr_rf _ _ _) (by decide))) (by decide) (by decide) (by decide)) hooH459 hfH466 hs hlH466 hzH466 hcH466 hoH466 tdH459
                        have hooH466 : (H466.1 1871) 0 = (o : Int) := (congrFun (hfH466.2.1 1871 (by decide) (by decide)) 0).trans hooH459
                        refine h_run 0 (pc' := 214) (l' := [(0, .inr (.inr 1826)), (1, .inl (l : Int)), (2, .inl bk), (3, .inl (s : Int)), (4, .inl (q : Int)), (5, .inl (wi : Int)), (6, .inl (o : Int)), (7, .inl (wi : Int)), (8, .inl (a9 : Int)), (9, .inl (b9 : Int)), (10, .inl 1)]) (st' := [.inl 1]) rfl ?_
                        refine h_zeq (off := 10) (t := 224) rfl rfl (by decide) (fun c => absurd c (by decide)) (fun _ => ?_)
                        refine h_run 1 (pc' := 218) (l' := [(0, .inr (.inr 1826)), (1, .inl (l : Int)), (2, .inl bk), (3, .inl (s : Int)), (4, .inl (q : Int)), (5, .inl (wi : Int)), (6, .inl (o : Int)), (7, .inl (wi : Int)), (8, .inl (a9 : Int)), (9, .inl (b9 : Int)), (10, .inl 1)]) (st' := [.inr (.inr 1826)]) rfl ?_
                        refine h_cv (i := 556) (j := 232) (b := 1826) (M' := mt_232) (xs := []) (rest := []) rfl rfl rfl rfl rfl rfl (Nat.le_of_ble_eq_true rfl) (Nat.le_of_ble_eq_true rfl) (by omega) (m_did (n := n) (by omega) hOSH466.1.1 (fun q9 => absurd q9 (by omega)) (by rw [show (H466.1 1871) 0 = (o : Int) from hooH466]; omega)) ?_
                        rintro _ H469 ⟨rfl, hfH469⟩
                        refine h_rng (fun hrg470 => ?_)
                        have hf471 : fr [50, 51, 53, 76, 93, 97] [1847, 1852, 1853, 1855, 1856, 1873, 1874, 1878, 1884, 1886] H H469 := fr_t hf468 hfH469 (by decide) (by decide)
                        have hOSH469 : OS H H469 n := OS_fr hOSH466 hfH469 (by decide) (by decide) (by decide)
                        have hooH469 : (H469.1 1871) 0 = (o : Int) := (congrFun (hfH469.2.1 1871 (by decide) (by decide)) 0).trans hooH466
                        refine h_run 0 (pc' := 221) (l' := [(0, .inr (.inr 1826)), (1, .inl (l : Int)), (2, .inl bk), (3, .inl (s : Int)), (4, .inl (q : Int)), (5, .inl (wi : Int)), (6, .inl (o : Int)), (7, .inl (wi : Int)), (8, .inl (a9 : Int)), (9, .inl (b9 : Int)), (10, .inl 1)]) (st' := [.inl (n : Int)]) rfl ?_
                        refine h_run 1 (pc' := 226) (l' := [(0, .inr (.inr 1826)), (1, .inl (l : Int)), (2, .inl bk), (3, .inl (s : Int)), (4, .inl (q : Int)), (5, .inl (wi : Int)), (6, .inl (o : Int)), (7, .inl (wi : Int)), (8, .inl (a9 : Int)), (9, .inl (b9 : Int)), (10, .inl 1)]) (st' := [.inl (n : Int)]) rfl ?_
                        refine h_reti (x := (n : Int)) rfl rfl ?_
                        have g472 : -2147483648 ≤ (H469.1 1826 97) ∧ (H469.1 1826 97) ≤ 2147483647 := hrg470.1 1826 13 97 _ .int rfl rfl
                        have e473 : (H469.1 1826 97) = (H466.1 1826 97) := hfH469.2.2 97 (by decide)
                        have e474 : (H466.1 1826 97) = (-1) := hfH466.2.2 97 (by decide)
                        exact ⟨hf471, (show (H469.1 1826 97) = -1 by omega), hOSH469, _, rfl, by omega, by omega⟩
                · refine h_run 2 (pc' := 151) (l' := [(0, .inr (.inr 1826)), (1, .inl (l : Int)), (2, .inl bk), (3, .inl (s : Int)), (4, .inl (q : Int)), (5, .inl (wi : Int)), (6, .inl (o : Int)), (7, .inl (wi : Int)), (8, .inl (a9 : Int)), (9, .inl (b9 : Int))]) (st' := [.inl 1, .inl (H255.1 1875 o), .inl (wi : Int), .inl 1000, .inl (k1 : Int), .inl (48 * (a9 : Int)), .inr (.inr 1842), .inr (.inr 1826)]) rfl ?_
                  have g476 : -2147483648 ≤ (H255.1 1826 93) ∧ (H255.1 1826 93) ≤ 2147483647 := hrg256.1 1826 13 93 _ .int rfl rfl
                  have hQl : sP H (zu H255 1826 (up (H255.1 1826) 97 (l : Int))) := sP_fr (sP_rf H) (fr_o hf257 (by decide)) (by decide) (by decide)
                  have hPl : PWc (zu H255 1826 (up (H255.1 1826) 97 (l : Int))) := PWc_fr hP (fr_o hf257 (by decide)) (by decide) (by decide)
                  refine h_cv (i := 593) (j := 239) (b := 1826) (M' := mt_239) (xs := [.inl 1, .inl (H255.1 1875 o), .inl (wi : Int), .inl 1000, .inl (k1 : Int), .inl (48 * (a9 : Int)), .inr (.inr 1842)]) (rest := []) rfl rfl rfl rfl rfl rfl (Nat.le_of_ble_eq_true rfl) (Nat.le_of_ble_eq_true rfl) (by omega) (m_isLike (p := (48 * a9)) (ln := k1) (N := N) (k := ki) (V := 6) (okp := (m_sg (H.1 1826 3) (H.1 1826 8) (vn : Nat))) (by omega) rfl (by decide) (by decide) hPl (by rw [hQl.1, hQl.2.1, hQl.2.2.1, hQl.2.2.2]; exact hTn) ⟨by omega, (show (H255.1 1826 93) = (N : Int) by omega)⟩ (by rw [hQl.1, hQl.2.1, hQl.2.2.1, hQl.2.2.2]; exact hTi) (by omega) (by rw [hQl.1, hQl.2.1]; exact (by show tm _ _ (H255.1 1842) _ _ 1; rw [show (H255.1 1842) = (H.1 1842) from hfH255.2.1 1842 (by decide) (by decide), ha9]; exact k13)) (show 48 * a9 + k1 ≤ 1536 ∧ k1 ≤ 60 by omega) (by omega) (Or.inr (show 0 ≤ (l : Int) ∧ (l : Int) ≤ 15 ∧ 6 ≤ 6 by omega)) (fun s9 h9 => by unfold m_sg at h9; omega) (by omega)) ?_
                  rintro _ H475 ⟨(rfl | ⟨rfl, xH475⟩), hfH475⟩
                  · refine h_rng (fun hrg477 => ?_)
                    have hf478 : fr [50, 51, 53, 76, 93, 97] [1847, 1852, 1853, 1855, 1856, 1873, 1874, 1878, 1884, 1886] H H475 := fr_t (fr_o hf257 (by decide)) hfH475 (by decide) (by decide)
                    have hOSH475 : OS H H475 n := OS_fr (OS_fr hOSH255 (show fr [97] [] H255 (zu H255 1826 (up (H255.1 1826) 97 (l : Int))) from (fr_o (fr_rf _ _ _) (by decide))) (by decide) (by decide) (by decide)) hfH475 (by decide) (by decide) (by decide)
                    have hooH475 : (H475.1 1871) 0 = (o : Int) := (congrFun (hfH475.2.1 1871 (by decide) (by decide)) 0).trans hooH255
                    refine h_run 0 (pc' := 154) (l' := [(0, .inr (.inr 1826)), (1, .inl (l : Int)), (2, .inl bk), (3, .inl (s : Int)), (4, .inl (q : Int)), (5, .inl (wi : Int)), (6, .inl (o : Int)), (7, .inl (wi : Int)), (8, .inl (a9 : Int)), (9, .inl (b9 : Int))]) (st' := [.inl 0]) rfl ?_
                    refine h_zeq (off := 35) (t := 189) rfl rfl (by decide) (fun _ => ?_) (fun c => absurd c (by decide))
                    refine h_run 4 (pc' := 194) (l' := [(0, .inr (.inr 1826)), (1, .inl (l : Int)), (2, .inl bk), (3, .inl (s : Int)), (4, .inl (q : Int)), (5, .inl (wi : Int)), (6, .inl (o : Int)), (7, .inl (wi : Int)), (8, .inl (a9 : Int)), (9, .inl (b9 : Int)), (10, .inl 0)]) (st' := [.inl (-1), .inr (.inr 1826)]) rfl ?_
                    refine h_puti (i := 202) (ci := 13) (k := 97) (a := 1826) (x := (-1)) rfl rfl rfl rfl rfl rfl (by decide) (by decide) ?_
                    refine h_run 1 (pc' := 199) (l' := [(0, .inr (.inr 1826)), (1, .inl (l : Int)), (2, .inl bk), (3, .inl (s : Int)), (4, .inl (q : Int)), (5, .inl (wi : Int)), (6, .inl (o : Int)), (7, .inl (wi : Int)), (8, .inl (a9 : Int)), (9, .inl (b9 : Int)), (10, .inl 0)]) (st' := [.inl 0]) rfl ?_
                    refine h_zne (off := 8) (t := 207) rfl rfl (by decide) (fun c => absurd c (by decide)) (fun _ => ?_)
                    refine h_run 2 (pc' := 226) (l' := [(0, .inr (.inr 1826)), (1, .inl (l : Int)), (2, .inl bk), (3, .inl (s : Int)), (4, .inl (q : Int)), (5, .inl (wi : Int)), (6, .inl (o : Int)), (7, .inl (wi : Int)), (8, .inl (a9 : Int)), (9, .inl (b9 : Int)), (10, .inl 0)]) (st' := [.inl (-104)]) rfl ?_
                    refine h_reti (x := (-104)) rfl rfl ?_
                    exact ⟨(fr_o hf478 (by decide)), (show (-1 : Int) = -1 by omega), (OS_fr hOSH475 (show fr [97] [] H475 (zu H475 1826 (up (H475.1 1826) 97 (-1))) from (fr_o (fr_rf _ _ _) (by decide))) (by decide) (by decide) (by decide)), _, rfl, by omega, by omega⟩
                  · refine h_rng (fun hrg479 => ?_)
                    have hf480 : fr [50, 51, 53, 76, 93, 97] [1847, 1852, 1853, 1855, 1856, 1873, 1874, 1878, 1884, 1886] H H475 := fr_t (fr_o hf257 (by decide)) hfH475 (by decide) (by decide)
                    have hOSH475 : OS H H475 n := OS_fr (OS_fr hOSH255 (show fr [97] [] H255 (zu H255 1826 (up (H255.1 1826) 97 (l : Int))) from (fr_o (fr_rf _ _ _) (by decide))) (by decide) (by decide) (by decide)) hfH475 (by decide) (by decide) (by decide)
                    have hooH475 : (H475.1 1871) 0 = (o : Int) := (congrFun (hfH475.2.1 1871 (by decide) (by decide)) 0).trans hooH255
                    have eNH475 : (H475.1 1884) = (H255.1 1884) := hfH475.2.1 1884 (by decide) (by decide)
                    have yH475 : fre (ma (H.1 1833) (H.1 1830)) (m_sg (H.1 1826 3) (H.1 1826 8) 60) (H475.1 1884) (H475.1 1886) N := by have h9 := xH475; rw [hQl.1, hQl.2.1, hQl.2.2.1, hQl.2.2.2] at h9; rw [eNH475]; exact h9
                    have hTnH475 : tm (ma (H.1 1833) (H.1 1830)) (m_sg (H.1 1826 3) (H.1 1826 8) 60) (H475.1 1884) N 0 1 := by rw [eNH475]; exact hTn
                    have hTiH475 : tm (ma (H.1 1833) (H.1 1830)) (m_sg (H.1 1826 3) (H.1 1826 8) 60) (H475.1 1884) ki wi 1 := by rw [eNH475]; exact hTi
                    refine h_run 0 (pc' := 154) (l' := [(0, .inr (.inr 1826)), (1, .inl (l : Int)), (2, .inl bk), (3, .inl (s : Int)), (4, .inl (q : Int)), (5, .inl (wi : Int)), (6, .inl (o : Int)), (7, .inl (wi : Int)), (8, .inl (a9 : Int)), (9, .inl (b9 : Int))]) (st' := [.inl 1]) rfl ?_
                    refine h_zeq (off := 35) (t := 189) rfl rfl (by decide) (fun c => absurd c (by decide)) (fun _ => ?_)
                    refine h_run 9 (pc' := 173) (l' := [(0, .inr (.inr 1826)), (1, .inl (l : Int)), (2, .inl bk), (3, .inl (s : Int)), (4, .inl (q : Int)), (5, .inl (wi : Int)), (6, .inl (o : Int)), (7, .inl (wi : Int)), (8, .inl (a9 : Int)), (9, .inl (b9 : Int))]) (st' := [.inl (b9 : Int), .inr (.inr 1843), .inl (48 * (b9 : Int)), .inr (.inr 1842), .inr (.inr 1826)]) rfl ?_
                    refine h_ild (c := 1843) (j := b9) (i := (b9 : Int)) rfl rfl (by decide) rfl (by omega) ?_
                    have g481 : -2147483648 ≤ (H475.1 1843 b9) ∧ (H475.1 1843 b9) ≤ 2147483647 := hrg479.2 1843 b9 32 .int rfl (by omega)
                    have e482 : (H475.1 1843 b9) = (H255.1 1843 b9) := congrFun (hfH475.2.1 1843 (by decide) (by decide)) b9
                    have e483 : (H255.1 1843 b9) = (H.1 1843 b9) := congrFun (hfH255.2.1 1843 (by decide) (by decide)) b9
                    refine h_run 0 (pc' := 174) (l' := [(0, .inr (.inr 1826)), (1, .inl (l : Int)), (2, .inl bk), (3, .inl (s : Int)), (4, .inl (q : Int)), (5, .inl (wi : Int)), (6, .inl (o : Int)), (7, .inl (wi : Int)), (8, .inl (a9 : Int)), (9, .inl (b9 : Int))]) (st' := [.inl (H475.1 1843 b9), .inl (48 * (b9 : Int)), .inr (.inr 1842), .inr (.inr 1826)]) rfl ?_
                    have hszb9 : (H475.1 1843) b9 = (k0 : Int) := by rw [show (H475.1 1843) = (H255.1 1843) from hfH475.2.1 1843 (by decide) (by decide), show (H255.1 1843) = (H.1 1843) from hfH255.2.1 1843 (by decide) (by decide), hb9]; exact k01
                    rw [show (H475.1 1843 b9) = (k0 : Int) by omega]
                    refine h_run 2 (pc' := 179) (l' := [(0, .inr (.inr 1826)), (1, .inl (l : Int)), (2, .inl bk), (3, .inl (s : Int)), (4, .inl (q : Int)), (5, .inl (wi : Int)), (6, .inl (o : Int)), (7, .inl (wi : Int)), (8, .inl (a9 : Int)), (9, .inl (b9 : Int))]) (st' := [.inl (wi : Int), .inl 1000, .inl (k0 : Int), .inl (48 * (b9 : Int)), .inr (.inr 1842), .inr (.inr 1826)]) rfl ?_
                    have g485 : -2147483648 ≤ (H475.1 1826 93) ∧ (H475.1 1826 93) ≤ 2147483647 := hrg479.1 1826 13 93 _ .int rfl rfl
                    have e486 : (H475.1 1826 93) = (H255.1 1826 93) := hfH475.2.2 93 (by decide)
                    have hQk : sP H H475 := sP_fr (sP_rf H) hf480 (by decide) (by decide)
                    have hPk : PWc H475 := PWc_fr hP hf480 (by decide) (by decide)
                    refine h_cv (i := 597) (j := 242) (b := 1826) (M' := mt_242) (xs := [.inl (wi : Int), .inl 1000, .inl (k0 : Int), .inl (48 * (b9 : Int)), .inr (.inr 1842)]) (rest := []) rfl rfl rfl rfl rfl rfl (Nat.le_of_ble_eq_true rfl) (Nat.le_of_ble_eq_true rfl) (by omega) (m_isMade (p := (48 * b9)) (ln := k0) (N := N) (k := ki) (okp := (m_sg (H.1 1826 3) (H.1 1826 8) (vn : Nat))) (by omega) rfl (by decide) (by decide) hPk (by rw [hQk.1, hQk.2.1, hQk.2.2.1, hQk.2.2.2]; exact hTnH475) ⟨by omega, (show (H475.1 1826 93) = (N : Int) by omega)⟩ (by rw [hQk.1, hQk.2.1, hQk.2.2.1, hQk.2.2.2]; exact hTiH475) (by omega) (by rw [hQk.1, hQk.2.1]; exact (by show tm _ _ (H475.1 1842) _ _ 1; rw [show (H475.1 1842) = (H255.1 1842) from hfH475.2.1 1842 (by decide) (by decide), show (H255.1 1842) = (H.1 1842) from hfH255.2.1 1842 (by decide) (by decide), hb9]; exact k03)) (show 48 * b9 + k0 ≤ 1536 ∧ k0 ≤ 60 by omega) (by omega) (by rw [hQk.2.2.1, hQk.2.2.2]; exact (fun s9 h9 => by unfold m_sg at *; omega)) (by rw [hQk.1, hQk.2.1, hQk.2.2.1, hQk.2.2.2]; exact yH475)) ?_
                    rintro _ H484 ⟨(rfl | ⟨rfl, MH484, zH484, mH484, tH484⟩), hfH484⟩
                    · refine h_rng (fun hrg487 => ?_)
                      have hf488 : fr [50, 51, 53, 76, 93, 97] [1847, 1852, 1853, 1855, 1856, 1873, 1874, 1878, 1884, 1886] H H484 := fr_t hf480 hfH484 (by decide) (by decide)
                      have hOSH484 : OS H H484 n := OS_fr hOSH475 hfH484 (by decide) (by decide) (by decide)
                      have hooH484 : (H484.1 1871) 0 = (o : Int) := (congrFun (hfH484.2.1 1871 (by decide) (by decide)) 0).trans hooH475
                      refine h_run 0 (pc' := 182) (l' := [(0, .inr (.inr 1826)), (1, .inl (l : Int)), (2, .inl bk), (3, .inl (s : Int)), (4, .inl (q : Int)), (5, .inl (wi : Int)), (6, .inl (o : Int)), (7, .inl (wi : Int)), (8, .inl (a9 : Int)), (9, .inl (b9 : Int))]) (st' := [.inl 0]) rfl ?_
                      refine h_zeq (off := 7) (t := 189) rfl rfl (by decide) (fun _ => ?_) (fun c => absurd c (by decide))
                      refine h_run 4 (pc' := 194) (l' := [(0, .inr (.inr 1826)), (1, .inl (l : Int)), (2, .inl bk), (3, .inl (s : Int)), (4, .inl (q : Int)), (5, .inl (wi : Int)), (6, .inl (o : Int)), (7, .inl (wi : Int)), (8, .inl (a9 : Int)), (9, .inl (b9 : Int)), (10, .inl 0)]) (st' := [.inl (-1), .inr (.inr 1826)]) rfl ?_
                      refine h_puti (i := 202) (ci := 13) (k := 97) (a := 1826) (x := (-1)) rfl rfl rfl rfl rfl rfl (by decide) (by decide) ?_
                      refine h_run 1 (pc' := 199) (l' := [(0, .inr (.inr 1826)), (1, .inl (l : Int)), (2, .inl bk), (3, .inl (s : Int)), (4, .inl (q : Int)), (5, .inl (wi : Int)), (6, .inl (o : Int)), (7, .inl (wi : Int)), (8, .inl (a9 : Int)), (9, .inl (b9 : Int)), (10, .inl 0)]) (st' := [.inl 0]) rfl ?_
                      refine h_zne (off := 8) (t := 207) rfl rfl (by decide) (fun c => absurd c (by decide)) (fun _ => ?_)
                      refine h_run 2 (pc' := 226) (l' := [(0, .inr (.inr 1826)), (1, .inl (l : Int)), (2, .inl bk), (3, .inl (s : Int)), (4, .inl (q : Int)), (5, .inl (wi : Int)), (6, .inl (o : Int)), (7, .inl (wi : Int)), (8, .inl (a9 : Int)), (9, .inl (b9 : Int)), (10, .inl 0)]) (st' := [.inl (-104)]) rfl ?_
                      refine h_reti (x := (-104)) rfl rfl ?_
                      exact ⟨(fr_o hf488 (by decide)), (show (-1 : Int) = -1 by omega), (OS_fr hOSH484 (show fr [97] [] H484 (zu H484 1826 (up (H484.1 1826) 97 (-1))) from (fr_o (fr_rf _ _ _) (by decide))) (by decide) (by decide) (by decide)), _, rfl, by omega, by omega⟩
                    · refine h_rng (fun hrg489 => ?_)
                      have hf490 : fr [50, 51, 53, 76, 93, 97] [1847, 1852, 1853, 1855, 1856, 1873, 1874, 1878, 1884, 1886] H H484 := fr_t hf480 hfH484 (by decide) (by decide)
                      have hOSH484 : OS H H484 n := OS_fr hOSH475 hfH484 (by decide) (by decide) (by decide)
                      have hooH484 : (H484.1 1871) 0 = (o : Int) := (congrFun (hfH484.2.1 1871 (by decide) (by decide)) 0).trans hooH475
                      have tdH484 : tm (ma (H.1 1833) (H.1 1830)) (m_sg (H.1 1826 3) (H.1 1826 8) 60) (H484.1 1856) MH484 0 1 := by have h9 := tH484; rw [hQk.1, hQk.2.1, hQk.2.2.1, hQk.2.2.2] at h9; exact h9
                      refine h_run 0 (pc' := 182) (l' := [(0, .inr (.inr 1826)), (1, .inl (l : Int)), (2, .inl bk), (3, .inl (s : Int)), (4, .inl (q : Int)), (5, .inl (wi : Int)), (6, .inl (o : Int)), (7, .inl (wi : Int)), (8, .inl (a9 : Int)), (9, .inl (b9 : Int))]) (st' := [.inl 1]) rfl ?_
                      refine h_zeq (off := 7) (t := 189) rfl rfl (by decide) (fun c => absurd c (by decide)) (fun _ => ?_)
                      refine h_run 5 (pc' := 194) (l' := [(0, .inr (.inr 1826)), (1, .inl (l : Int)), (2, .inl bk), (3, .inl (s : Int)), (4, .inl (q : Int)), (5, .inl (wi : Int)), (6, .inl (o : Int)), (7, .inl (wi : Int)), (8, .inl (a9 : Int)), (9, .inl (b9 : Int)), (10, .inl 1)]) (st' := [.inl (-1), .inr (.inr 1826)]) rfl ?_
                      refine h_puti (i := 202) (ci := 13) (k := 97) (a := 1826) (x := (-1)) rfl rfl rfl rfl rfl rfl (by decide) (by decide) ?_
                      refine h_run 1 (pc' := 199) (l' := [(0, .inr (.inr 1826)), (1, .inl (l : Int)), (2, .inl bk), (3, .inl (s : Int)), (4, .inl (q : Int)), (5, .inl (wi : Int)), (6, .inl (o : Int)), (7, .inl (wi : Int)), (8, .inl (a9 : Int)), (9, .inl (b9 : Int)), (10, .inl 1)]) (st' := [.inl 1]) rfl ?_
                      refine h_zne (off := 8) (t := 207) rfl rfl (by decide) (fun _ => ?_) (fun c => absurd c (by decide))
                      refine h_run 3 (pc' := 211) (l' := [(0, .inr (.inr 1826)), (1, .inl (l : Int)), (2, .inl bk), (3, .inl (s : Int)), (4, .inl (q : Int)), (5, .inl (wi : Int)), (6, .inl (o : Int)), (7, .inl (wi : Int)), (8, .inl (a9 : Int)), (9, .inl (b9 : Int)), (10, .inl 1)]) (st' := [.inl (s : Int), .inl (o : Int), .inr (.inr 1826)]) rfl ?_
                      refine h_cv (i := 575) (j := 229) (b := 1826) (M' := mt_229) (xs := [.inl (s : Int), .inl (o : Int)]) (rest := []) rfl rfl rfl rfl rfl rfl (Nat.le_of_ble_eq_true rfl) (Nat.le_of_ble_eq_true rfl) (by omega) (m_isKept (M := MH484) (by omega) (by omega) ⟨zH484, mH484⟩) ?_
                      rintro _ H491 (⟨rfl, hxH491, rfl⟩ | ⟨rfl, hlH491, hfH491, hzH491, hcH491, hoH491⟩)
                      · refine h_run 0 (pc' := 214) (l' := [(0, .inr (.inr 1826)), (1, .inl (l : Int)), (2, .inl bk), (3, .inl (s : Int)), (4, .inl (q : Int)), (5, .inl (wi : Int)), (6, .inl (o : Int)), (7, .inl (wi : Int)), (8, .inl (a9 : Int)), (9, .inl (b9 : Int)), (10, .inl 1)]) (st' := [.inl 0]) rfl ?_
                        refine h_zeq (off := 10) (t := 224) rfl rfl (by decide) (fun _ => ?_) (fun c => absurd c (by decide))
                        refine h_run 1 (pc' := 226) (l' := [(0, .inr (.inr 1826)), (1, .inl (l : Int)), (2, .inl bk), (3, .inl (s : Int)), (4, .inl (q : Int)), (5, .inl (wi : Int)), (6, .inl (o : Int)), (7, .inl (wi : Int)), (8, .inl (a9 : Int)), (9, .inl (b9 : Int)), (10, .inl 1)]) (st' := [.inl (-105)]) rfl ?_
                        refine h_reti (x := (-105)) rfl rfl ?_
                        exact ⟨(fr_o hf490 (by decide)), (show (-1 : Int) = -1 by omega), (OS_fr hOSH484 (show fr [97] [] H484 (zu H484 1826 (up (H484.1 1826) 97 (-1))) from (fr_o (fr_rf _ _ _) (by decide))) (by decide) (by decide) (by decide)), _, rfl, by omega, by omega⟩
                      · refine h_rng (fun hrg492 => ?_)
                        have hf493 : fr [50, 51, 53, 76, 93, 97] [1847, 1852, 1853, 1855, 1856, 1873, 1874, 1878, 1884, 1886] H H491 := fr_t (fr_o hf490 (by decide)) hfH491 (by decide) (by decide)
                        have hOSH491 : OS H H491 n := OS_side (OS_fr hOSH484 (show fr [97] [] H484 (zu H484 1826 (up (H484.1 1826) 97 (-1))) from (fr_o (fr_rf _ _ _) (by decide))) (by decide) (by decide) (by decide)) hooH484 hfH491 hs hlH491 hzH491 hcH491 hoH491 tdH484
                        have hooH491 : (H491.1 1871) 0 = (o : Int) := (congrFun (hfH491.2.1 1871 (by decide) (by decide)) 0).trans hooH484
                        refine h_run 0 (pc' := 214) (l' := [(0, .inr (.inr 1826)), (1, .inl (l : Int)), (2, .inl bk), (3, .inl (s : Int)), (4, .inl (q : Int)), (5, .inl (wi : Int)), (6, .inl (o : Int)), (7, .inl (wi : Int)), (8, .inl (a9 : Int)), (9, .inl (b9 : Int)), (10, .inl 1)]) (st' := [.inl 1]) rfl ?_
                        refine h_zeq (off := 10) (t := 224) rfl rfl (by decide) (fun c => absurd c (by decide)) (fun _ => ?_)
                        refine h_run 1 (pc' := 218) (l' := [(0, .inr (.inr 1826)), (1, .inl (l : Int)), (2, .inl bk), (3, .inl (s : Int)), (4, .inl (q : Int)), (5, .inl (wi : Int)), (6, .inl (o : Int)), (7, .inl (wi : Int)), (8, .inl (a9 : Int)), (9, .inl (b9 : Int)), (10, .inl 1)]) (st' := [.inr (.inr 1826)]) rfl ?_
                        refine h_cv (i := 556) (j := 232) (b := 1826) (M' := mt_232) (xs := []) (rest := []) rfl rfl rfl rfl rfl rfl (Nat.le_of_ble_eq_true rfl) (Nat.le_of_ble_eq_true rfl) (by omega) (m_did (n := n) (by omega) hOSH491.1.1 (fun q9 => absurd q9 (by omega)) (by rw [show (H491.1 1871) 0 = (o : Int) from hooH491]; omega)) ?_
                        rintro _ H494 ⟨rfl, hfH494⟩
                        refine h_rng (fun hrg495 => ?_)
                        have hf496 : fr [50, 51, 53, 76, 93, 97] [1847, 1852, 1853, 1855, 1856, 1873, 1874, 1878, 1884, 1886] H H494 := fr_t hf493 hfH494 (by decide) (by decide)
                        have hOSH494 : OS H H494 n := OS_fr hOSH491 hfH494 (by decide) (by decide) (by decide)
                        have hooH494 : (H494.1 1871) 0 = (o : Int) := (congrFun (hfH494.2.1 1871 (by decide) (by decide)) 0).trans hooH491
                        refine h_run 0 (pc' := 221) (l' := [(0, .inr (.inr 1826)), (1, .inl (l : Int)), (2, .inl bk), (3, .inl (s : Int)), (4, .inl (q : Int)), (5, .inl (wi : Int)), (6, .inl (o : Int)), (7, .inl (wi : Int)), (8, .inl (a9 : Int)), (9, .inl (b9 : Int)), (10, .inl 1)]) (st' := [.inl (n : Int)]) rfl ?_
                        refine h_run 1 (pc' := 226) (l' := [(0, .inr (.inr 1826)), (1, .inl (l : Int)), (2, .inl bk), (3, .inl (s : Int)), (4, .inl (q : Int)), (5, .inl (wi : Int)), (6, .inl (o : Int)), (7, .inl (wi : Int)), (8, .inl (a9 : Int)), (9, .inl (b9 : Int)), (10, .inl 1)]) (st' := [.inl (n : Int)]) rfl ?_
                        refine h_reti (x := (n : Int)) rfl rfl ?_
                        have g497 : -2147483648 ≤ (H494.1 1826 97) ∧ (H494.1 1826 97) ≤ 2147483647 := hrg495.1 1826 13 97 _ .int rfl rfl
                        have e498 : (H494.1 1826 97) = (H491.1 1826 97) := hfH494.2.2 97 (by decide)
                        have e499 : (H491.1 1826 97) = (-1) := hfH491.2.2 97 (by decide)
                        exact ⟨hf496, (show (H494.1 1826 97) = -1 by omega), hOSH494, _, rfl, by omega, by omega⟩
          · refine h_run 1 (pc' := 71) (l' := [(0, .inr (.inr 1826)), (1, .inl (l : Int)), (2, .inl bk), (3, .inl (s : Int)), (4, .inl (q : Int)), (5, .inl (wi : Int)), (6, .inl (o : Int)), (7, .inl (wi : Int))]) (st' := [.inl (-104)]) rfl ?_
            refine h_reti (x := (-104)) rfl rfl ?_
            have g500 : -2147483648 ≤ (H255.1 1826 97) ∧ (H255.1 1826 97) ≤ 2147483647 := hrg256.1 1826 13 97 _ .int rfl rfl
            have e501 : (H255.1 1826 97) = (H.1 1826 97) := hfH255.2.2 97 (by decide)
            exact ⟨hf257, (show (H255.1 1826 97) = -1 by omega), hOSH255, _, rfl, by omega, by omega⟩
      · refine h_run 1 (pc' := 36) (l' := [(0, .inr (.inr 1826)), (1, .inl (l : Int)), (2, .inl bk), (3, .inl (s : Int)), (4, .inl (q : Int)), (5, .inl wh), (6, .inl (o : Int))]) (st' := [.inl (-104)]) rfl ?_
        refine h_reti (x := (-104)) rfl rfl ?_
        have g502 : -2147483648 ≤ (H.1 1826 97) ∧ (H.1 1826 97) ≤ 2147483647 := hrg0.1 1826 13 97 _ .int rfl rfl
        exact ⟨(fr_rf _ _ _), (show (H.1 1826 97) = -1 by omega), hO, _, rfl, by omega, by omega⟩
