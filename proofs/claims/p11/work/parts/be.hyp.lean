/-! the reference: hypotheses are used; cases at a place -/
/-! hypothesisAt -/
set_option maxRecDepth 100000 in
theorem m_hypothesisAt {zC : Nat → Option zsh} {d : Nat} (hd : 6 ≤ d) {H : hp} {n o s q : Nat} {kx bk wh : Int} (hP : PWc H) (hO : OS H H n) (hlu : (H.1 1826 97) = -1) (ho1 : (H.1 1871) 0 = (o : Int)) (hs : s < 2) (hq : q ≤ 2147483647) (hwh : wh = -1 ∨ (0 ≤ wh ∧ wh < (H.1 1874) (2 * o + s))) (hkx : -2147483648 ≤ kx ∧ kx ≤ 2147483647) (hbk : 0 ≤ bk ∧ bk ≤ 1) : hG (zs zC) d mt_246 0 (zargs 0 [.inr (.inr 1826), .inl kx, .inl bk, .inl (s : Int), .inl (q : Int), .inl wh]) [] H (fun r9 H2 => fr [50, 51, 53, 76, 93, 97] [1847, 1852, 1853, 1855, 1856, 1873, 1874, 1878, 1884, 1886] H H2 ∧ (H2.1 1826 97) = -1 ∧ OS H H2 n ∧ ∃ r0 : Int, r9 = some (.inl r0) ∧ (-105 ≤ r0 ∧ r0 ≤ 12) ∧ (0 ≤ r0 ∨ (H2.1 1874) = (H.1 1874))) := by
  refine h_rng (fun hrg0 => ?_)
  refine h_run 0 (pc' := 0) (l' := [(0, .inr (.inr 1826)), (1, .inl kx), (2, .inl bk), (3, .inl (s : Int)), (4, .inl (q : Int)), (5, .inl wh)]) (st' := []) rfl ?_
  obtain ⟨⟨pb1, pb2, pb3, pb4, pb5⟩, pw1, pw2, pw3, pw4⟩ := (id hP : PW H (H.1 1826 1) (H.1 1826 3) (H.1 1826 8) (H.1 1826 13) (H.1 1826 19))
  obtain ⟨ol, ou, og⟩ := RS_o hO ho1
  obtain ⟨N, hN1, hN2, hN3⟩ := og.1 s hs
  have hnn := hO.1
  have hN0 : 1 ≤ N := tm_le hN3
  obtain ⟨hn, hn1, hn2, hn3⟩ := og.2
  refine h_run 3 (pc' := 5) (l' := [(0, .inr (.inr 1826)), (1, .inl kx), (2, .inl bk), (3, .inl (s : Int)), (4, .inl (q : Int)), (5, .inl wh)]) (st' := [.inl 0, .inr (.inr 1871)]) rfl ?_
  refine h_ild (c := 1871) (j := 0) (i := 0) rfl rfl (by decide) rfl (by omega) ?_
  have g1 : -2147483648 ≤ (H.1 1871 0) ∧ (H.1 1871 0) ≤ 2147483647 := hrg0.2 1871 0 13 .int rfl (by omega)
  refine h_run 0 (pc' := 6) (l' := [(0, .inr (.inr 1826)), (1, .inl kx), (2, .inl bk), (3, .inl (s : Int)), (4, .inl (q : Int)), (5, .inl wh)]) (st' := [.inl (H.1 1871 0)]) rfl ?_
  rw [show (H.1 1871 0) = (o : Int) by omega]
  refine h_run 2 (pc' := 9) (l' := [(0, .inr (.inr 1826)), (1, .inl kx), (2, .inl bk), (3, .inl (s : Int)), (4, .inl (q : Int)), (5, .inl wh), (6, .inl (o : Int))]) (st' := [.inl kx]) rfl ?_
  refine h_zlt (off := 14) (t := 23) rfl rfl (by omega) (fun c2 => ?_) (fun c2 => ?_)
  · refine h_run 1 (pc' := 25) (l' := [(0, .inr (.inr 1826)), (1, .inl kx), (2, .inl bk), (3, .inl (s : Int)), (4, .inl (q : Int)), (5, .inl wh), (6, .inl (o : Int))]) (st' := [.inl (-104)]) rfl ?_
    refine h_reti (x := (-104)) rfl rfl ?_
    have g3 : -2147483648 ≤ (H.1 1826 97) ∧ (H.1 1826 97) ≤ 2147483647 := hrg0.1 1826 13 97 _ .int rfl rfl
    exact ⟨(fr_rf _ _ _), (show (H.1 1826 97) = -1 by omega), hO, _, rfl, ⟨by omega, by omega⟩, Or.inr rfl⟩
  · refine h_run 4 (pc' := 19) (l' := [(0, .inr (.inr 1826)), (1, .inl kx), (2, .inl bk), (3, .inl (s : Int)), (4, .inl (q : Int)), (5, .inl wh), (6, .inl (o : Int))]) (st' := [.inl (o : Int), .inr (.inr 1879), .inl kx]) rfl ?_
    refine h_ild (c := 1879) (j := o) (i := (o : Int)) rfl rfl (by decide) rfl (by omega) ?_
    have g4 : -2147483648 ≤ (H.1 1879 o) ∧ (H.1 1879 o) ≤ 2147483647 := hrg0.2 1879 o 40 .int rfl (by omega)
    refine h_run 0 (pc' := 20) (l' := [(0, .inr (.inr 1826)), (1, .inl kx), (2, .inl bk), (3, .inl (s : Int)), (4, .inl (q : Int)), (5, .inl wh), (6, .inl (o : Int))]) (st' := [.inl (H.1 1879 o), .inl kx]) rfl ?_
    refine h_ilt (off := 6) (t := 26) rfl rfl (by omega) (by omega) (fun c5 => ?_) (fun c5 => ?_)
    · obtain ⟨kn, hkn⟩ : ∃ k9 : Nat, kx = (k9 : Int) := ⟨(kx).toNat, by omega⟩
      rw [show kx = (kn : Int) from hkn]
      obtain ⟨k0, k01, k02, k03⟩ := hn3 (2 * kn + 0) (by omega)
      obtain ⟨k1, k11, k12, k13⟩ := hn3 (2 * kn + 1) (by omega)
      refine h_run 3 (pc' := 30) (l' := [(0, .inr (.inr 1826)), (1, .inl (kn : Int)), (2, .inl bk), (3, .inl (s : Int)), (4, .inl (q : Int)), (5, .inl wh), (6, .inl (o : Int))]) (st' := [.inl (s : Int), .inl (o : Int), .inr (.inr 1826)]) rfl ?_
      refine h_cv (i := 569) (j := 228) (b := 1826) (M' := mt_228) (xs := [.inl (s : Int), .inl (o : Int)]) (rest := []) rfl rfl rfl rfl rfl rfl (Nat.le_of_ble_eq_true rfl) (Nat.le_of_ble_eq_true rfl) (by omega) (m_bring (k := N) (by omega) (by omega) ⟨hN1, by omega⟩) ?_
      rintro _ H6 ⟨rfl, hfH6, hzH6, hcH6⟩
      refine h_rng (fun hrg7 => ?_)
      have hf8 : fr [50, 51, 53, 76, 93, 97] [1847, 1852, 1853, 1855, 1856, 1873, 1874, 1878, 1884, 1886] H H6 := fr_t (fr_rf _ _ _) hfH6 (by decide) (by decide)
      have hOSH6 : OS H H6 n := OS_fr hO hfH6 (by decide) (by decide) (by decide)
      have hooH6 : (H6.1 1871) 0 = (o : Int) := (congrFun (hfH6.2.1 1871 (by decide) (by decide)) 0).trans ho1
      have hTn : tm (ma (H.1 1833) (H.1 1830)) (m_sg (H.1 1826 3) (H.1 1826 8) 60) (H6.1 1884) N 0 1 := tm_at hN3 (fun x hx => by rw [Nat.zero_add]; exact hcH6 x hx)
      have hQb : sP H H6 := sP_fr (sP_rf H) hf8 (by decide) (by decide)
      have hPb : PWc H6 := PWc_fr hP hf8 (by decide) (by decide)
      refine h_run 0 (pc' := 33) (l' := [(0, .inr (.inr 1826)), (1, .inl (kn : Int)), (2, .inl bk), (3, .inl (s : Int)), (4, .inl (q : Int)), (5, .inl wh), (6, .inl (o : Int))]) (st' := []) rfl ?_
      refine h_run 2 (pc' := 36) (l' := [(0, .inr (.inr 1826)), (1, .inl (kn : Int)), (2, .inl bk), (3, .inl (s : Int)), (4, .inl (q : Int)), (5, .inl wh), (6, .inl (o : Int))]) (st' := [.inl (-1), .inl wh]) rfl ?_
      refine h_ieq (off := 8) (t := 44) rfl rfl (by omega) (by decide) (fun c9 => ?_) (fun c9 => ?_)
      · refine h_run 2 (pc' := 47) (l' := [(0, .inr (.inr 1826)), (1, .inl (kn : Int)), (2, .inl bk), (3, .inl (s : Int)), (4, .inl (q : Int)), (5, .inl wh), (6, .inl (o : Int))]) (st' := [.inl (q : Int), .inr (.inr 1826)]) rfl ?_
        refine h_cv (i := 572) (j := 230) (b := 1826) (M' := mt_230) (xs := [.inl (q : Int)]) (rest := []) rfl rfl rfl rfl rfl rfl (Nat.le_of_ble_eq_true rfl) (Nat.le_of_ble_eq_true rfl) (by omega) (m_placeOf (ok := (m_sg (H.1 1826 3) (H.1 1826 8) 60)) (N := N) (by omega) (by omega) (fun s9 h9 => by unfold m_sg at h9; unfold sg0; omega) (by rw [hQb.1, hQb.2.1]; exact hTn) (by omega)) ?_
        rintro _ _ ⟨(rfl | ⟨i10, rfl, i10l⟩), rfl⟩
        · refine h_run 0 (pc' := 50) (l' := [(0, .inr (.inr 1826)), (1, .inl (kn : Int)), (2, .inl bk), (3, .inl (s : Int)), (4, .inl (q : Int)), (5, .inl wh), (6, .inl (o : Int))]) (st' := [.inl (-1)]) rfl ?_
          refine h_run 3 (pc' := 55) (l' := [(0, .inr (.inr 1826)), (1, .inl (kn : Int)), (2, .inl bk), (3, .inl (s : Int)), (4, .inl (q : Int)), (5, .inl wh), (6, .inl (o : Int)), (7, .inl (-1))]) (st' := [.inl (-1), .inl (-1)]) rfl ?_
          refine h_ine (off := 6) (t := 61) rfl rfl (by decide) (by decide) (fun c => absurd c (by decide)) (fun _ => ?_)
          refine h_run 1 (pc' := 60) (l' := [(0, .inr (.inr 1826)), (1, .inl (kn : Int)), (2, .inl bk), (3, .inl (s : Int)), (4, .inl (q : Int)), (5, .inl wh), (6, .inl (o : Int)), (7, .inl (-1))]) (st' := [.inl (-104)]) rfl ?_
          refine h_reti (x := (-104)) rfl rfl ?_
          have g11 : -2147483648 ≤ (H6.1 1826 97) ∧ (H6.1 1826 97) ≤ 2147483647 := hrg7.1 1826 13 97 _ .int rfl rfl
          have e12 : (H6.1 1826 97) = (H.1 1826 97) := hfH6.2.2 97 (by decide)
          exact ⟨hf8, (show (H6.1 1826 97) = -1 by omega), hOSH6, _, rfl, ⟨by omega, by omega⟩, Or.inr (by show (H6.1 1874) = (H.1 1874); rw [show (H6.1 1874) = (H.1 1874) from hfH6.2.1 1874 (by decide) (by decide)])⟩
        · refine h_run 0 (pc' := 50) (l' := [(0, .inr (.inr 1826)), (1, .inl (kn : Int)), (2, .inl bk), (3, .inl (s : Int)), (4, .inl (q : Int)), (5, .inl wh), (6, .inl (o : Int))]) (st' := [.inl (i10 : Int)]) rfl ?_
          refine h_run 3 (pc' := 55) (l' := [(0, .inr (.inr 1826)), (1, .inl (kn : Int)), (2, .inl bk), (3, .inl (s : Int)), (4, .inl (q : Int)), (5, .inl wh), (6, .inl (o : Int)), (7, .inl (i10 : Int))]) (st' := [.inl (-1), .inl (i10 : Int)]) rfl ?_
          refine h_ine (off := 6) (t := 61) rfl rfl (by omega) (by decide) (fun c13 => ?_) (fun c13 => ?_)
          · obtain ⟨ki, hki, hTi⟩ := tm_sub hTn (p := i10) (by omega)
            have hki1 : 1 ≤ ki := tm_le hTi
            have hsi := tm_ok hTn i10 (by omega)
            rw [Nat.zero_add] at hsi
            have hsi9 := hsi
            unfold m_sg at hsi9
            refine h_run 8 (pc' := 71) (l' := [(0, .inr (.inr 1826)), (1, .inl (kn : Int)), (2, .inl bk), (3, .inl (s : Int)), (4, .inl (q : Int)), (5, .inl wh), (6, .inl (o : Int)), (7, .inl (i10 : Int))]) (st' := [.inl bk, .inl (2 * ((8 * (o : Int)) + (kn : Int)))]) rfl ?_
            refine h_zeq (off := 7) (t := 78) rfl rfl (by omega) (fun c14 => ?_) (fun c14 => ?_)
            · refine h_run 2 (pc' := 80) (l' := [(0, .inr (.inr 1826)), (1, .inl (kn : Int)), (2, .inl bk), (3, .inl (s : Int)), (4, .inl (q : Int)), (5, .inl wh), (6, .inl (o : Int)), (7, .inl (i10 : Int))]) (st' := [.inl ((2 * ((8 * (o : Int)) + (kn : Int))) + 0)]) rfl ?_
              obtain ⟨a9, ha9⟩ : ∃ x9 : Nat, x9 = 16 * o + (2 * kn + 0) := ⟨_, rfl⟩
              rw [show ((2 * ((8 * (o : Int)) + (kn : Int))) + 0) = ((a9 : Nat) : Int) from (by omega)]
              refine h_run 9 (pc' := 92) (l' := [(0, .inr (.inr 1826)), (1, .inl (kn : Int)), (2, .inl bk), (3, .inl (s : Int)), (4, .inl (q : Int)), (5, .inl wh), (6, .inl (o : Int)), (7, .inl (i10 : Int)), (8, .inl (a9 : Int))]) (st' := [.inl bk, .inl (2 * ((8 * (o : Int)) + (kn : Int)))]) rfl ?_
              refine h_zeq (off := 7) (t := 99) rfl rfl (by omega) (fun c15 => ?_) (fun c15 => ?_)
              · refine h_run 2 (pc' := 101) (l' := [(0, .inr (.inr 1826)), (1, .inl (kn : Int)), (2, .inl bk), (3, .inl (s : Int)), (4, .inl (q : Int)), (5, .inl wh), (6, .inl (o : Int)), (7, .inl (i10 : Int)), (8, .inl (a9 : Int))]) (st' := [.inl ((2 * ((8 * (o : Int)) + (kn : Int))) + 1)]) rfl ?_
                obtain ⟨b9, hb9⟩ : ∃ x9 : Nat, x9 = 16 * o + (2 * kn + 1) := ⟨_, rfl⟩
                rw [show ((2 * ((8 * (o : Int)) + (kn : Int))) + 1) = ((b9 : Nat) : Int) from (by omega)]
                refine h_run 10 (pc' := 119) (l' := [(0, .inr (.inr 1826)), (1, .inl (kn : Int)), (2, .inl bk), (3, .inl (s : Int)), (4, .inl (q : Int)), (5, .inl wh), (6, .inl (o : Int)), (7, .inl (i10 : Int)), (8, .inl (a9 : Int)), (9, .inl (b9 : Int))]) (st' := [.inl (a9 : Int), .inr (.inr 1881), .inl (64 * (a9 : Int)), .inr (.inr 1880), .inr (.inr 1826)]) rfl ?_
                refine h_ild (c := 1881) (j := a9) (i := (a9 : Int)) rfl rfl (by decide) rfl (by omega) ?_
                have g16 : -2147483648 ≤ (H6.1 1881 a9) ∧ (H6.1 1881 a9) ≤ 2147483647 := hrg7.2 1881 a9 640 .int rfl (by omega)
                have e17 : (H6.1 1881 a9) = (H.1 1881 a9) := congrFun (hfH6.2.1 1881 (by decide) (by decide)) a9
                refine h_run 0 (pc' := 120) (l' := [(0, .inr (.inr 1826)), (1, .inl (kn : Int)), (2, .inl bk), (3, .inl (s : Int)), (4, .inl (q : Int)), (5, .inl wh), (6, .inl (o : Int)), (7, .inl (i10 : Int)), (8, .inl (a9 : Int)), (9, .inl (b9 : Int))]) (st' := [.inl (H6.1 1881 a9), .inl (64 * (a9 : Int)), .inr (.inr 1880), .inr (.inr 1826)]) rfl ?_
                have hsza9 : (H6.1 1881) a9 = (k0 : Int) := by rw [show (H6.1 1881) = (H.1 1881) from hfH6.2.1 1881 (by decide) (by decide), ha9]; exact k01
                rw [show (H6.1 1881 a9) = (k0 : Int) by omega]
                refine h_run 5 (pc' := 131) (l' := [(0, .inr (.inr 1826)), (1, .inl (kn : Int)), (2, .inl bk), (3, .inl (s : Int)), (4, .inl (q : Int)), (5, .inl wh), (6, .inl (o : Int)), (7, .inl (i10 : Int)), (8, .inl (a9 : Int)), (9, .inl (b9 : Int))]) (st' := [.inl (o : Int), .inr (.inr 1875), .inl (i10 : Int), .inl 2000, .inl (k0 : Int), .inl (64 * (a9 : Int)), .inr (.inr 1880), .inr (.inr 1826)]) rfl ?_
                refine h_ild (c := 1875) (j := o) (i := (o : Int)) rfl rfl (by decide) rfl (by omega) ?_
                have g18 : -2147483648 ≤ (H6.1 1875 o) ∧ (H6.1 1875 o) ≤ 2147483647 := hrg7.2 1875 o 40 .int rfl (by omega)
                have e19 : (H6.1 1875 o) = (H.1 1875 o) := congrFun (hfH6.2.1 1875 (by decide) (by decide)) o
                refine h_run 0 (pc' := 132) (l' := [(0, .inr (.inr 1826)), (1, .inl (kn : Int)), (2, .inl bk), (3, .inl (s : Int)), (4, .inl (q : Int)), (5, .inl wh), (6, .inl (o : Int)), (7, .inl (i10 : Int)), (8, .inl (a9 : Int)), (9, .inl (b9 : Int))]) (st' := [.inl (H6.1 1875 o), .inl (i10 : Int), .inl 2000, .inl (k0 : Int), .inl (64 * (a9 : Int)), .inr (.inr 1880), .inr (.inr 1826)]) rfl ?_
                refine h_run 2 (pc' := 136) (l' := [(0, .inr (.inr 1826)), (1, .inl (kn : Int)), (2, .inl bk), (3, .inl (s : Int)), (4, .inl (q : Int)), (5, .inl wh), (6, .inl (o : Int)), (7, .inl (i10 : Int)), (8, .inl (a9 : Int)), (9, .inl (b9 : Int))]) (st' := [.inl (H6.1 1826 75), .inl (H6.1 1875 o), .inl (i10 : Int), .inl 2000, .inl (k0 : Int), .inl (64 * (a9 : Int)), .inr (.inr 1880), .inr (.inr 1826)]) rfl ?_
                have g20 : 0 ≤ (H6.1 1826 75) ∧ (H6.1 1826 75) ≤ 1 := hrg7.1 1826 13 75 _ .boolean rfl rfl
                have e21 : (H6.1 1826 75) = (H.1 1826 75) := hfH6.2.2 75 (by decide)
                refine h_zeq (off := 7) (t := 143) rfl rfl (by omega) (fun c22 => ?_) (fun c22 => ?_)
                · refine h_run 1 (pc' := 144) (l' := [(0, .inr (.inr 1826)), (1, .inl (kn : Int)), (2, .inl bk), (3, .inl (s : Int)), (4, .inl (q : Int)), (5, .inl wh), (6, .inl (o : Int)), (7, .inl (i10 : Int)), (8, .inl (a9 : Int)), (9, .inl (b9 : Int))]) (st' := [.inl 2, .inl (H6.1 1875 o), .inl (i10 : Int), .inl 2000, .inl (k0 : Int), .inl (64 * (a9 : Int)), .inr (.inr 1880), .inr (.inr 1826)]) rfl ?_
                  have g24 : -2147483648 ≤ (H6.1 1826 93) ∧ (H6.1 1826 93) ≤ 2147483647 := hrg7.1 1826 13 93 _ .int rfl rfl
                  have g25 : -2147483648 ≤ (H6.1 1826 97) ∧ (H6.1 1826 97) ≤ 2147483647 := hrg7.1 1826 13 97 _ .int rfl rfl
                  have e26 : (H6.1 1826 97) = (H.1 1826 97) := hfH6.2.2 97 (by decide)
                  have hQl : sP H H6 := sP_fr (sP_rf H) hf8 (by decide) (by decide)
                  have hPl : PWc H6 := PWc_fr hP hf8 (by decide) (by decide)
                  refine h_cv (i := 593) (j := 239) (b := 1826) (M' := mt_239) (xs := [.inl 2, .inl (H6.1 1875 o), .inl (i10 : Int), .inl 2000, .inl (k0 : Int), .inl (64 * (a9 : Int)), .inr (.inr 1880)]) (rest := []) rfl rfl rfl rfl rfl rfl (Nat.le_of_ble_eq_true rfl) (Nat.le_of_ble_eq_true rfl) (by omega) (m_isLike (p := (64 * a9)) (ln := k0) (N := N) (k := ki) (V := 60) (okp := (okf H)) (by omega) rfl (by decide) (by decide) hPl (by rw [hQl.1, hQl.2.1, hQl.2.2.1, hQl.2.2.2]; exact hTn) ⟨by omega, (show (H6.1 1826 93) = (N : Int) by omega)⟩ (by rw [hQl.1, hQl.2.1, hQl.2.2.1, hQl.2.2.2]; exact hTi) (by omega) (by rw [hQl.1, hQl.2.1]; exact (by show tm _ _ (H6.1 1880) _ _ 1; rw [show (H6.1 1880) = (H.1 1880) from hfH6.2.1 1880 (by decide) (by decide), ha9]; exact k03)) (show 64 * a9 + k0 ≤ 40960 ∧ k0 ≤ 60 by omega) (by omega) (Or.inl (show (H6.1 1826 97) = -1 ∧ 60 ≤ 60 by omega)) (fun s9 h9 => by unfold okf m_sg at h9; omega) (by omega)) ?_
                  rintro _ H23 ⟨(rfl | ⟨rfl, xH23⟩), hfH23⟩
                  · refine h_rng (fun hrg27 => ?_)
                    have hf28 : fr [50, 51, 53, 76, 93, 97] [1847, 1852, 1853, 1855, 1856, 1873, 1874, 1878, 1884, 1886] H H23 := fr_t hf8 hfH23 (by decide) (by decide)
                    have hOSH23 : OS H H23 n := OS_fr hOSH6 hfH23 (by decide) (by decide) (by decide)
                    have hooH23 : (H23.1 1871) 0 = (o : Int) := (congrFun (hfH23.2.1 1871 (by decide) (by decide)) 0).trans hooH6
                    refine h_run 0 (pc' := 147) (l' := [(0, .inr (.inr 1826)), (1, .inl (kn : Int)), (2, .inl bk), (3, .inl (s : Int)), (4, .inl (q : Int)), (5, .inl wh), (6, .inl (o : Int)), (7, .inl (i10 : Int)), (8, .inl (a9 : Int)), (9, .inl (b9 : Int))]) (st' := [.inl 0]) rfl ?_
                    refine h_zeq (off := 35) (t := 182) rfl rfl (by decide) (fun _ => ?_) (fun c => absurd c (by decide))
                    refine h_run 3 (pc' := 187) (l' := [(0, .inr (.inr 1826)), (1, .inl (kn : Int)), (2, .inl bk), (3, .inl (s : Int)), (4, .inl (q : Int)), (5, .inl wh), (6, .inl (o : Int)), (7, .inl (i10 : Int)), (8, .inl (a9 : Int)), (9, .inl (b9 : Int)), (10, .inl 0)]) (st' := [.inl 0]) rfl ?_
                    refine h_zne (off := 8) (t := 195) rfl rfl (by decide) (fun c => absurd c (by decide)) (fun _ => ?_)
                    refine h_run 2 (pc' := 214) (l' := [(0, .inr (.inr 1826)), (1, .inl (kn : Int)), (2, .inl bk), (3, .inl (s : Int)), (4, .inl (q : Int)), (5, .inl wh), (6, .inl (o : Int)), (7, .inl (i10 : Int)), (8, .inl (a9 : Int)), (9, .inl (b9 : Int)), (10, .inl 0)]) (st' := [.inl (-104)]) rfl ?_
                    refine h_reti (x := (-104)) rfl rfl ?_
                    have g29 : -2147483648 ≤ (H23.1 1826 97) ∧ (H23.1 1826 97) ≤ 2147483647 := hrg27.1 1826 13 97 _ .int rfl rfl
                    have e30 : (H23.1 1826 97) = (H6.1 1826 97) := hfH23.2.2 97 (by decide)
                    exact ⟨hf28, (show (H23.1 1826 97) = -1 by omega), hOSH23, _, rfl, ⟨by omega, by omega⟩, Or.inr (by show (H23.1 1874) = (H.1 1874); rw [show (H23.1 1874) = (H6.1 1874) from hfH23.2.1 1874 (by decide) (by decide), show (H6.1 1874) = (H.1 1874) from hfH6.2.1 1874 (by decide) (by decide)])⟩
                  · refine h_rng (fun hrg31 => ?_)
                    have hf32 : fr [50, 51, 53, 76, 93, 97] [1847, 1852, 1853, 1855, 1856, 1873, 1874, 1878, 1884, 1886] H H23 := fr_t hf8 hfH23 (by decide) (by decide)
                    have hOSH23 : OS H H23 n := OS_fr hOSH6 hfH23 (by decide) (by decide) (by decide)
                    have hooH23 : (H23.1 1871) 0 = (o : Int) := (congrFun (hfH23.2.1 1871 (by decide) (by decide)) 0).trans hooH6
                    have eNH23 : (H23.1 1884) = (H6.1 1884) := hfH23.2.1 1884 (by decide) (by decide)
                    have yH23 : fre (ma (H.1 1833) (H.1 1830)) (m_sg (H.1 1826 3) (H.1 1826 8) 60) (H23.1 1884) (H23.1 1886) N := by have h9 := xH23; rw [hQl.1, hQl.2.1, hQl.2.2.1, hQl.2.2.2] at h9; rw [eNH23]; exact h9
                    have hTnH23 : tm (ma (H.1 1833) (H.1 1830)) (m_sg (H.1 1826 3) (H.1 1826 8) 60) (H23.1 1884) N 0 1 := by rw [eNH23]; exact hTn
                    have hTiH23 : tm (ma (H.1 1833) (H.1 1830)) (m_sg (H.1 1826 3) (H.1 1826 8) 60) (H23.1 1884) ki i10 1 := by rw [eNH23]; exact hTi
                    refine h_run 0 (pc' := 147) (l' := [(0, .inr (.inr 1826)), (1, .inl (kn : Int)), (2, .inl bk), (3, .inl (s : Int)), (4, .inl (q : Int)), (5, .inl wh), (6, .inl (o : Int)), (7, .inl (i10 : Int)), (8, .inl (a9 : Int)), (9, .inl (b9 : Int))]) (st' := [.inl 1]) rfl ?_
                    refine h_zeq (off := 35) (t := 182) rfl rfl (by decide) (fun c => absurd c (by decide)) (fun _ => ?_)
                    refine h_run 9 (pc' := 166) (l' := [(0, .inr (.inr 1826)), (1, .inl (kn : Int)), (2, .inl bk), (3, .inl (s : Int)), (4, .inl (q : Int)), (5, .inl wh), (6, .inl (o : Int)), (7, .inl (i10 : Int)), (8, .inl (a9 : Int)), (9, .inl (b9 : Int))]) (st' := [.inl (b9 : Int), .inr (.inr 1881), .inl (64 * (b9 : Int)), .inr (.inr 1880), .inr (.inr 1826)]) rfl ?_
                    refine h_ild (c := 1881) (j := b9) (i := (b9 : Int)) rfl rfl (by decide) rfl (by omega) ?_
                    have g33 : -2147483648 ≤ (H23.1 1881 b9) ∧ (H23.1 1881 b9) ≤ 2147483647 := hrg31.2 1881 b9 640 .int rfl (by omega)
                    have e34 : (H23.1 1881 b9) = (H6.1 1881 b9) := congrFun (hfH23.2.1 1881 (by decide) (by decide)) b9
                    have e35 : (H6.1 1881 b9) = (H.1 1881 b9) := congrFun (hfH6.2.1 1881 (by decide) (by decide)) b9
                    refine h_run 0 (pc' := 167) (l' := [(0, .inr (.inr 1826)), (1, .inl (kn : Int)), (2, .inl bk), (3, .inl (s : Int)), (4, .inl (q : Int)), (5, .inl wh), (6, .inl (o : Int)), (7, .inl (i10 : Int)), (8, .inl (a9 : Int)), (9, .inl (b9 : Int))]) (st' := [.inl (H23.1 1881 b9), .inl (64 * (b9 : Int)), .inr (.inr 1880), .inr (.inr 1826)]) rfl ?_
                    have hszb9 : (H23.1 1881) b9 = (k1 : Int) := by rw [show (H23.1 1881) = (H6.1 1881) from hfH23.2.1 1881 (by decide) (by decide), show (H6.1 1881) = (H.1 1881) from hfH6.2.1 1881 (by decide) (by decide), hb9]; exact k11
                    rw [show (H23.1 1881 b9) = (k1 : Int) by omega]
                    refine h_run 2 (pc' := 172) (l' := [(0, .inr (.inr 1826)), (1, .inl (kn : Int)), (2, .inl bk), (3, .inl (s : Int)), (4, .inl (q : Int)), (5, .inl wh), (6, .inl (o : Int)), (7, .inl (i10 : Int)), (8, .inl (a9 : Int)), (9, .inl (b9 : Int))]) (st' := [.inl (i10 : Int), .inl 2000, .inl (k1 : Int), .inl (64 * (b9 : Int)), .inr (.inr 1880), .inr (.inr 1826)]) rfl ?_
                    have g37 : -2147483648 ≤ (H23.1 1826 93) ∧ (H23.1 1826 93) ≤ 2147483647 := hrg31.1 1826 13 93 _ .int rfl rfl
                    have e38 : (H23.1 1826 93) = (H6.1 1826 93) := hfH23.2.2 93 (by decide)
                    have hQk : sP H H23 := sP_fr (sP_rf H) hf32 (by decide) (by decide)
                    have hPk : PWc H23 := PWc_fr hP hf32 (by decide) (by decide)
                    refine h_cv (i := 597) (j := 242) (b := 1826) (M' := mt_242) (xs := [.inl (i10 : Int), .inl 2000, .inl (k1 : Int), .inl (64 * (b9 : Int)), .inr (.inr 1880)]) (rest := []) rfl rfl rfl rfl rfl rfl (Nat.le_of_ble_eq_true rfl) (Nat.le_of_ble_eq_true rfl) (by omega) (m_isMade (p := (64 * b9)) (ln := k1) (N := N) (k := ki) (okp := (okf H)) (by omega) rfl (by decide) (by decide) hPk (by rw [hQk.1, hQk.2.1, hQk.2.2.1, hQk.2.2.2]; exact hTnH23) ⟨by omega, (show (H23.1 1826 93) = (N : Int) by omega)⟩ (by rw [hQk.1, hQk.2.1, hQk.2.2.1, hQk.2.2.2]; exact hTiH23) (by omega) (by rw [hQk.1, hQk.2.1]; exact (by show tm _ _ (H23.1 1880) _ _ 1; rw [show (H23.1 1880) = (H6.1 1880) from hfH23.2.1 1880 (by decide) (by decide), show (H6.1 1880) = (H.1 1880) from hfH6.2.1 1880 (by decide) (by decide), hb9]; exact k13)) (show 64 * b9 + k1 ≤ 40960 ∧ k1 ≤ 60 by omega) (by omega) (by rw [hQk.2.2.1, hQk.2.2.2]; exact (fun s9 h9 => by unfold okf at h9; unfold m_sg at *; omega)) (by rw [hQk.1, hQk.2.1, hQk.2.2.1, hQk.2.2.2]; exact yH23)) ?_
                    rintro _ H36 ⟨(rfl | ⟨rfl, MH36, zH36, mH36, tH36⟩), hfH36⟩
                    · refine h_rng (fun hrg39 => ?_)
                      have hf40 : fr [50, 51, 53, 76, 93, 97] [1847, 1852, 1853, 1855, 1856, 1873, 1874, 1878, 1884, 1886] H H36 := fr_t hf32 hfH36 (by decide) (by decide)
                      have hOSH36 : OS H H36 n := OS_fr hOSH23 hfH36 (by decide) (by decide) (by decide)
                      have hooH36 : (H36.1 1871) 0 = (o : Int) := (congrFun (hfH36.2.1 1871 (by decide) (by decide)) 0).trans hooH23
                      refine h_run 0 (pc' := 175) (l' := [(0, .inr (.inr 1826)), (1, .inl (kn : Int)), (2, .inl bk), (3, .inl (s : Int)), (4, .inl (q : Int)), (5, .inl wh), (6, .inl (o : Int)), (7, .inl (i10 : Int)), (8, .inl (a9 : Int)), (9, .inl (b9 : Int))]) (st' := [.inl 0]) rfl ?_
                      refine h_zeq (off := 7) (t := 182) rfl rfl (by decide) (fun _ => ?_) (fun c => absurd c (by decide))
                      refine h_run 3 (pc' := 187) (l' := [(0, .inr (.inr 1826)), (1, .inl (kn : Int)), (2, .inl bk), (3, .inl (s : Int)), (4, .inl (q : Int)), (5, .inl wh), (6, .inl (o : Int)), (7, .inl (i10 : Int)), (8, .inl (a9 : Int)), (9, .inl (b9 : Int)), (10, .inl 0)]) (st' := [.inl 0]) rfl ?_
                      refine h_zne (off := 8) (t := 195) rfl rfl (by decide) (fun c => absurd c (by decide)) (fun _ => ?_)
                      refine h_run 2 (pc' := 214) (l' := [(0, .inr (.inr 1826)), (1, .inl (kn : Int)), (2, .inl bk), (3, .inl (s : Int)), (4, .inl (q : Int)), (5, .inl wh), (6, .inl (o : Int)), (7, .inl (i10 : Int)), (8, .inl (a9 : Int)), (9, .inl (b9 : Int)), (10, .inl 0)]) (st' := [.inl (-104)]) rfl ?_
                      refine h_reti (x := (-104)) rfl rfl ?_
                      have g41 : -2147483648 ≤ (H36.1 1826 97) ∧ (H36.1 1826 97) ≤ 2147483647 := hrg39.1 1826 13 97 _ .int rfl rfl
                      have e42 : (H36.1 1826 97) = (H23.1 1826 97) := hfH36.2.2 97 (by decide)
                      have e43 : (H23.1 1826 97) = (H6.1 1826 97) := hfH23.2.2 97 (by decide)
                      exact ⟨hf40, (show (H36.1 1826 97) = -1 by omega), hOSH36, _, rfl, ⟨by omega, by omega⟩, Or.inr (by show (H36.1 1874) = (H.1 1874); rw [show (H36.1 1874) = (H23.1 1874) from hfH36.2.1 1874 (by decide) (by decide), show (H23.1 1874) = (H6.1 1874) from hfH23.2.1 1874 (by decide) (by decide), show (H6.1 1874) = (H.1 1874) from hfH6.2.1 1874 (by decide) (by decide)])⟩
                    · refine h_rng (fun hrg44 => ?_)
                      have hf45 : fr [50, 51, 53, 76, 93, 97] [1847, 1852, 1853, 1855, 1856, 1873, 1874, 1878, 1884, 1886] H H36 := fr_t hf32 hfH36 (by decide) (by decide)
                      have hOSH36 : OS H H36 n := OS_fr hOSH23 hfH36 (by decide) (by decide) (by decide)
                      have hooH36 : (H36.1 1871) 0 = (o : Int) := (congrFun (hfH36.2.1 1871 (by decide) (by decide)) 0).trans hooH23
                      have tdH36 : tm (ma (H.1 1833) (H.1 1830)) (m_sg (H.1 1826 3) (H.1 1826 8) 60) (H36.1 1856) MH36 0 1 := by have h9 := tH36; rw [hQk.1, hQk.2.1, hQk.2.2.1, hQk.2.2.2] at h9; exact h9
                      refine h_run 0 (pc' := 175) (l' := [(0, .inr (.inr 1826)), (1, .inl (kn : Int)), (2, .inl bk), (3, .inl (s : Int)), (4, .inl (q : Int)), (5, .inl wh), (6, .inl (o : Int)), (7, .inl (i10 : Int)), (8, .inl (a9 : Int)), (9, .inl (b9 : Int))]) (st' := [.inl 1]) rfl ?_
                      refine h_zeq (off := 7) (t := 182) rfl rfl (by decide) (fun c => absurd c (by decide)) (fun _ => ?_)
                      refine h_run 4 (pc' := 187) (l' := [(0, .inr (.inr 1826)), (1, .inl (kn : Int)), (2, .inl bk), (3, .inl (s : Int)), (4, .inl (q : Int)), (5, .inl wh), (6, .inl (o : Int)), (7, .inl (i10 : Int)), (8, .inl (a9 : Int)), (9, .inl (b9 : Int)), (10, .inl 1)]) (st' := [.inl 1]) rfl ?_
                      refine h_zne (off := 8) (t := 195) rfl rfl (by decide) (fun _ => ?_) (fun c => absurd c (by decide))
                      refine h_run 3 (pc' := 199) (l' := [(0, .inr (.inr 1826)), (1, .inl (kn : Int)), (2, .inl bk), (3, .inl (s : Int)), (4, .inl (q : Int)), (5, .inl wh), (6, .inl (o : Int)), (7, .inl (i10 : Int)), (8, .inl (a9 : Int)), (9, .inl (b9 : Int)), (10, .inl 1)]) (st' := [.inl (s : Int), .inl (o : Int), .inr (.inr 1826)]) rfl ?_
                      refine h_cv (i := 575) (j := 229) (b := 1826) (M' := mt_229) (xs := [.inl (s : Int), .inl (o : Int)]) (rest := []) rfl rfl rfl rfl rfl rfl (Nat.le_of_ble_eq_true rfl) (Nat.le_of_ble_eq_true rfl) (by omega) (m_isKept (M := MH36) (by omega) (by omega) ⟨zH36, mH36⟩) ?_
                      rintro _ H46 (⟨rfl, hxH46, rfl⟩ | ⟨rfl, hlH46, hfH46, hzH46, hcH46, hoH46⟩)
                      · refine h_run 0 (pc' := 202) (l' := [(0, .inr (.inr 1826)), (1, .inl (kn : Int)), (2, .inl bk), (3, .inl (s : Int)), (4, .inl (q : Int)), (5, .inl wh), (6, .inl (o : Int)), (7, .inl (i10 : Int)), (8, .inl (a9 : Int)), (9, .inl (b9 : Int)), (10, .inl 1)]) (st' := [.inl 0]) rfl ?_
                        refine h_zeq (off := 10) (t := 212) rfl rfl (by decide) (fun _ => ?_) (fun c => absurd c (by decide))
                        refine h_run 1 (pc' := 214) (l' := [(0, .inr (.inr 1826)), (1, .inl (kn : Int)), (2, .inl bk), (3, .inl (s : Int)), (4, .inl (q : Int)), (5, .inl wh), (6, .inl (o : Int)), (7, .inl (i10 : Int)), (8, .inl (a9 : Int)), (9, .inl (b9 : Int)), (10, .inl 1)]) (st' := [.inl (-105)]) rfl ?_
                        refine h_reti (x := (-105)) rfl rfl ?_
                        have g47 : -2147483648 ≤ (H36.1 1826 97) ∧ (H36.1 1826 97) ≤ 2147483647 := hrg44.1 1826 13 97 _ .int rfl rfl
                        have e48 : (H36.1 1826 97) = (H23.1 1826 97) := hfH36.2.2 97 (by decide)
                        have e49 : (H23.1 1826 97) = (H6.1 1826 97) := hfH23.2.2 97 (by decide)
                        exact ⟨hf45, (show (H36.1 1826 97) = -1 by omega), hOSH36, _, rfl, ⟨by omega, by omega⟩, Or.inr (by show (H36.1 1874) = (H.1 1874); rw [show (H36.1 1874) = (H23.1 1874) from hfH36.2.1 1874 (by decide) (by decide), show (H23.1 1874) = (H6.1 1874) from hfH23.2.1 1874 (by decide) (by decide), show (H6.1 1874) = (H.1 1874) from hfH6.2.1 1874 (by decide) (by decide)])⟩
                      · refine h_rng (fun hrg50 => ?_)
                        have hf51 : fr [50, 51, 53, 76, 93, 97] [1847, 1852, 1853, 1855, 1856, 1873, 1874, 1878, 1884, 1886] H H46 := fr_t hf45 hfH46 (by decide) (by decide)
                        have hOSH46 : OS H H46 n := OS_side hOSH36 hooH36 hfH46 hs hlH46 hzH46 hcH46 hoH46 tdH36
                        have hooH46 : (H46.1 1871) 0 = (o : Int) := (congrFun (hfH46.2.1 1871 (by decide) (by decide)) 0).trans hooH36
                        refine h_run 0 (pc' := 202) (l' := [(0, .inr (.inr 1826)), (1, .inl (kn : Int)), (2, .inl bk), (3, .inl (s : Int)), (4, .inl (q : Int)), (5, .inl wh), (6, .inl (o : Int)), (7, .inl (i10 : Int)), (8, .inl (a9 : Int)), (9, .inl (b9 : Int)), (10, .inl 1)]) (st' := [.inl 1]) rfl ?_
                        refine h_zeq (off := 10) (t := 212) rfl rfl (by decide) (fun c => absurd c (by decide)) (fun _ => ?_)
                        refine h_run 1 (pc' := 206) (l' := [(0, .inr (.inr 1826)), (1, .inl (kn : Int)), (2, .inl bk), (3, .inl (s : Int)), (4, .inl (q : Int)), (5, .inl wh), (6, .inl (o : Int)), (7, .inl (i10 : Int)), (8, .inl (a9 : Int)), (9, .inl (b9 : Int)), (10, .inl 1)]) (st' := [.inr (.inr 1826)]) rfl ?_
                        refine h_cv (i := 556) (j := 232) (b := 1826) (M' := mt_232) (xs := []) (rest := []) rfl rfl rfl rfl rfl rfl (Nat.le_of_ble_eq_true rfl) (Nat.le_of_ble_eq_true rfl) (by omega) (m_did (n := n) (by omega) hOSH46.1.1 (fun q9 => absurd q9 (by omega)) (by rw [show (H46.1 1871) 0 = (o : Int) from hooH46]; omega)) ?_
                        rintro _ H52 ⟨rfl, hfH52⟩
                        refine h_rng (fun hrg53 => ?_)
                        have hf54 : fr [50, 51, 53, 76, 93, 97] [1847, 1852, 1853, 1855, 1856, 1873, 1874, 1878, 1884, 1886] H H52 := fr_t hf51 hfH52 (by decide) (by decide)
                        have hOSH52 : OS H H52 n := OS_fr hOSH46 hfH52 (by decide) (by decide) (by decide)
                        have hooH52 : (H52.1 1871) 0 = (o : Int) := (congrFun (hfH52.2.1 1871 (by decide) (by decide)) 0).trans hooH46
                        refine h_run 0 (pc' := 209) (l' := [(0, .inr (.inr 1826)), (1, .inl (kn : Int)), (2, .inl bk), (3, .inl (s : Int)), (4, .inl (q : Int)), (5, .inl wh), (6, .inl (o : Int)), (7, .inl (i10 : Int)), (8, .inl (a9 : Int)), (9, .inl (b9 : Int)), (10, .inl 1)]) (st' := [.inl (n : Int)]) rfl ?_
                        refine h_run 1 (pc' := 214) (l' := [(0, .inr (.inr 1826)), (1, .inl (kn : Int)), (2, .inl bk), (3, .inl (s : Int)), (4, .inl (q : Int)), (5, .inl wh), (6, .inl (o : Int)), (7, .inl (i10 : Int)), (8, .inl (a9 : Int)), (9, .inl (b9 : Int)), (10, .inl 1)]) (st' := [.inl (n : Int)]) rfl ?_
                        refine h_reti (x := (n : Int)) rfl rfl ?_
                        have g55 : -2147483648 ≤ (H52.1 1826 97) ∧ (H52.1 1826 97) ≤ 2147483647 := hrg53.1 1826 13 97 _ .int rfl rfl
                        have e56 : (H52.1 1826 97) = (H46.1 1826 97) := hfH52.2.2 97 (by decide)
                        have e57 : (H46.1 1826 97) = (H36.1 1826 97) := hfH46.2.2 97 (by decide)
                        have e58 : (H36.1 1826 97) = (H23.1 1826 97) := hfH36.2.2 97 (by decide)
                        have e59 : (H23.1 1826 97) = (H6.1 1826 97) := hfH23.2.2 97 (by decide)
                        exact ⟨hf54, (show (H52.1 1826 97) = -1 by omega), hOSH52, _, rfl, ⟨by omega, by omega⟩, Or.inl (by omega)⟩
                · refine h_run 2 (pc' := 144) (l' := [(0, .inr (.inr 1826)), (1, .inl (kn : Int)), (2, .inl bk), (3, .inl (s : Int)), (4, .inl (q : Int)), (5, .inl wh), (6, .inl (o : Int)), (7, .inl (i10 : Int)), (8, .inl (a9 : Int)), (9, .inl (b9 : Int))]) (st' := [.inl 0, .inl (H6.1 1875 o), .inl (i10 : Int), .inl 2000, .inl (k0 : Int), .inl (64 * (a9 : Int)), .inr (.inr 1880), .inr (.inr 1826)]) rfl ?_
                  have g61 : -2147483648 ≤ (H6.1 1826 93) ∧ (H6.1 1826 93) ≤ 2147483647 := hrg7.1 1826 13 93 _ .int rfl rfl
                  have g62 : -2147483648 ≤ (H6.1 1826 97) ∧ (H6.1 1826 97) ≤ 2147483647 := hrg7.1 1826 13 97 _ .int rfl rfl
                  have e63 : (H6.1 1826 97) = (H.1 1826 97) := hfH6.2.2 97 (by decide)
                  have hQl : sP H H6 := sP_fr (sP_rf H) hf8 (by decide) (by decide)
                  have hPl : PWc H6 := PWc_fr hP hf8 (by decide) (by decide)
                  refine h_cv (i := 593) (j := 239) (b := 1826) (M' := mt_239) (xs := [.inl 0, .inl (H6.1 1875 o), .inl (i10 : Int), .inl 2000, .inl (k0 : Int), .inl (64 * (a9 : Int)), .inr (.inr 1880)]) (rest := []) rfl rfl rfl rfl rfl rfl (Nat.le_of_ble_eq_true rfl) (Nat.le_of_ble_eq_true rfl) (by omega) (m_isLike (p := (64 * a9)) (ln := k0) (N := N) (k := ki) (V := 60) (okp := (okf H)) (by omega) rfl (by decide) (by decide) hPl (by rw [hQl.1, hQl.2.1, hQl.2.2.1, hQl.2.2.2]; exact hTn) ⟨by omega, (show (H6.1 1826 93) = (N : Int) by omega)⟩ (by rw [hQl.1, hQl.2.1, hQl.2.2.1, hQl.2.2.2]; exact hTi) (by omega) (by rw [hQl.1, hQl.2.1]; exact (by show tm _ _ (H6.1 1880) _ _ 1; rw [show (H6.1 1880) = (H.1 1880) from hfH6.2.1 1880 (by decide) (by decide), ha9]; exact k03)) (show 64 * a9 + k0 ≤ 40960 ∧ k0 ≤ 60 by omega) (by omega) (Or.inl (show (H6.1 1826 97) = -1 ∧ 60 ≤ 60 by omega)) (fun s9 h9 => by unfold okf m_sg at h9; omega) (by omega)) ?_
                  rintro _ H60 ⟨(rfl | ⟨rfl, xH60⟩), hfH60⟩
                  · refine h_rng (fun hrg64 => ?_)
                    have hf65 : fr [50, 51, 53, 76, 93, 97] [1847, 1852, 1853, 1855, 1856, 1873, 1874, 1878, 1884, 1886] H H60 := fr_t hf8 hfH60 (by decide) (by decide)
                    have hOSH60 : OS H H60 n := OS_fr hOSH6 hfH60 (by decide) (by decide) (by decide)
                    have hooH60 : (H60.1 1871) 0 = (o : Int) := (congrFun (hfH60.2.1 1871 (by decide) (by decide)) 0).trans hooH6
                    refine h_run 0 (pc' := 147) (l' := [(0, .inr (.inr 1826)), (1, .inl (kn : Int)), (2, .inl bk), (3, .inl (s : Int)), (4, .inl (q : Int)), (5, .inl wh), (6, .inl (o : Int)), (7, .inl (i10 : Int)), (8, .inl (a9 : Int)), (9, .inl (b9 : Int))]) (st' := [.inl 0]) rfl ?_
                    refine h_zeq (off := 35) (t := 182) rfl rfl (by decide) (fun _ => ?_) (fun c => absurd c (by decide))
                    refine h_run 3 (pc' := 187) (l' := [(0, .inr (.inr 1826)), (1, .inl (kn : Int)), (2, .inl bk), (3, .inl (s : Int)), (4, .inl (q : Int)), (5, .inl wh), (6, .inl (o : Int)), (7, .inl (i10 : Int)), (8, .inl (a9 : Int)), (9, .inl (b9 : Int)), (10, .inl 0)]) (st' := [.inl 0]) rfl ?_
                    refine h_zne (off := 8) (t := 195) rfl rfl (by decide) (fun c => absurd c (by decide)) (fun _ => ?_)
                    refine h_run 2 (pc' := 214) (l' := [(0, .inr (.inr 1826)), (1, .inl (kn : Int)), (2, .inl bk), (3, .inl (s : Int)), (4, .inl (q : Int)), (5, .inl wh), (6, .inl (o : Int)), (7, .inl (i10 : Int)), (8, .inl (a9 : Int)), (9, .inl (b9 : Int)), (10, .inl 0)]) (st' := [.inl (-104)]) rfl ?_
                    refine h_reti (x := (-104)) rfl rfl ?_
                    have g66 : -2147483648 ≤ (H60.1 1826 97) ∧ (H60.1 1826 97) ≤ 2147483647 := hrg64.1 1826 13 97 _ .int rfl rfl
                    have e67 : (H60.1 1826 97) = (H6.1 1826 97) := hfH60.2.2 97 (by decide)
                    exact ⟨hf65, (show (H60.1 1826 97) = -1 by omega), hOSH60, _, rfl, ⟨by omega, by omega⟩, Or.inr (by show (H60.1 1874) = (H.1 1874); rw [show (H60.1 1874) = (H6.1 1874) from hfH60.2.1 1874 (by decide) (by decide), show (H6.1 1874) = (H.1 1874) from hfH6.2.1 1874 (by decide) (by decide)])⟩
                  · refine h_rng (fun hrg68 => ?_)
                    have hf69 : fr [50, 51, 53, 76, 93, 97] [1847, 1852, 1853, 1855, 1856, 1873, 1874, 1878, 1884, 1886] H H60 := fr_t hf8 hfH60 (by decide) (by decide)
                    have hOSH60 : OS H H60 n := OS_fr hOSH6 hfH60 (by decide) (by decide) (by decide)
                    have hooH60 : (H60.1 1871) 0 = (o : Int) := (congrFun (hfH60.2.1 1871 (by decide) (by decide)) 0).trans hooH6
                    have eNH60 : (H60.1 1884) = (H6.1 1884) := hfH60.2.1 1884 (by decide) (by decide)
                    have yH60 : fre (ma (H.1 1833) (H.1 1830)) (m_sg (H.1 1826 3) (H.1 1826 8) 60) (H60.1 1884) (H60.1 1886) N := by have h9 := xH60; rw [hQl.1, hQl.2.1, hQl.2.2.1, hQl.2.2.2] at h9; rw [eNH60]; exact h9
                    have hTnH60 : tm (ma (H.1 1833) (H.1 1830)) (m_sg (H.1 1826 3) (H.1 1826 8) 60) (H60.1 1884) N 0 1 := by rw [eNH60]; exact hTn
                    have hTiH60 : tm (ma (H.1 1833) (H.1 1830)) (m_sg (H.1 1826 3) (H.1 1826 8) 60) (H60.1 1884) ki i10 1 := by rw [eNH60]; exact hTi
                    refine h_run 0 (pc' := 147) (l' := [(0, .inr (.inr 1826)), (1, .inl (kn : Int)), (2, .inl bk), (3, .inl (s : Int)), (4, .inl (q : Int)), (5, .inl wh), (6, .inl (o : Int)), (7, .inl (i10 : Int)), (8, .inl (a9 : Int)), (9, .inl (b9 : Int))]) (st' := [.inl 1]) rfl ?_
                    refine h_zeq (off := 35) (t := 182) rfl rfl (by decide) (fun c => absurd c (by decide)) (fun _ => ?_)
                    refine h_run 9 (pc' := 166) (l' := [(0, .inr (.inr 1826)), (1, .inl (kn : Int)), (2, .inl bk), (3, .inl (s : Int)), (4, .inl (q : Int)), (5, .inl wh), (6, .inl (o : Int)), (7, .inl (i10 : Int)), (8, .inl (a9 : Int)), (9, .inl (b9 : Int))]) (st' := [.inl (b9 : Int), .inr (.inr 1881), .inl (64 * (b9 : Int)), .inr (.inr 1880), .inr (.inr 1826)]) rfl ?_
                    refine h_ild (c := 1881) (j := b9) (i := (b9 : Int)) rfl rfl (by decide) rfl (by omega) ?_
                    have g70 : -2147483648 ≤ (H60.1 1881 b9) ∧ (H60.1 1881 b9) ≤ 2147483647 := hrg68.2 1881 b9 640 .int rfl (by omega)
                    have e71 : (H60.1 1881 b9) = (H6.1 1881 b9) := congrFun (hfH60.2.1 1881 (by decide) (by decide)) b9
                    have e72 : (H6.1 1881 b9) = (H.1 1881 b9) := congrFun (hfH6.2.1 1881 (by decide) (by decide)) b9
                    refine h_run 0 (pc' := 167) (l' := [(0, .inr (.inr 1826)), (1, .inl (kn : Int)), (2, .inl bk), (3, .inl (s : Int)), (4, .inl (q : Int)), (5, .inl wh), (6, .inl (o : Int)), (7, .inl (i10 : Int)), (8, .inl (a9 : Int)), (9, .inl (b9 : Int))]) (st' := [.inl (H60.1 1881 b9), .inl (64 * (b9 : Int)), .inr (.inr 1880), .inr (.inr 1826)]) rfl ?_
                    have hszb9 : (H60.1 1881) b9 = (k1 : Int) := by rw [show (H60.1 1881) = (H6.1 1881) from hfH60.2.1 1881 (by decide) (by decide), show (H6.1 1881) = (H.1 1881) from hfH6.2.1 1881 (by decide) (by decide), hb9]; exact k11
                    rw [show (H60.1 1881 b9) = (k1 : Int) by omega]
                    refine h_run 2 (pc' := 172) (l' := [(0, .inr (.inr 1826)), (1, .inl (kn : Int)), (2, .inl bk), (3, .inl (s : Int)), (4, .inl (q : Int)), (5, .inl wh), (6, .inl (o : Int)), (7, .inl (i10 : Int)), (8, .inl (a9 : Int)), (9, .inl (b9 : Int))]) (st' := [.inl (i10 : Int), .inl 2000, .inl (k1 : Int), .inl (64 * (b9 : Int)), .inr (.inr 1880), .inr (.inr 1826)]) rfl ?_
                    have g74 : -2147483648 ≤ (H60.1 1826 93) ∧ (H60.1 1826 93) ≤ 2147483647 := hrg68.1 1826 13 93 _ .int rfl rfl
                    have e75 : (H60.1 1826 93) = (H6.1 1826 93) := hfH60.2.2 93 (by decide)
                    have hQk : sP H H60 := sP_fr (sP_rf H) hf69 (by decide) (by decide)
                    have hPk : PWc H60 := PWc_fr hP hf69 (by decide) (by decide)
                    refine h_cv (i := 597) (j := 242) (b := 1826) (M' := mt_242) (xs := [.inl (i10 : Int), .inl 2000, .inl (k1 : Int), .inl (64 * (b9 : Int)), .inr (.inr 1880)]) (rest := []) rfl rfl rfl rfl rfl rfl (Nat.le_of_ble_eq_true rfl) (Nat.le_of_ble_eq_true rfl) (by omega) (m_isMade (p := (64 * b9)) (ln := k1) (N := N) (k := ki) (okp := (okf H)) (by omega) rfl (by decide) (by decide) hPk (by rw [hQk.1, hQk.2.1, hQk.2.2.1, hQk.2.2.2]; exact hTnH60) ⟨by omega, (show (H60.1 1826 93) = (N : Int) by omega)⟩ (by rw [hQk.1, hQk.2.1, hQk.2.2.1, hQk.2.2.2]; exact hTiH60) (by omega) (by rw [hQk.1, hQk.2.1]; exact (by show tm _ _ (H60.1 1880) _ _ 1; rw [show (H60.1 1880) = (H6.1 1880) from hfH60.2.1 1880 (by decide) (by decide), show (H6.1 1880) = (H.1 1880) from hfH6.2.1 1880 (by decide) (by decide), hb9]; exact k13)) (show 64 * b9 + k1 ≤ 40960 ∧ k1 ≤ 60 by omega) (by omega) (by rw [hQk.2.2.1, hQk.2.2.2]; exact (fun s9 h9 => by unfold okf at h9; unfold m_sg at *; omega)) (by rw [hQk.1, hQk.2.1, hQk.2.2.1, hQk.2.2.2]; exact yH60)) ?_
                    rintro _ H73 ⟨(rfl | ⟨rfl, MH73, zH73, mH73, tH73⟩), hfH73⟩
                    · refine h_rng (fun hrg76 => ?_)
                      have hf77 : fr [50, 51, 53, 76, 93, 97] [1847, 1852, 1853, 1855, 1856, 1873, 1874, 1878, 1884, 1886] H H73 := fr_t hf69 hfH73 (by decide) (by decide)
                      have hOSH73 : OS H H73 n := OS_fr hOSH60 hfH73 (by decide) (by decide) (by decide)
                      have hooH73 : (H73.1 1871) 0 = (o : Int) := (congrFun (hfH73.2.1 1871 (by decide) (by decide)) 0).trans hooH60
                      refine h_run 0 (pc' := 175) (l' := [(0, .inr (.inr 1826)), (1, .inl (kn : Int)), (2, .inl bk), (3, .inl (s : Int)), (4, .inl (q : Int)), (5, .inl wh), (6, .inl (o : Int)), (7, .inl (i10 : Int)), (8, .inl (a9 : Int)), (9, .inl (b9 : Int))]) (st' := [.inl 0]) rfl ?_
                      refine h_zeq (off := 7) (t := 182) rfl rfl (by decide) (fun _ => ?_) (fun c => absurd c (by decide))
                      refine h_run 3 (pc' := 187) (l' := [(0, .inr (.inr 1826)), (1, .inl (kn : Int)), (2, .inl bk), (3, .inl (s : Int)), (4, .inl (q : Int)), (5, .inl wh), (6, .inl (o : Int)), (7, .inl (i10 : Int)), (8, .inl (a9 : Int)), (9, .inl (b9 : Int)), (10, .inl 0)]) (st' := [.inl 0]) rfl ?_
                      refine h_zne (off := 8) (t := 195) rfl rfl (by decide) (fun c => absurd c (by decide)) (fun _ => ?_)
                      refine h_run 2 (pc' := 214) (l' := [(0, .inr (.inr 1826)), (1, .inl (kn : Int)), (2, .inl bk), (3, .inl (s : Int)), (4, .inl (q : Int)), (5, .inl wh), (6, .inl (o : Int)), (7, .inl (i10 : Int)), (8, .inl (a9 : Int)), (9, .inl (b9 : Int)), (10, .inl 0)]) (st' := [.inl (-104)]) rfl ?_
                      refine h_reti (x := (-104)) rfl rfl ?_
                      have g78 : -2147483648 ≤ (H73.1 1826 97) ∧ (H73.1 1826 97) ≤ 2147483647 := hrg76.1 1826 13 97 _ .int rfl rfl
                      have e79 : (H73.1 1826 97) = (H60.1 1826 97) := hfH73.2.2 97 (by decide)
                      have e80 : (H60.1 1826 97) = (H6.1 1826 97) := hfH60.2.2 97 (by decide)
                      exact ⟨hf77, (show (H73.1 1826 97) = -1 by omega), hOSH73, _, rfl, ⟨by omega, by omega⟩, Or.inr (by show (H73.1 1874) = (H.1 1874); rw [show (H73.1 1874) = (H60.1 1874) from hfH73.2.1 1874 (by decide) (by decide), show (H60.1 1874) = (H6.1 1874) from hfH60.2.1 1874 (by decide) (by decide), show (H6.1 1874) = (H.1 1874) from hfH6.2.1 1874 (by decide) (by decide)])⟩
                    · refine h_rng (fun hrg81 => ?_)
                      have hf82 : fr [50, 51, 53, 76, 93, 97] [1847, 1852, 1853, 1855, 1856, 1873, 1874, 1878, 1884, 1886] H H73 := fr_t hf69 hfH73 (by decide) (by decide)
                      have hOSH73 : OS H H73 n := OS_fr hOSH60 hfH73 (by decide) (by decide) (by decide)
                      have hooH73 : (H73.1 1871) 0 = (o : Int) := (congrFun (hfH73.2.1 1871 (by decide) (by decide)) 0).trans hooH60
                      have tdH73 : tm (ma (H.1 1833) (H.1 1830)) (m_sg (H.1 1826 3) (H.1 1826 8) 60) (H73.1 1856) MH73 0 1 := by have h9 := tH73; rw [hQk.1, hQk.2.1, hQk.2.2.1, hQk.2.2.2] at h9; exact h9
                      refine h_run 0 (pc' := 175) (l' := [(0, .inr (.inr 1826)), (1, .inl (kn : Int)), (2, .inl bk), (3, .inl (s : Int)), (4, .inl (q : Int)), (5, .inl wh), (6, .inl (o : Int)), (7, .inl (i10 : Int)), (8, .inl (a9 : Int)), (9, .inl (b9 : Int))]) (st' := [.inl 1]) rfl ?_
                      refine h_zeq (off := 7) (t := 182) rfl rfl (by decide) (fun c => absurd c (by decide)) (fun _ => ?_)
                      refine h_run 4 (pc' := 187) (l' := [(0, .inr (.inr 1826)), (1, .inl (kn : Int)), (2, .inl bk), (3, .inl (s : Int)), (4, .inl (q : Int)), (5, .inl wh), (6, .inl (o : Int)), (7, .inl (i10 : Int)), (8, .inl (a9 : Int)), (9, .inl (b9 : Int)), (10, .inl 1)]) (st' := [.inl 1]) rfl ?_
                      refine h_zne (off := 8) (t := 195) rfl rfl (by decide) (fun _ => ?_) (fun c => absurd c (by decide))
                      refine h_run 3 (pc' := 199) (l' := [(0, .inr (.inr 1826)), (1, .inl (kn : Int)), (2, .inl bk), (3, .inl (s : Int)), (4, .inl (q : Int)), (5, .inl wh), (6, .inl (o : Int)), (7, .inl (i10 : Int)), (8, .inl (a9 : Int)), (9, .inl (b9 : Int)), (10, .inl 1)]) (st' := [.inl (s : Int), .inl (o : Int), .inr (.inr 1826)]) rfl ?_
                      refine h_cv (i := 575) (j := 229) (b := 1826) (M' := mt_229) (xs := [.inl (s : Int), .inl (o : Int)]) (rest := []) rfl rfl rfl rfl rfl rfl (Nat.le_of_ble_eq_true rfl) (Nat.le_of_ble_eq_true rfl) (by omega) (m_isKept (M := MH73) (by omega) (by omega) ⟨zH73, mH73⟩) ?_
                      rintro _ H83 (⟨rfl, hxH83, rfl⟩ | ⟨rfl, hlH83, hfH83, hzH83, hcH83, hoH83⟩)
                      · refine h_run 0 (pc' := 202) (l' := [(0, .inr (.inr 1826)), (1, .inl (kn : Int)), (2, .inl bk), (3, .inl (s : Int)), (4, .inl (q : Int)), (5, .inl wh), (6, .inl (o : Int)), (7, .inl (i10 : Int)), (8, .inl (a9 : Int)), (9, .inl (b9 : Int)), (10, .inl 1)]) (st' := [.inl 0]) rfl ?_
                        refine h_zeq (off := 10) (t := 212) rfl rfl (by decide) (fun _ => ?_) (fun c => absurd c (by decide))
                        refine h_run 1 (pc' := 214) (l' := [(0, .inr (.inr 1826)), (1, .inl (kn : Int)), (2, .inl bk), (3, .inl (s : Int)), (4, .inl (q : Int)), (5, .inl wh), (6, .inl (o : Int)), (7, .inl (i10 : Int)), (8, .inl (a9 : Int)), (9, .inl (b9 : Int)), (10, .inl 1)]) (st' := [.inl (-105)]) rfl ?_
                        refine h_reti (x := (-105)) rfl rfl ?_
                        have g84 : -2147483648 ≤ (H73.1 1826 97) ∧ (H73.1 1826 97) ≤ 2147483647 := hrg81.1 1826 13 97 _ .int rfl rfl
                        have e85 : (H73.1 1826 97) = (H60.1 1826 97) := hfH73.2.2 97 (by decide)
                        have e86 : (H60.1 1826 97) = (H6.1 1826 97) := hfH60.2.2 97 (by decide)
                        exact ⟨hf82, (show (H73.1 1826 97) = -1 by omega), hOSH73, _, rfl, ⟨by omega, by omega⟩, Or.inr (by show (H73.1 1874) = (H.1 1874); rw [show (H73.1 1874) = (H60.1 1874) from hfH73.2.1 1874 (by decide) (by decide), show (H60.1 1874) = (H6.1 1874) from hfH60.2.1 1874 (by decide) (by decide), show (H6.1 1874) = (H.1 1874) from hfH6.2.1 1874 (by decide) (by decide)])⟩
                      · refine h_rng (fun hrg87 => ?_)
                        have hf88 : fr [50, 51, 53, 76, 93, 97] [1847, 1852, 1853, 1855, 1856, 1873, 1874, 1878, 1884, 1886] H H83 := fr_t hf82 hfH83 (by decide) (by decide)
                        have hOSH83 : OS H H83 n := OS_side hOSH73 hooH73 hfH83 hs hlH83 hzH83 hcH83 hoH83 tdH73
                        have hooH83 : (H83.1 1871) 0 = (o : Int) := (congrFun (hfH83.2.1 1871 (by decide) (by decide)) 0).trans hooH73
                        refine h_run 0 (pc' := 202) (l' := [(0, .inr (.inr 1826)), (1, .inl (kn : Int)), (2, .inl bk), (3, .inl (s : Int)), (4, .inl (q : Int)), (5, .inl wh), (6, .inl (o : Int)), (7, .inl (i10 : Int)), (8, .inl (a9 : Int)), (9, .inl (b9 : Int)), (10, .inl 1)]) (st' := [.inl 1]) rfl ?_
                        refine h_zeq (off := 10) (t := 212) rfl rfl (by decide) (fun c => absurd c (by decide)) (fun _ => ?_)
                        refine h_run 1 (pc' := 206) (l' := [(0, .inr (.inr 1826)), (1, .inl (kn : Int)), (2, .inl bk), (3, .inl (s : Int)), (4, .inl (q : Int)), (5, .inl wh), (6, .inl (o : Int)), (7, .inl (i10 : Int)), (8, .inl (a9 : Int)), (9, .inl (b9 : Int)), (10, .inl 1)]) (st' := [.inr (.inr 1826)]) rfl ?_
                        refine h_cv (i := 556) (j := 232) (b := 1826) (M' := mt_232) (xs := []) (rest := []) rfl rfl rfl rfl rfl rfl (Nat.le_of_ble_eq_true rfl) (Nat.le_of_ble_eq_true rfl) (by omega) (m_did (n := n) (by omega) hOSH83.1.1 (fun q9 => absurd q9 (by omega)) (by rw [show (H83.1 1871) 0 = (o : Int) from hooH83]; omega)) ?_
                        rintro _ H89 ⟨rfl, hfH89⟩
                        refine h_rng (fun hrg90 => ?_)
                        have hf91 : fr [50, 51, 53, 76, 93, 97] [1847, 1852, 1853, 1855, 1856, 1873, 1874, 1878, 1884, 1886] H H89 := fr_t hf88 hfH89 (by decide) (by decide)
                        have hOSH89 : OS H H89 n := OS_fr hOSH83 hfH89 (by decide) (by decide) (by decide)
                        have hooH89 : (H89.1 1871) 0 = (o : Int) := (congrFun (hfH89.2.1 1871 (by decide) (by decide)) 0).trans hooH83
                        refine h_run 0 (pc' := 209) (l' := [(0, .inr (.inr 1826)), (1, .inl (kn : Int)), (2, .inl bk), (3, .inl (s : Int)), (4, .inl (q : Int)), (5, .inl wh), (6, .inl (o : Int)), (7, .inl (i10 : Int)), (8, .inl (a9 : Int)), (9, .inl (b9 : Int)), (10, .inl 1)]) (st' := [.inl (n : Int)]) rfl ?_
                        refine h_run 1 (pc' := 214) (l' := [(0, .inr (.inr 1826)), (1, .inl (kn : Int)), (2, .inl bk), (3, .inl (s : Int)), (4, .inl (q : Int)), (5, .inl wh), (6, .inl (o : Int)), (7, .inl (i10 : Int)), (8, .inl (a9 : Int)), (9, .inl (b9 : Int)), (10, .inl 1)]) (st' := [.inl (n : Int)]) rfl ?_
                        refine h_reti (x := (n : Int)) rfl rfl ?_
                        have g92 : -2147483648 ≤ (H89.1 1826 97) ∧ (H89.1 1826 97) ≤ 2147483647 := hrg90.1 1826 13 97 _ .int rfl rfl
                        have e93 : (H89.1 1826 97) = (H83.1 1826 97) := hfH89.2.2 97 (by decide)
                        have e94 : (H83.1 1826 97) = (H73.1 1826 97) := hfH83.2.2 97 (by decide)
                        have e95 : (H73.1 1826 97) = (H60.1 1826 97) := hfH73.2.2 97 (by decide)
                        have e96 : (H60.1 1826 97) = (H6.1 1826 97) := hfH60.2.2 97 (by decide)
                        exact ⟨hf91, (show (H89.1 1826 97) = -1 by omega), hOSH89, _, rfl, ⟨by omega, by omega⟩, Or.inl (by omega)⟩
              · exfalso
                omega
            · refine h_run 3 (pc' := 80) (l' := [(0, .inr (.inr 1826)), (1, .inl (kn : Int)), (2, .inl bk), (3, .inl (s : Int)), (4, .inl (q : Int)), (5, .inl wh), (6, .inl (o : Int)), (7, .inl (i10 : Int))]) (st' := [.inl ((2 * ((8 * (o : Int)) + (kn : Int))) + 1)]) rfl ?_
              obtain ⟨a9, ha9⟩ : ∃ x9 : Nat, x9 = 16 * o + (2 * kn + 1) := ⟨_, rfl⟩
              rw [show ((2 * ((8 * (o : Int)) + (kn : Int))) + 1) = ((a9 : Nat) : Int) from (by omega)]
              refine h_run 9 (pc' := 92) (l' := [(0, .inr (.inr 1826)), (1, .inl (kn : Int)), (2, .inl bk), (3, .inl (s : Int)), (4, .inl (q : Int)), (5, .inl wh), (6, .inl (o : Int)), (7, .inl (i10 : Int)), (8, .inl (a9 : Int))]) (st' := [.inl bk, .inl (2 * ((8 * (o : Int)) + (kn : Int)))]) rfl ?_
              refine h_zeq (off := 7) (t := 99) rfl rfl (by omega) (fun c97 => ?_) (fun c97 => ?_)
              · exfalso
                omega
              · refine h_run 3 (pc' := 101) (l' := [(0, .inr (.inr 1826)), (1, .inl (kn : Int)), (2, .inl bk), (3, .inl (s : Int)), (4, .inl (q : Int)), (5, .inl wh), (6, .inl (o : Int)), (7, .inl (i10 : Int)), (8, .inl (a9 : Int))]) (st' := [.inl ((2 * ((8 * (o : Int)) + (kn : Int))) + 0)]) rfl ?_
                obtain ⟨b9, hb9⟩ : ∃ x9 : Nat, x9 = 16 * o + (2 * kn + 0) := ⟨_, rfl⟩
                rw [show ((2 * ((8 * (o : Int)) + (kn : Int))) + 0) = ((b9 : Nat) : Int) from (by omega)]
                refine h_run 10 (pc' := 119) (l' := [(0, .inr (.inr 1826)), (1, .inl (kn : Int)), (2, .inl bk), (3, .inl (s : Int)), (4, .inl (q : Int)), (5, .inl wh), (6, .inl (o : Int)), (7, .inl (i10 : Int)), (8, .inl (a9 : Int)), (9, .inl (b9 : Int))]) (st' := [.inl (a9 : Int), .inr (.inr 1881), .inl (64 * (a9 : Int)), .inr (.inr 1880), .inr (.inr 1826)]) rfl ?_
                refine h_ild (c := 1881) (j := a9) (i := (a9 : Int)) rfl rfl (by decide) rfl (by omega) ?_
                have g98 : -2147483648 ≤ (H6.1 1881 a9) ∧ (H6.1 1881 a9) ≤ 2147483647 := hrg7.2 1881 a9 640 .int rfl (by omega)
                have e99 : (H6.1 1881 a9) = (H.1 1881 a9) := congrFun (hfH6.2.1 1881 (by decide) (by decide)) a9
                refine h_run 0 (pc' := 120) (l' := [(0, .inr (.inr 1826)), (1, .inl (kn : Int)), (2, .inl bk), (3, .inl (s : Int)), (4, .inl (q : Int)), (5, .inl wh), (6, .inl (o : Int)), (7, .inl (i10 : Int)), (8, .inl (a9 : Int)), (9, .inl (b9 : Int))]) (st' := [.inl (H6.1 1881 a9), .inl (64 * (a9 : Int)), .inr (.inr 1880), .inr (.inr 1826)]) rfl ?_
                have hsza9 : (H6.1 1881) a9 = (k1 : Int) := by rw [show (H6.1 1881) = (H.1 1881) from hfH6.2.1 1881 (by decide) (by decide), ha9]; exact k11
                rw [show (H6.1 1881 a9) = (k1 : Int) by omega]
                refine h_run 5 (pc' := 131) (l' := [(0, .inr (.inr 1826)), (1, .inl (kn : Int)), (2, .inl bk), (3, .inl (s : Int)), (4, .inl (q : Int)), (5, .inl wh), (6, .inl (o : Int)), (7, .inl (i10 : Int)), (8, .inl (a9 : Int)), (9, .inl (b9 : Int))]) (st' := [.inl (o : Int), .inr (.inr 1875), .inl (i10 : Int), .inl 2000, .inl (k1 : Int), .inl (64 * (a9 : Int)), .inr (.inr 1880), .inr (.inr 1826)]) rfl ?_
                refine h_ild (c := 1875) (j := o) (i := (o : Int)) rfl rfl (by decide) rfl (by omega) ?_
                have g100 : -2147483648 ≤ (H6.1 1875 o) ∧ (H6.1 1875 o) ≤ 2147483647 := hrg7.2 1875 o 40 .int rfl (by omega)
                have e101 : (H6.1 1875 o) = (H.1 1875 o) := congrFun (hfH6.2.1 1875 (by decide) (by decide)) o
                refine h_run 0 (pc' := 132) (l' := [(0, .inr (.inr 1826)), (1, .inl (kn : Int)), (2, .inl bk), (3, .inl (s : Int)), (4, .inl (q : Int)), (5, .inl wh), (6, .inl (o : Int)), (7, .inl (i10 : Int)), (8, .inl (a9 : Int)), (9, .inl (b9 : Int))]) (st' := [.inl (H6.1 1875 o), .inl (i10 : Int), .inl 2000, .inl (k1 : Int), .inl (64 * (a9 : Int)), .inr (.inr 1880), .inr (.inr 1826)]) rfl ?_
                refine h_run 2 (pc' := 136) (l' := [(0, .inr (.inr 1826)), (1, .inl (kn : Int)), (2, .inl bk), (3, .inl (s : Int)), (4, .inl (q : Int)), (5, .inl wh), (6, .inl (o : Int)), (7, .inl (i10 : Int)), (8, .inl (a9 : Int)), (9, .inl (b9 : Int))]) (st' := [.inl (H6.1 1826 75), .inl (H6.1 1875 o), .inl (i10 : Int), .inl 2000, .inl (k1 : Int), .inl (64 * (a9 : Int)), .inr (.inr 1880), .inr (.inr 1826)]) rfl ?_
                have g102 : 0 ≤ (H6.1 1826 75) ∧ (H6.1 1826 75) ≤ 1 := hrg7.1 1826 13 75 _ .boolean rfl rfl
                have e103 : (H6.1 1826 75) = (H.1 1826 75) := hfH6.2.2 75 (by decide)
                refine h_zeq (off := 7) (t := 143) rfl rfl (by omega) (fun c104 => ?_) (fun c104 => ?_)
                · refine h_run 1 (pc' := 144) (l' := [(0, .inr (.inr 1826)), (1, .inl (kn : Int)), (2, .inl bk), (3, .inl (s : Int)), (4, .inl (q : Int)), (5, .inl wh), (6, .inl (o : Int)), (7, .inl (i10 : Int)), (8, .inl (a9 : Int)), (9, .inl (b9 : Int))]) (st' := [.inl 2, .inl (H6.1 1875 o), .inl (i10 : Int), .inl 2000, .inl (k1 : Int), .inl (64 * (a9 : Int)), .inr (.inr 1880), .inr (.inr 1826)]) rfl ?_
                  have g106 : -2147483648 ≤ (H6.1 1826 93) ∧ (H6.1 1826 93) ≤ 2147483647 := hrg7.1 1826 13 93 _ .int rfl rfl
                  have g107 : -2147483648 ≤ (H6.1 1826 97) ∧ (H6.1 1826 97) ≤ 2147483647 := hrg7.1 1826 13 97 _ .int rfl rfl
                  have e108 : (H6.1 1826 97) = (H.1 1826 97) := hfH6.2.2 97 (by decide)
                  have hQl : sP H H6 := sP_fr (sP_rf H) hf8 (by decide) (by decide)
                  have hPl : PWc H6 := PWc_fr hP hf8 (by decide) (by decide)
                  refine h_cv (i := 593) (j := 239) (b := 1826) (M' := mt_239) (xs := [.inl 2, .inl (H6.1 1875 o), .inl (i10 : Int), .inl 2000, .inl (k1 : Int), .inl (64 * (a9 : Int)), .inr (.inr 1880)]) (rest := []) rfl rfl rfl rfl rfl rfl (Nat.le_of_ble_eq_true rfl) (Nat.le_of_ble_eq_true rfl) (by omega) (m_isLike (p := (64 * a9)) (ln := k1) (N := N) (k := ki) (V := 60) (okp := (okf H)) (by omega) rfl (by decide) (by decide) hPl (by rw [hQl.1, hQl.2.1, hQl.2.2.1, hQl.2.2.2]; exact hTn) ⟨by omega, (show (H6.1 1826 93) = (N : Int) by omega)⟩ (by rw [hQl.1, hQl.2.1, hQl.2.2.1, hQl.2.2.2]; exact hTi) (by omega) (by rw [hQl.1, hQl.2.1]; exact (by show tm _ _ (H6.1 1880) _ _ 1; rw [show (H6.1 1880) = (H.1 1880) from hfH6.2.1 1880 (by decide) (by decide), ha9]; exact k13)) (show 64 * a9 + k1 ≤ 40960 ∧ k1 ≤ 60 by omega) (by omega) (Or.inl (show (H6.1 1826 97) = -1 ∧ 60 ≤ 60 by omega)) (fun s9 h9 => by unfold okf m_sg at h9; omega) (by omega)) ?_
                  rintro _ H105 ⟨(rfl | ⟨rfl, xH105⟩), hfH105⟩
                  · refine h_rng (fun hrg109 => ?_)
                    have hf110 : fr [50, 51, 53, 76, 93, 97] [1847, 1852, 1853, 1855, 1856, 1873, 1874, 1878, 1884, 1886] H H105 := fr_t hf8 hfH105 (by decide) (by decide)
                    have hOSH105 : OS H H105 n := OS_fr hOSH6 hfH105 (by decide) (by decide) (by decide)
                    have hooH105 : (H105.1 1871) 0 = (o : Int) := (congrFun (hfH105.2.1 1871 (by decide) (by decide)) 0).trans hooH6
                    refine h_run 0 (pc' := 147) (l' := [(0, .inr (.inr 1826)), (1, .inl (kn : Int)), (2, .inl bk), (3, .inl (s : Int)), (4, .inl (q : Int)), (5, .inl wh), (6, .inl (o : Int)), (7, .inl (i10 : Int)), (8, .inl (a9 : Int)), (9, .inl (b9 : Int))]) (st' := [.inl 0]) rfl ?_
                    refine h_zeq (off := 35) (t := 182) rfl rfl (by decide) (fun _ => ?_) (fun c => absurd c (by decide))
                    refine h_run 3 (pc' := 187) (l' := [(0, .inr (.inr 1826)), (1, .inl (kn : Int)), (2, .inl bk), (3, .inl (s : Int)), (4, .inl (q : Int)), (5, .inl wh), (6, .inl (o : Int)), (7, .inl (i10 : Int)), (8, .inl (a9 : Int)), (9, .inl (b9 : Int)), (10, .inl 0)]) (st' := [.inl 0]) rfl ?_
                    refine h_zne (off := 8) (t := 195) rfl rfl (by decide) (fun c => absurd c (by decide)) (fun _ => ?_)
                    refine h_run 2 (pc' := 214) (l' := [(0, .inr (.inr 1826)), (1, .inl (kn : Int)), (2, .inl bk), (3, .inl (s : Int)), (4, .inl (q : Int)), (5, .inl wh), (6, .inl (o : Int)), (7, .inl (i10 : Int)), (8, .inl (a9 : Int)), (9, .inl (b9 : Int)), (10, .inl 0)]) (st' := [.inl (-104)]) rfl ?_
                    refine h_reti (x := (-104)) rfl rfl ?_
                    have g111 : -2147483648 ≤ (H105.1 1826 97) ∧ (H105.1 1826 97) ≤ 2147483647 := hrg109.1 1826 13 97 _ .int rfl rfl
                    have e112 : (H105.1 1826 97) = (H6.1 1826 97) := hfH105.2.2 97 (by decide)
                    exact ⟨hf110, (show (H105.1 1826 97) = -1 by omega), hOSH105, _, rfl, ⟨by omega, by omega⟩, Or.inr (by show (H105.1 1874) = (H.1 1874); rw [show (H105.1 1874) = (H6.1 1874) from hfH105.2.1 1874 (by decide) (by decide), show (H6.1 1874) = (H.1 1874) from hfH6.2.1 1874 (by decide) (by decide)])⟩
                  · refine h_rng (fun hrg113 => ?_)
                    have hf114 : fr [50, 51, 53, 76, 93, 97] [1847, 1852, 1853, 1855, 1856, 1873, 1874, 1878, 1884, 1886] H H105 := fr_t hf8 hfH105 (by decide) (by decide)
                    have hOSH105 : OS H H105 n := OS_fr hOSH6 hfH105 (by decide) (by decide) (by decide)
                    have hooH105 : (H105.1 1871) 0 = (o : Int) := (congrFun (hfH105.2.1 1871 (by decide) (by decide)) 0).trans hooH6
                    have eNH105 : (H105.1 1884) = (H6.1 1884) := hfH105.2.1 1884 (by decide) (by decide)
                    have yH105 : fre (ma (H.1 1833) (H.1 1830)) (m_sg (H.1 1826 3) (H.1 1826 8) 60) (H105.1 1884) (H105.1 1886) N := by have h9 := xH105; rw [hQl.1, hQl.2.1, hQl.2.2.1, hQl.2.2.2] at h9; rw [eNH105]; exact h9
                    have hTnH105 : tm (ma (H.1 1833) (H.1 1830)) (m_sg (H.1 1826 3) (H.1 1826 8) 60) (H105.1 1884) N 0 1 := by rw [eNH105]; exact hTn
                    have hTiH105 : tm (ma (H.1 1833) (H.1 1830)) (m_sg (H.1 1826 3) (H.1 1826 8) 60) (H105.1 1884) ki i10 1 := by rw [eNH105]; exact hTi
                    refine h_run 0 (pc' := 147) (l' := [(0, .inr (.inr 1826)), (1, .inl (kn : Int)), (2, .inl bk), (3, .inl (s : Int)), (4, .inl (q : Int)), (5, .inl wh), (6, .inl (o : Int)), (7, .inl (i10 : Int)), (8, .inl (a9 : Int)), (9, .inl (b9 : Int))]) (st' := [.inl 1]) rfl ?_
                    refine h_zeq (off := 35) (t := 182) rfl rfl (by decide) (fun c => absurd c (by decide)) (fun _ => ?_)
                    refine h_run 9 (pc' := 166) (l' := [(0, .inr (.inr 1826)), (1, .inl (kn : Int)), (2, .inl bk), (3, .inl (s : Int)), (4, .inl (q : Int)), (5, .inl wh), (6, .inl (o : Int)), (7, .inl (i10 : Int)), (8, .inl (a9 : Int)), (9, .inl (b9 : Int))]) (st' := [.inl (b9 : Int), .inr (.inr 1881), .inl (64 * (b9 : Int)), .inr (.inr 1880), .inr (.inr 1826)]) rfl ?_
                    refine h_ild (c := 1881) (j := b9) (i := (b9 : Int)) rfl rfl (by decide) rfl (by omega) ?_
                    have g115 : -2147483648 ≤ (H105.1 1881 b9) ∧ (H105.1 1881 b9) ≤ 2147483647 := hrg113.2 1881 b9 640 .int rfl (by omega)
                    have e116 : (H105.1 1881 b9) = (H6.1 1881 b9) := congrFun (hfH105.2.1 1881 (by decide) (by decide)) b9
                    have e117 : (H6.1 1881 b9) = (H.1 1881 b9) := congrFun (hfH6.2.1 1881 (by decide) (by decide)) b9
                    refine h_run 0 (pc' := 167) (l' := [(0, .inr (.inr 1826)), (1, .inl (kn : Int)), (2, .inl bk), (3, .inl (s : Int)), (4, .inl (q : Int)), (5, .inl wh), (6, .inl (o : Int)), (7, .inl (i10 : Int)), (8, .inl (a9 : Int)), (9, .inl (b9 : Int))]) (st' := [.inl (H105.1 1881 b9), .inl (64 * (b9 : Int)), .inr (.inr 1880), .inr (.inr 1826)]) rfl ?_
                    have hszb9 : (H105.1 1881) b9 = (k0 : Int) := by rw [show (H105.1 1881) = (H6.1 1881) from hfH105.2.1 1881 (by decide) (by decide), show (H6.1 1881) = (H.1 1881) from hfH6.2.1 1881 (by decide) (by decide), hb9]; exact k01
                    rw [show (H105.1 1881 b9) = (k0 : Int) by omega]
                    refine h_run 2 (pc' := 172) (l' := [(0, .inr (.inr 1826)), (1, .inl (kn : Int)), (2, .inl bk), (3, .inl (s : Int)), (4, .inl (q : Int)), (5, .inl wh), (6, .inl (o : Int)), (7, .inl (i10 : Int)), (8, .inl (a9 : Int)), (9, .inl (b9 : Int))]) (st' := [.inl (i10 : Int), .inl 2000, .inl (k0 : Int), .inl (64 * (b9 : Int)), .inr (.inr 1880), .inr (.inr 1826)]) rfl ?_
                    have g119 : -2147483648 ≤ (H105.1 1826 93) ∧ (H105.1 1826 93) ≤ 2147483647 := hrg113.1 1826 13 93 _ .int rfl rfl
                    have e120 : (H105.1 1826 93) = (H6.1 1826 93) := hfH105.2.2 93 (by decide)
                    have hQk : sP H H105 := sP_fr (sP_rf H) hf114 (by decide) (by decide)
                    have hPk : PWc H105 := PWc_fr hP hf114 (by decide) (by decide)
                    refine h_cv (i := 597) (j := 242) (b := 1826) (M' := mt_242) (xs := [.inl (i10 : Int), .inl 2000, .inl (k0 : Int), .inl (64 * (b9 : Int)), .inr (.inr 1880)]) (rest := []) rfl rfl rfl rfl rfl rfl (Nat.le_of_ble_eq_true rfl) (Nat.le_of_ble_eq_true rfl) (by omega) (m_isMade (p := (64 * b9)) (ln := k0) (N := N) (k := ki) (okp := (okf H)) (by omega) rfl (by decide) (by decide) hPk (by rw [hQk.1, hQk.2.1, hQk.2.2.1, hQk.2.2.2]; exact hTnH105) ⟨by omega, (show (H105.1 1826 93) = (N : Int) by omega)⟩ (by rw [hQk.1, hQk.2.1, hQk.2.2.1, hQk.2.2.2]; exact hTiH105) (by omega) (by rw [hQk.1, hQk.2.1]; exact (by show tm _ _ (H105.1 1880) _ _ 1; rw [show (H105.1 1880) = (H6.1 1880) from hfH105.2.1 1880 (by decide) (by decide), show (H6.1 1880) = (H.1 1880) from hfH6.2.1 1880 (by decide) (by decide), hb9]; exact k03)) (show 64 * b9 + k0 ≤ 40960 ∧ k0 ≤ 60 by omega) (by omega) (by rw [hQk.2.2.1, hQk.2.2.2]; exact (fun s9 h9 => by unfold okf at h9; unfold m_sg at *; omega)) (by rw [hQk.1, hQk.2.1, hQk.2.2.1, hQk.2.2.2]; exact yH105)) ?_
                    rintro _ H118 ⟨(rfl | ⟨rfl, MH118, zH118, mH118, tH118⟩), hfH118⟩
                    · refine h_rng (fun hrg121 => ?_)
                      have hf122 : fr [50, 51, 53, 76, 93, 97] [1847, 1852, 1853, 1855, 1856, 1873, 1874, 1878, 1884, 1886] H H118 := fr_t hf114 hfH118 (by decide) (by decide)
                      have hOSH118 : OS H H118 n := OS_fr hOSH105 hfH118 (by decide) (by decide) (by decide)
                      have hooH118 : (H118.1 1871) 0 = (o : Int) := (congrFun (hfH118.2.1 1871 (by decide) (by decide)) 0).trans hooH105
                      refine h_run 0 (pc' := 175) (l' := [(0, .inr (.inr 1826)), (1, .inl (kn : Int)), (2, .inl bk), (3, .inl (s : Int)), (4, .inl (q : Int)), (5, .inl wh), (6, .inl (o : Int)), (7, .inl (i10 : Int)), (8, .inl (a9 : Int)), (9, .inl (b9 : Int))]) (st' := [.inl 0]) rfl ?_
                      refine h_zeq (off := 7) (t := 182) rfl rfl (by decide) (fun _ => ?_) (fun c => absurd c (by decide))
                      refine h_run 3 (pc' := 187) (l' := [(0, .inr (.inr 1826)), (1, .inl (kn : Int)), (2, .inl bk), (3, .inl (s : Int)), (4, .inl (q : Int)), (5, .inl wh), (6, .inl (o : Int)), (7, .inl (i10 : Int)), (8, .inl (a9 : Int)), (9, .inl (b9 : Int)), (10, .inl 0)]) (st' := [.inl 0]) rfl ?_
                      refine h_zne (off := 8) (t := 195) rfl rfl (by decide) (fun c => absurd c (by decide)) (fun _ => ?_)
                      refine h_run 2 (pc' := 214) (l' := [(0, .inr (.inr 1826)), (1, .inl (kn : Int)), (2, .inl bk), (3, .inl (s : Int)), (4, .inl (q : Int)), (5, .inl wh), (6, .inl (o : Int)), (7, .inl (i10 : Int)), (8, .inl (a9 : Int)), (9, .inl (b9 : Int)), (10, .inl 0)]) (st' := [.inl (-104)]) rfl ?_
                      refine h_reti (x := (-104)) rfl rfl ?_
                      have g123 : -2147483648 ≤ (H118.1 1826 97) ∧ (H118.1 1826 97) ≤ 2147483647 := hrg121.1 1826 13 97 _ .int rfl rfl
                      have e124 : (H118.1 1826 97) = (H105.1 1826 97) := hfH118.2.2 97 (by decide)
                      have e125 : (H105.1 1826 97) = (H6.1 1826 97) := hfH105.2.2 97 (by decide)
                      exact ⟨hf122, (show (H118.1 1826 97) = -1 by omega), hOSH118, _, rfl, ⟨by omega, by omega⟩, Or.inr (by show (H118.1 1874) = (H.1 1874); rw [show (H118.1 1874) = (H105.1 1874) from hfH118.2.1 1874 (by decide) (by decide), show (H105.1 1874) = (H6.1 1874) from hfH105.2.1 1874 (by decide) (by decide), show (H6.1 1874) = (H.1 1874) from hfH6.2.1 1874 (by decide) (by decide)])⟩
                    · refine h_rng (fun hrg126 => ?_)
                      have hf127 : fr [50, 51, 53, 76, 93, 97] [1847, 1852, 1853, 1855, 1856, 1873, 1874, 1878, 1884, 1886] H H118 := fr_t hf114 hfH118 (by decide) (by decide)
                      have hOSH118 : OS H H118 n := OS_fr hOSH105 hfH118 (by decide) (by decide) (by decide)
                      have hooH118 : (H118.1 1871) 0 = (o : Int) := (congrFun (hfH118.2.1 1871 (by decide) (by decide)) 0).trans hooH105
                      have tdH118 : tm (ma (H.1 1833) (H.1 1830)) (m_sg (H.1 1826 3) (H.1 1826 8) 60) (H118.1 1856) MH118 0 1 := by have h9 := tH118; rw [hQk.1, hQk.2.1, hQk.2.2.1, hQk.2.2.2] at h9; exact h9
                      refine h_run 0 (pc' := 175) (l' := [(0, .inr (.inr 1826)), (1, .inl (kn : Int)), (2, .inl bk), (3, .inl (s : Int)), (4, .inl (q : Int)), (5, .inl wh), (6, .inl (o : Int)), (7, .inl (i10 : Int)), (8, .inl (a9 : Int)), (9, .inl (b9 : Int))]) (st' := [.inl 1]) rfl ?_
                      refine h_zeq (off := 7) (t := 182) rfl rfl (by decide) (fun c => absurd c (by decide)) (fun _ => ?_)
                      refine h_run 4 (pc' := 187) (l' := [(0, .inr (.inr 1826)), (1, .inl (kn : Int)), (2, .inl bk), (3, .inl (s : Int)), (4, .inl (q : Int)), (5, .inl wh), (6, .inl (o : Int)), (7, .inl (i10 : Int)), (8, .inl (a9 : Int)), (9, .inl (b9 : Int)), (10, .inl 1)]) (st' := [.inl 1]) rfl ?_
                      refine h_zne (off := 8) (t := 195) rfl rfl (by decide) (fun _ => ?_) (fun c => absurd c (by decide))
                      refine h_run 3 (pc' := 199) (l' := [(0, .inr (.inr 1826)), (1, .inl (kn : Int)), (2, .inl bk), (3, .inl (s : Int)), (4, .inl (q : Int)), (5, .inl wh), (6, .inl (o : Int)), (7, .inl (i10 : Int)), (8, .inl (a9 : Int)), (9, .inl (b9 : Int)), (10, .inl 1)]) (st' := [.inl (s : Int), .inl (o : Int), .inr (.inr 1826)]) rfl ?_
                      refine h_cv (i := 575) (j := 229) (b := 1826) (M' := mt_229) (xs := [.inl (s : Int), .inl (o : Int)]) (rest := []) rfl rfl rfl rfl rfl rfl (Nat.le_of_ble_eq_true rfl) (Nat.le_of_ble_eq_true rfl) (by omega) (m_isKept (M := MH118) (by omega) (by omega) ⟨zH118, mH118⟩) ?_
                      rintro _ H128 (⟨rfl, hxH128, rfl⟩ | ⟨rfl, hlH128, hfH128, hzH128, hcH128, hoH128⟩)
                      · refine h_run 0 (pc' := 202) (l' := [(0, .inr (.inr 1826)), (1, .inl (kn : Int)), (2, .inl bk), (3, .inl (s : Int)), (4, .inl (q : Int)), (5, .inl wh), (6, .inl (o : Int)), (7, .inl (i10 : Int)), (8, .inl (a9 : Int)), (9, .inl (b9 : Int)), (10, .inl 1)]) (st' := [.inl 0]) rfl ?_
                        refine h_zeq (off := 10) (t := 212) rfl rfl (by decide) (fun _ => ?_) (fun c => absurd c (by decide))
                        refine h_run 1 (pc' := 214) (l' := [(0, .inr (.inr 1826)), (1, .inl (kn : Int)), (2, .inl bk), (3, .inl (s : Int)), (4, .inl (q : Int)), (5, .inl wh), (6, .inl (o : Int)), (7, .inl (i10 : Int)), (8, .inl (a9 : Int)), (9, .inl (b9 : Int)), (10, .inl 1)]) (st' := [.inl (-105)]) rfl ?_
                        refine h_reti (x := (-105)) rfl rfl ?_
                        have g129 : -2147483648 ≤ (H118.1 1826 97) ∧ (H118.1 1826 97) ≤ 2147483647 := hrg126.1 1826 13 97 _ .int rfl rfl
                        have e130 : (H118.1 1826 97) = (H105.1 1826 97) := hfH118.2.2 97 (by decide)
                        have e131 : (H105.1 1826 97) = (H6.1 1826 97) := hfH105.2.2 97 (by decide)
                        exact ⟨hf127, (show (H118.1 1826 97) = -1 by omega), hOSH118, _, rfl, ⟨by omega, by omega⟩, Or.inr (by show (H118.1 1874) = (H.1 1874); rw [show (H118.1 1874) = (H105.1 1874) from hfH118.2.1 1874 (by decide) (by decide), show (H105.1 1874) = (H6.1 1874) from hfH105.2.1 1874 (by decide) (by decide), show (H6.1 1874) = (H.1 1874) from hfH6.2.1 1874 (by decide) (by decide)])⟩
                      · refine h_rng (fun hrg132 => ?_)
                        have hf133 : fr [50, 51, 53, 76, 93, 97] [1847, 1852, 1853, 1855, 1856, 1873, 1874, 1878, 1884, 1886] H H128 := fr_t hf127 hfH128 (by decide) (by decide)
                        have hOSH128 : OS H H128 n := OS_side hOSH118 hooH118 hfH128 hs hlH128 hzH128 hcH128 hoH128 tdH118
                        have hooH128 : (H128.1 1871) 0 = (o : Int) := (congrFun (hfH128.2.1 1871 (by decide) (by decide)) 0).trans hooH118
                        refine h_run 0 (pc' := 202) (l' := [(0, .inr (.inr 1826)), (1, .inl (kn : Int)), (2, .inl bk), (3, .inl (s : Int)), (4, .inl (q : Int)), (5, .inl wh), (6, .inl (o : Int)), (7, .inl (i10 : Int)), (8, .inl (a9 : Int)), (9, .inl (b9 : Int)), (10, .inl 1)]) (st' := [.inl 1]) rfl ?_
                        refine h_zeq (off := 10) (t := 212) rfl rfl (by decide) (fun c => absurd c (by decide)) (fun _ => ?_)
                        refine h_run 1 (pc' := 206) (l' := [(0, .inr (.inr 1826)), (1, .inl (kn : Int)), (2, .inl bk), (3, .inl (s : Int)), (4, .inl (q : Int)), (5, .inl wh), (6, .inl (o : Int)), (7, .inl (i10 : Int)), (8, .inl (a9 : Int)), (9, .inl (b9 : Int)), (10, .inl 1)]) (st' := [.inr (.inr 1826)]) rfl ?_
                        refine h_cv (i := 556) (j := 232) (b := 1826) (M' := mt_232) (xs := []) (rest := []) rfl rfl rfl rfl rfl rfl (Nat.le_of_ble_eq_true rfl) (Nat.le_of_ble_eq_true rfl) (by omega) (m_did (n := n) (by omega) hOSH128.1.1 (fun q9 => absurd q9 (by omega)) (by rw [show (H128.1 1871) 0 = (o : Int) from hooH128]; omega)) ?_
                        rintro _ H134 ⟨rfl, hfH134⟩
                        refine h_rng (fun hrg135 => ?_)
                        have hf136 : fr [50, 51, 53, 76, 93, 97] [1847, 1852, 1853, 1855, 1856, 1873, 1874, 1878, 1884, 1886] H H134 := fr_t hf133 hfH134 (by decide) (by decide)
                        have hOSH134 : OS H H134 n := OS_fr hOSH128 hfH134 (by decide) (by decide) (by decide)
                        have hooH134 : (H134.1 1871) 0 = (o : Int) := (congrFun (hfH134.2.1 1871 (by decide) (by decide)) 0).trans hooH128
                        refine h_run 0 (pc' := 209) (l' := [(0, .inr (.inr 1826)), (1, .inl (kn : Int)), (2, .inl bk), (3, .inl (s : Int)), (4, .inl (q : Int)), (5, .inl wh), (6, .inl (o : Int)), (7, .inl (i10 : Int)), (8, .inl (a9 : Int)), (9, .inl (b9 : Int)), (10, .inl 1)]) (st' := [.inl (n : Int)]) rfl ?_
                        refine h_run 1 (pc' := 214) (l' := [(0, .inr (.inr 1826)), (1, .inl (kn : Int)), (2, .inl bk), (3, .inl (s : Int)), (4, .inl (q : Int)), (5, .inl wh), (6, .inl (o : Int)), (7, .inl (i10 : Int)), (8, .inl (a9 : Int)), (9, .inl (b9 : Int)), (10, .inl 1)]) (st' := [.inl (n : Int)]) rfl ?_
                        refine h_reti (x := (n : Int)) rfl rfl ?_
                        have g137 : -2147483648 ≤ (H134.1 1826 97) ∧ (H134.1 1826 97) ≤ 2147483647 := hrg135.1 1826 13 97 _ .int rfl rfl
                        have e138 : (H134.1 1826 97) = (H128.1 1826 97) := hfH134.2.2 97 (by decide)
                        have e139 : (H128.1 1826 97) = (H118.1 1826 97) := hfH128.2.2 97 (by decide)
                        have e140 : (H118.1 1826 97) = (H105.1 1826 97) := hfH118.2.2 97 (by decide)
                        have e141 : (H105.1 1826 97) = (H6.1 1826 97) := hfH105.2.2 97 (by decide)
                        exact ⟨hf136, (show (H134.1 1826 97) = -1 by omega), hOSH134, _, rfl, ⟨by omega, by omega⟩, Or.inl (by omega)⟩
                · refine h_run 2 (pc' := 144) (l' := [(0, .inr (.inr 1826)), (1, .inl (kn : Int)), (2, .inl bk), (3, .inl (s : Int)), (4, .inl (q : Int)), (5, .inl wh), (6, .inl (o : Int)), (7, .inl (i10 : Int)), (8, .inl (a9 : Int)), (9, .inl (b9 : Int))]) (st' := [.inl 0, .inl (H6.1 1875 o), .inl (i10 : Int), .inl 2000, .inl (k1 : Int), .inl (64 * (a9 : Int)), .inr (.inr 1880), .inr (.inr 1826)]) rfl ?_
                  have g143 : -2147483648 ≤ (H6.1 1826 93) ∧ (H6.1 1826 93) ≤ 2147483647 := hrg7.1 1826 13 93 _ .int rfl rfl
                  have g144 : -2147483648 ≤ (H6.1 1826 97) ∧ (H6.1 1826 97) ≤ 2147483647 := hrg7.1 1826 13 97 _ .int rfl rfl
                  have e145 : (H6.1 1826 97) = (H.1 1826 97) := hfH6.2.2 97 (by decide)
                  have hQl : sP H H6 := sP_fr (sP_rf H) hf8 (by decide) (by decide)
                  have hPl : PWc H6 := PWc_fr hP hf8 (by decide) (by decide)
                  refine h_cv (i := 593) (j := 239) (b := 1826) (M' := mt_239) (xs := [.inl 0, .inl (H6.1 1875 o), .inl (i10 : Int), .inl 2000, .inl (k1 : Int), .inl (64 * (a9 : Int)), .inr (.inr 1880)]) (rest := []) rfl rfl rfl rfl rfl rfl (Nat.le_of_ble_eq_true rfl) (Nat.le_of_ble_eq_true rfl) (by omega) (m_isLike (p := (64 * a9)) (ln := k1) (N := N) (k := ki) (V := 60) (okp := (okf H)) (by omega) rfl (by decide) (by decide) hPl (by rw [hQl.1, hQl.2.1, hQl.2.2.1, hQl.2.2.2]; exact hTn) ⟨by omega, (show (H6.1 1826 93) = (N : Int) by omega)⟩ (by rw [hQl.1, hQl.2.1, hQl.2.2.1, hQl.2.2.2]; exact hTi) (by omega) (by rw [hQl.1, hQl.2.1]; exact (by show tm _ _ (H6.1 1880) _ _ 1; rw [show (H6.1 1880) = (H.1 1880) from hfH6.2.1 1880 (by decide) (by decide), ha9]; exact k13)) (show 64 * a9 + k1 ≤ 40960 ∧ k1 ≤ 60 by omega) (by omega) (Or.inl (show (H6.1 1826 97) = -1 ∧ 60 ≤ 60 by omega)) (fun s9 h9 => by unfold okf m_sg at h9; omega) (by omega)) ?_
                  rintro _ H142 ⟨(rfl | ⟨rfl, xH142⟩), hfH142⟩
                  · refine h_rng (fun hrg146 => ?_)
                    have hf147 : fr [50, 51, 53, 76, 93, 97] [1847, 1852, 1853, 1855, 1856, 1873, 1874, 1878, 1884, 1886] H H142 := fr_t hf8 hfH142 (by decide) (by decide)
                    have hOSH142 : OS H H142 n := OS_fr hOSH6 hfH142 (by decide) (by decide) (by decide)
                    have hooH142 : (H142.1 1871) 0 = (o : Int) := (congrFun (hfH142.2.1 1871 (by decide) (by decide)) 0).trans hooH6
                    refine h_run 0 (pc' := 147) (l' := [(0, .inr (.inr 1826)), (1, .inl (kn : Int)), (2, .inl bk), (3, .inl (s : Int)), (4, .inl (q : Int)), (5, .inl wh), (6, .inl (o : Int)), (7, .inl (i10 : Int)), (8, .inl (a9 : Int)), (9, .inl (b9 : Int))]) (st' := [.inl 0]) rfl ?_
                    refine h_zeq (off := 35) (t := 182) rfl rfl (by decide) (fun _ => ?_) (fun c => absurd c (by decide))
                    refine h_run 3 (pc' := 187) (l' := [(0, .inr (.inr 1826)), (1, .inl (kn : Int)), (2, .inl bk), (3, .inl (s : Int)), (4, .inl (q : Int)), (5, .inl wh), (6, .inl (o : Int)), (7, .inl (i10 : Int)), (8, .inl (a9 : Int)), (9, .inl (b9 : Int)), (10, .inl 0)]) (st' := [.inl 0]) rfl ?_
                    refine h_zne (off := 8) (t := 195) rfl rfl (by decide) (fun c => absurd c (by decide)) (fun _ => ?_)
                    refine h_run 2 (pc' := 214) (l' := [(0, .inr (.inr 1826)), (1, .inl (kn : Int)), (2, .inl bk), (3, .inl (s : Int)), (4, .inl (q : Int)), (5, .inl wh), (6, .inl (o : Int)), (7, .inl (i10 : Int)), (8, .inl (a9 : Int)), (9, .inl (b9 : Int)), (10, .inl 0)]) (st' := [.inl (-104)]) rfl ?_
                    refine h_reti (x := (-104)) rfl rfl ?_
                    have g148 : -2147483648 ≤ (H142.1 1826 97) ∧ (H142.1 1826 97) ≤ 2147483647 := hrg146.1 1826 13 97 _ .int rfl rfl
                    have e149 : (H142.1 1826 97) = (H6.1 1826 97) := hfH142.2.2 97 (by decide)
                    exact ⟨hf147, (show (H142.1 1826 97) = -1 by omega), hOSH142, _, rfl, ⟨by omega, by omega⟩, Or.inr (by show (H142.1 1874) = (H.1 1874); rw [show (H142.1 1874) = (H6.1 1874) from hfH142.2.1 1874 (by decide) (by decide), show (H6.1 1874) = (H.1 1874) from hfH6.2.1 1874 (by decide) (by decide)])⟩
                  · refine h_rng (fun hrg150 => ?_)
                    have hf151 : fr [50, 51, 53, 76, 93, 97] [1847, 1852, 1853, 1855, 1856, 1873, 1874, 1878, 1884, 1886] H H142 := fr_t hf8 hfH142 (by decide) (by decide)
                    have hOSH142 : OS H H142 n := OS_fr hOSH6 hfH142 (by decide) (by decide) (by decide)
                    have hooH142 : (H142.1 1871) 0 = (o : Int) := (congrFun (hfH142.2.1 1871 (by decide) (by decide)) 0).trans hooH6
                    have eNH142 : (H142.1 1884) = (H6.1 1884) := hfH142.2.1 1884 (by decide) (by decide)
                    have yH142 : fre (ma (H.1 1833) (H.1 1830)) (m_sg (H.1 1826 3) (H.1 1826 8) 60) (H142.1 1884) (H142.1 1886) N := by have h9 := xH142; rw [hQl.1, hQl.2.1, hQl.2.2.1, hQl.2.2.2] at h9; rw [eNH142]; exact h9
                    have hTnH142 : tm (ma (H.1 1833) (H.1 1830)) (m_sg (H.1 1826 3) (H.1 1826 8) 60) (H142.1 1884) N 0 1 := by rw [eNH142]; exact hTn
                    have hTiH142 : tm (ma (H.1 1833) (H.1 1830)) (m_sg (H.1 1826 3) (H.1 1826 8) 60) (H142.1 1884) ki i10 1 := by rw [eNH142]; exact hTi
                    refine h_run 0 (pc' := 147) (l' := [(0, .inr (.inr 1826)), (1, .inl (kn : Int)), (2, .inl bk), (3, .inl (s : Int)), (4, .inl (q : Int)), (5, .inl wh), (6, .inl (o : Int)), (7, .inl (i10 : Int)), (8, .inl (a9 : Int)), (9, .inl (b9 : Int))]) (st' := [.inl 1]) rfl ?_
                    refine h_zeq (off := 35) (t := 182) rfl rfl (by decide) (fun c => absurd c (by decide)) (fun _ => ?_)
                    refine h_run 9 (pc' := 166) (l' := [(0, .inr (.inr 1826)), (1, .inl (kn : Int)), (2, .inl bk), (3, .inl (s : Int)), (4, .inl (q : Int)), (5, .inl wh), (6, .inl (o : Int)), (7, .inl (i10 : Int)), (8, .inl (a9 : Int)), (9, .inl (b9 : Int))]) (st' := [.inl (b9 : Int), .inr (.inr 1881), .inl (64 * (b9 : Int)), .inr (.inr 1880), .inr (.inr 1826)]) rfl ?_
                    refine h_ild (c := 1881) (j := b9) (i := (b9 : Int)) rfl rfl (by decide) rfl (by omega) ?_
                    have g152 : -2147483648 ≤ (H142.1 1881 b9) ∧ (H142.1 1881 b9) ≤ 2147483647 := hrg150.2 1881 b9 640 .int rfl (by omega)
                    have e153 : (H142.1 1881 b9) = (H6.1 1881 b9) := congrFun (hfH142.2.1 1881 (by decide) (by decide)) b9
                    have e154 : (H6.1 1881 b9) = (H.1 1881 b9) := congrFun (hfH6.2.1 1881 (by decide) (by decide)) b9
                    refine h_run 0 (pc' := 167) (l' := [(0, .inr (.inr 1826)), (1, .inl (kn : Int)), (2, .inl bk), (3, .inl (s : Int)), (4, .inl (q : Int)), (5, .inl wh), (6, .inl (o : Int)), (7, .inl (i10 : Int)), (8, .inl (a9 : Int)), (9, .inl (b9 : Int))]) (st' := [.inl (H142.1 1881 b9), .inl (64 * (b9 : Int)), .inr (.inr 1880), .inr (.inr 1826)]) rfl ?_
                    have hszb9 : (H142.1 1881) b9 = (k0 : Int) := by rw [show (H142.1 1881) = (H6.1 1881) from hfH142.2.1 1881 (by decide) (by decide), show (H6.1 1881) = (H.1 1881) from hfH6.2.1 1881 (by decide) (by decide), hb9]; exact k01
                    rw [show (H142.1 1881 b9) = (k0 : Int) by omega]
                    refine h_run 2 (pc' := 172) (l' := [(0, .inr (.inr 1826)), (1, .inl (kn : Int)), (2, .inl bk), (3, .inl (s : Int)), (4, .inl (q : Int)), (5, .inl wh), (6, .inl (o : Int)), (7, .inl (i10 : Int)), (8, .inl (a9 : Int)), (9, .inl (b9 : Int))]) (st' := [.inl (i10 : Int), .inl 2000, .inl (k0 : Int), .inl (64 * (b9 : Int)), .inr (.inr 1880), .inr (.inr 1826)]) rfl ?_
                    have g156 : -2147483648 ≤ (H142.1 1826 93) ∧ (H142.1 1826 93) ≤ 2147483647 := hrg150.1 1826 13 93 _ .int rfl rfl
                    have e157 : (H142.1 1826 93) = (H6.1 1826 93) := hfH142.2.2 93 (by decide)
                    have hQk : sP H H142 := sP_fr (sP_rf H) hf151 (by decide) (by decide)
                    have hPk : PWc H142 := PWc_fr hP hf151 (by decide) (by decide)
                    refine h_cv (i := 597) (j := 242) (b := 1826) (M' := mt_242) (xs := [.inl (i10 : Int), .inl 2000, .inl (k0 : Int), .inl (64 * (b9 : Int)), .inr (.inr 1880)]) (rest := []) rfl rfl rfl rfl rfl rfl (Nat.le_of_ble_eq_true rfl) (Nat.le_of_ble_eq_true rfl) (by omega) (m_isMade (p := (64 * b9)) (ln := k0) (N := N) (k := ki) (okp := (okf H)) (by omega) rfl (by decide) (by decide) hPk (by rw [hQk.1, hQk.2.1, hQk.2.2.1, hQk.2.2.2]; exact hTnH142) ⟨by omega, (show (H142.1 1826 93) = (N : Int) by omega)⟩ (by rw [hQk.1, hQk.2.1, hQk.2.2.1, hQk.2.2.2]; exact hTiH142) (by omega) (by rw [hQk.1, hQk.2.1]; exact (by show tm _ _ (H142.1 1880) _ _ 1; rw [show (H142.1 1880) = (H6.1 1880) from hfH142.2.1 1880 (by decide) (by decide), show (H6.1 1880) = (H.1 1880) from hfH6.2.1 1880 (by decide) (by decide), hb9]; exact k03)) (show 64 * b9 + k0 ≤ 40960 ∧ k0 ≤ 60 by omega) (by omega) (by rw [hQk.2.2.1, hQk.2.2.2]; exact (fun s9 h9 => by unfold okf at h9; unfold m_sg at *; omega)) (by rw [hQk.1, hQk.2.1, hQk.2.2.1, hQk.2.2.2]; exact yH142)) ?_
                    rintro _ H155 ⟨(rfl | ⟨rfl, MH155, zH155, mH155, tH155⟩), hfH155⟩
                    · refine h_rng (fun hrg158 => ?_)
                      have hf159 : fr [50, 51, 53, 76, 93, 97] [1847, 1852, 1853, 1855, 1856, 1873, 1874, 1878, 1884, 1886] H H155 := fr_t hf151 hfH155 (by decide) (by decide)
                      have hOSH155 : OS H H155 n := OS_fr hOSH142 hfH155 (by decide) (by decide) (by decide)
                      have hooH155 : (H155.1 1871) 0 = (o : Int) := (congrFun (hfH155.2.1 1871 (by decide) (by decide)) 0).trans hooH142
                      refine h_run 0 (pc' := 175) (l' := [(0, .inr (.inr 1826)), (1, .inl (kn : Int)), (2, .inl bk), (3, .inl (s : Int)), (4, .inl (q : Int)), (5, .inl wh), (6, .inl (o : Int)), (7, .inl (i10 : Int)), (8, .inl (a9 : Int)), (9, .inl (b9 : Int))]) (st' := [.inl 0]) rfl ?_
                      refine h_zeq (off := 7) (t := 182) rfl rfl (by decide) (fun _ => ?_) (fun c => absurd c (by decide))
                      refine h_run 3 (pc' := 187) (l' := [(0, .inr (.inr 1826)), (1, .inl (kn : Int)), (2, .inl bk), (3, .inl (s : Int)), (4, .inl (q : Int)), (5, .inl wh), (6, .inl (o : Int)), (7, .inl (i10 : Int)), (8, .inl (a9 : Int)), (9, .inl (b9 : Int)), (10, .inl 0)]) (st' := [.inl 0]) rfl ?_
                      refine h_zne (off := 8) (t := 195) rfl rfl (by decide) (fun c => absurd c (by decide)) (fun _ => ?_)
                      refine h_run 2 (pc' := 214) (l' := [(0, .inr (.inr 1826)), (1, .inl (kn : Int)), (2, .inl bk), (3, .inl (s : Int)), (4, .inl (q : Int)), (5, .inl wh), (6, .inl (o : Int)), (7, .inl (i10 : Int)), (8, .inl (a9 : Int)), (9, .inl (b9 : Int)), (10, .inl 0)]) (st' := [.inl (-104)]) rfl ?_
                      refine h_reti (x := (-104)) rfl rfl ?_
                      have g160 : -2147483648 ≤ (H155.1 1826 97) ∧ (H155.1 1826 97) ≤ 2147483647 := hrg158.1 1826 13 97 _ .int rfl rfl
                      have e161 : (H155.1 1826 97) = (H142.1 1826 97) := hfH155.2.2 97 (by decide)
                      have e162 : (H142.1 1826 97) = (H6.1 1826 97) := hfH142.2.2 97 (by decide)
                      exact ⟨hf159, (show (H155.1 1826 97) = -1 by omega), hOSH155, _, rfl, ⟨by omega, by omega⟩, Or.inr (by show (H155.1 1874) = (H.1 1874); rw [show (H155.1 1874) = (H142.1 1874) from hfH155.2.1 1874 (by decide) (by decide), show (H142.1 1874) = (H6.1 1874) from hfH142.2.1 1874 (by decide) (by decide), show (H6.1 1874) = (H.1 1874) from hfH6.2.1 1874 (by decide) (by decide)])⟩
                    · refine h_rng (fun hrg163 => ?_)
                      have hf164 : fr [50, 51, 53, 76, 93, 97] [1847, 1852, 1853, 1855, 1856, 1873, 1874, 1878, 1884, 1886] H H155 := fr_t hf151 hfH155 (by decide) (by decide)
                      have hOSH155 : OS H H155 n := OS_fr hOSH142 hfH155 (by decide) (by decide) (by decide)
                      have hooH155 : (H155.1 1871) 0 = (o : Int) := (congrFun (hfH155.2.1 1871 (by decide) (by decide)) 0).trans hooH142
                      have tdH155 : tm (ma (H.1 1833) (H.1 1830)) (m_sg (H.1 1826 3) (H.1 1826 8) 60) (H155.1 1856) MH155 0 1 := by have h9 := tH155; rw [hQk.1, hQk.2.1, hQk.2.2.1, hQk.2.2.2] at h9; exact h9
                      refine h_run 0 (pc' := 175) (l' := [(0, .inr (.inr 1826)), (1, .inl (kn : Int)), (2, .inl bk), (3, .inl (s : Int)), (4, .inl (q : Int)), (5, .inl wh), (6, .inl (o : Int)), (7, .inl (i10 : Int)), (8, .inl (a9 : Int)), (9, .inl (b9 : Int))]) (st' := [.inl 1]) rfl ?_
                      refine h_zeq (off := 7) (t := 182) rfl rfl (by decide) (fun c => absurd c (by decide)) (fun _ => ?_)
                      refine h_run 4 (pc' := 187) (l' := [(0, .inr (.inr 1826)), (1, .inl (kn : Int)), (2, .inl bk), (3, .inl (s : Int)), (4, .inl (q : Int)), (5, .inl wh), (6, .inl (o : Int)), (7, .inl (i10 : Int)), (8, .inl (a9 : Int)), (9, .inl (b9 : Int)), (10, .inl 1)]) (st' := [.inl 1]) rfl ?_
                      refine h_zne (off := 8) (t := 195) rfl rfl (by decide) (fun _ => ?_) (fun c => absurd c (by decide))
                      refine h_run 3 (pc' := 199) (l' := [(0, .inr (.inr 1826)), (1, .inl (kn : Int)), (2, .inl bk), (3, .inl (s : Int)), (4, .inl (q : Int)), (5, .inl wh), (6, .inl (o : Int)), (7, .inl (i10 : Int)), (8, .inl (a9 : Int)), (9, .inl (b9 : Int)), (10, .inl 1)]) (st' := [.inl (s : Int), .inl (o : Int), .inr (.inr 1826)]) rfl ?_
                      refine h_cv (i := 575) (j := 229) (b := 1826) (M' := mt_229) (xs := [.inl (s : Int), .inl (o : Int)]) (rest := []) rfl rfl rfl rfl rfl rfl (Nat.le_of_ble_eq_true rfl) (Nat.le_of_ble_eq_true rfl) (by omega) (m_isKept (M := MH155) (by omega) (by omega) ⟨zH155, mH155⟩) ?_
                      rintro _ H165 (⟨rfl, hxH165, rfl⟩ | ⟨rfl, hlH165, hfH165, hzH165, hcH165, hoH165⟩)
                      · refine h_run 0 (pc' := 202) (l' := [(0, .inr (.inr 1826)), (1, .inl (kn : Int)), (2, .inl bk), (3, .inl (s : Int)), (4, .inl (q : Int)), (5, .inl wh), (6, .inl (o : Int)), (7, .inl (i10 : Int)), (8, .inl (a9 : Int)), (9, .inl (b9 : Int)), (10, .inl 1)]) (st' := [.inl 0]) rfl ?_
                        refine h_zeq (off := 10) (t := 212) rfl rfl (by decide) (fun _ => ?_) (fun c => absurd c (by decide))
                        refine h_run 1 (pc' := 214) (l' := [(0, .inr (.inr 1826)), (1, .inl (kn : Int)), (2, .inl bk), (3, .inl (s : Int)), (4, .inl (q : Int)), (5, .inl wh), (6, .inl (o : Int)), (7, .inl (i10 : Int)), (8, .inl (a9 : Int)), (9, .inl (b9 : Int)), (10, .inl 1)]) (st' := [.inl (-105)]) rfl ?_
                        refine h_reti (x := (-105)) rfl rfl ?_
                        have g166 : -2147483648 ≤ (H155.1 1826 97) ∧ (H155.1 1826 97) ≤ 2147483647 := hrg163.1 1826 13 97 _ .int rfl rfl
                        have e167 : (H155.1 1826 97) = (H142.1 1826 97) := hfH155.2.2 97 (by decide)
                        have e168 : (H142.1 1826 97) = (H6.1 1826 97) := hfH142.2.2 97 (by decide)
                        exact ⟨hf164, (show (H155.1 1826 97) = -1 by omega), hOSH155, _, rfl, ⟨by omega, by omega⟩, Or.inr (by show (H155.1 1874) = (H.1 1874); rw [show (H155.1 1874) = (H142.1 1874) from hfH155.2.1 1874 (by decide) (by decide), show (H142.1 1874) = (H6.1 1874) from hfH142.2.1 1874 (by decide) (by decide), show (H6.1 1874) = (H.1 1874) from hfH6.2.1 1874 (by decide) (by decide)])⟩
                      · refine h_rng (fun hrg169 => ?_)
                        have hf170 : fr [50, 51, 53, 76, 93, 97] [1847, 1852, 1853, 1855, 1856, 1873, 1874, 1878, 1884, 1886] H H165 := fr_t hf164 hfH165 (by decide) (by decide)
                        have hOSH165 : OS H H165 n := OS_side hOSH155 hooH155 hfH165 hs hlH165 hzH165 hcH165 hoH165 tdH155
                        have hooH165 : (H165.1 1871) 0 = (o : Int) := (congrFun (hfH165.2.1 1871 (by decide) (by decide)) 0).trans hooH155
                        refine h_run 0 (pc' := 202) (l' := [(0, .inr (.inr 1826)), (1, .inl (kn : Int)), (2, .inl bk), (3, .inl (s : Int)), (4, .inl (q : Int)), (5, .inl wh), (6, .inl (o : Int)), (7, .inl (i10 : Int)), (8, .inl (a9 : Int)), (9, .inl (b9 : Int)), (10, .inl 1)]) (st' := [.inl 1]) rfl ?_
                        refine h_zeq (off := 10) (t := 212) rfl rfl (by decide) (fun c => absurd c (by decide)) (fun _ => ?_)
                        refine h_run 1 (pc' := 206) (l' := [(0, .inr (.inr 1826)), (1, .inl (kn : Int)), (2, .inl bk), (3, .inl (s : Int)), (4, .inl (q : Int)), (5, .inl wh), (6, .inl (o : Int)), (7, .inl (i10 : Int)), (8, .inl (a9 : Int)), (9, .inl (b9 : Int)), (10, .inl 1)]) (st' := [.inr (.inr 1826)]) rfl ?_
                        refine h_cv (i := 556) (j := 232) (b := 1826) (M' := mt_232) (xs := []) (rest := []) rfl rfl rfl rfl rfl rfl (Nat.le_of_ble_eq_true rfl) (Nat.le_of_ble_eq_true rfl) (by omega) (m_did (n := n) (by omega) hOSH165.1.1 (fun q9 => absurd q9 (by omega)) (by rw [show (H165.1 1871) 0 = (o : Int) from hooH165]; omega)) ?_
                        rintro _ H171 ⟨rfl, hfH171⟩
                        refine h_rng (fun hrg172 => ?_)
                        have hf173 : fr [50, 51, 53, 76, 93, 97] [1847, 1852, 1853, 1855, 1856, 1873, 1874, 1878, 1884, 1886] H H171 := fr_t hf170 hfH171 (by decide) (by decide)
                        have hOSH171 : OS H H171 n := OS_fr hOSH165 hfH171 (by decide) (by decide) (by decide)
                        have hooH171 : (H171.1 1871) 0 = (o : Int) := (congrFun (hfH171.2.1 1871 (by decide) (by decide)) 0).trans hooH165
                        refine h_run 0 (pc' := 209) (l' := [(0, .inr (.inr 1826)), (1, .inl (kn : Int)), (2, .inl bk), (3, .inl (s : Int)), (4, .inl (q : Int)), (5, .inl wh), (6, .inl (o : Int)), (7, .inl (i10 : Int)), (8, .inl (a9 : Int)), (9, .inl (b9 : Int)), (10, .inl 1)]) (st' := [.inl (n : Int)]) rfl ?_
                        refine h_run 1 (pc' := 214) (l' := [(0, .inr (.inr 1826)), (1, .inl (kn : Int)), (2, .inl bk), (3, .inl (s : Int)), (4, .inl (q : Int)), (5, .inl wh), (6, .inl (o : Int)), (7, .inl (i10 : Int)), (8, .inl (a9 : Int)), (9, .inl (b9 : Int)), (10, .inl 1)]) (st' := [.inl (n : Int)]) rfl ?_
                        refine h_reti (x := (n : Int)) rfl rfl ?_
                        have g174 : -2147483648 ≤ (H171.1 1826 97) ∧ (H171.1 1826 97) ≤ 2147483647 := hrg172.1 1826 13 97 _ .int rfl rfl
                        have e175 : (H171.1 1826 97) = (H165.1 1826 97) := hfH171.2.2 97 (by decide)
                        have e176 : (H165.1 1826 97) = (H155.1 1826 97) := hfH165.2.2 97 (by decide)
                        have e177 : (H155.1 1826 97) = (H142.1 1826 97) := hfH155.2.2 97 (by decide)
                        have e178 : (H142.1 1826 97) = (H6.1 1826 97) := hfH142.2.2 97 (by decide)
                        exact ⟨hf173, (show (H171.1 1826 97) = -1 by omega), hOSH171, _, rfl, ⟨by omega, by omega⟩, Or.inl (by omega)⟩
          · refine h_run 1 (pc' := 60) (l' := [(0, .inr (.inr 1826)), (1, .inl (kn : Int)), (2, .inl bk), (3, .inl (s : Int)), (4, .inl (q : Int)), (5, .inl wh), (6, .inl (o : Int)), (7, .inl (i10 : Int))]) (st' := [.inl (-104)]) rfl ?_
            refine h_reti (x := (-104)) rfl rfl ?_
            have g179 : -2147483648 ≤ (H6.1 1826 97) ∧ (H6.1 1826 97) ≤ 2147483647 := hrg7.1 1826 13 97 _ .int rfl rfl
            have e180 : (H6.1 1826 97) = (H.1 1826 97) := hfH6.2.2 97 (by decide)
            exact ⟨hf8, (show (H6.1 1826 97) = -1 by omega), hOSH6, _, rfl, ⟨by omega, by omega⟩, Or.inr (by show (H6.1 1874) = (H.1 1874); rw [show (H6.1 1874) = (H.1 1874) from hfH6.2.1 1874 (by decide) (by decide)])⟩
      · obtain ⟨wi, hwi⟩ : ∃ k9 : Nat, wh = (k9 : Int) := ⟨(wh).toNat, by omega⟩
        rw [show wh = (wi : Int) from hwi]
        refine h_run 5 (pc' := 55) (l' := [(0, .inr (.inr 1826)), (1, .inl (kn : Int)), (2, .inl bk), (3, .inl (s : Int)), (4, .inl (q : Int)), (5, .inl (wi : Int)), (6, .inl (o : Int)), (7, .inl (wi : Int))]) (st' := [.inl (-1), .inl (wi : Int)]) rfl ?_
        refine h_ine (off := 6) (t := 61) rfl rfl (by omega) (by decide) (fun c181 => ?_) (fun c181 => ?_)
        · obtain ⟨ki, hki, hTi⟩ := tm_sub hTn (p := wi) (by omega)
          have hki1 : 1 ≤ ki := tm_le hTi
          have hsi := tm_ok hTn wi (by omega)
          rw [Nat.zero_add] at hsi
          have hsi9 := hsi
          unfold m_sg at hsi9
          refine h_run 8 (pc' := 71) (l' := [(0, .inr (.inr 1826)), (1, .inl (kn : Int)), (2, .inl bk), (3, .inl (s : Int)), (4, .inl (q : Int)), (5, .inl (wi : Int)), (6, .inl (o : Int)), (7, .inl (wi : Int))]) (st' := [.inl bk, .inl (2 * ((8 * (o : Int)) + (kn : Int)))]) rfl ?_
          refine h_zeq (off := 7) (t := 78) rfl rfl (by omega) (fun c182 => ?_) (fun c182 => ?_)
          · refine h_run 2 (pc' := 80) (l' := [(0, .inr (.inr 1826)), (1, .inl (kn : Int)), (2, .inl bk), (3, .inl (s : Int)), (4, .inl (q : Int)), (5, .inl (wi : Int)), (6, .inl (o : Int)), (7, .inl (wi : Int))]) (st' := [.inl ((2 * ((8 * (o : Int)) + (kn : Int))) + 0)]) rfl ?_
            obtain ⟨a9, ha9⟩ : ∃ x9 : Nat, x9 = 16 * o + (2 * kn + 0) := ⟨_, rfl⟩
            rw [show ((2 * ((8 * (o : Int)) + (kn : Int))) + 0) = ((a9 : Nat) : Int) from (by omega)]
            refine h_run 9 (pc' := 92) (l' := [(0, .inr (.inr 1826)), (1, .inl (kn : Int)), (2, .inl bk), (3, .inl (s : Int)), (4, .inl (q : Int)), (5, .inl (wi : Int)), (6, .inl (o : Int)), (7, .inl (wi : Int)), (8, .inl (a9 : Int))]) (st' := [.inl bk, .inl (2 * ((8 * (o : Int)) + (kn : Int)))]) rfl ?_
            refine h_zeq (off := 7) (t := 99) rfl rfl (by omega) (fun c183 => ?_) (fun c183 => ?_)
            · refine h_run 2 (pc' := 101) (l' := [(0, .inr (.inr 1826)), (1, .inl (kn : Int)), (2, .inl bk), (3, .inl (s : Int)), (4, .inl (q : Int)), (5, .inl (wi : Int)), (6, .inl (o : Int)), (7, .inl (wi : Int)), (8, .inl (a9 : Int))]) (st' := [.inl ((2 * ((8 * (o : Int)) + (kn : Int))) + 1)]) rfl ?_
              obtain ⟨b9, hb9⟩ : ∃ x9 : Nat, x9 = 16 * o + (2 * kn + 1) := ⟨_, rfl⟩
              rw [show ((2 * ((8 * (o : Int)) + (kn : Int))) + 1) = ((b9 : Nat) : Int) from (by omega)]
              refine h_run 10 (pc' := 119) (l' := [(0, .inr (.inr 1826)), (1, .inl (kn : Int)), (2, .inl bk), (3, .inl (s : Int)), (4, .inl (q : Int)), (5, .inl (wi : Int)), (6, .inl (o : Int)), (7, .inl (wi : Int)), (8, .inl (a9 : Int)), (9, .inl (b9 : Int))]) (st' := [.inl (a9 : Int), .inr (.inr 1881), .inl (64 * (a9 : Int)), .inr (.inr 1880), .inr (.inr 1826)]) rfl ?_
              refine h_ild (c := 1881) (j := a9) (i := (a9 : Int)) rfl rfl (by decide) rfl (by omega) ?_
              have g184 : -2147483648 ≤ (H6.1 1881 a9) ∧ (H6.1 1881 a9) ≤ 2147483647 := hrg7.2 1881 a9 640 .int rfl (by omega)
              have e185 : (H6.1 1881 a9) = (H.1 1881 a9) := congrFun (hfH6.2.1 1881 (by decide) (by decide)) a9
              refine h_run 0 (pc' := 120) (l' := [(0, .inr (.inr 1826)), (1, .inl (kn : Int)), (2, .inl bk), (3, .inl (s : Int)), (4, .inl (q : Int)), (5, .inl (wi : Int)), (6, .inl (o : Int)), (7, .inl (wi : Int)), (8, .inl (a9 : Int)), (9, .inl (b9 : Int))]) (st' := [.inl (H6.1 1881 a9), .inl (64 * (a9 : Int)), .inr (.inr 1880), .inr (.inr 1826)]) rfl ?_
              have hsza9 : (H6.1 1881) a9 = (k0 : Int) := by rw [show (H6.1 1881) = (H.1 1881) from hfH6.2.1 1881 (by decide) (by decide), ha9]; exact k01
              rw [show (H6.1 1881 a9) = (k0 : Int) by omega]
              refine h_run 5 (pc' := 131) (l' := [(0, .inr (.inr 1826)), (1, .inl (kn : Int)), (2, .inl bk), (3, .inl (s : Int)), (4, .inl (q : Int)), (5, .inl (wi : Int)), (6, .inl (o : Int)), (7, .inl (wi : Int)), (8, .inl (a9 : Int)), (9, .inl (b9 : Int))]) (st' := [.inl (o : Int), .inr (.inr 1875), .inl (wi : Int), .inl 2000, .inl (k0 : Int), .inl (64 * (a9 : Int)), .inr (.inr 1880), .inr (.inr 1826)]) rfl ?_
              refine h_ild (c := 1875) (j := o) (i := (o : Int)) rfl rfl (by decide) rfl (by omega) ?_
              have g186 : -2147483648 ≤ (H6.1 1875 o) ∧ (H6.1 1875 o) ≤ 2147483647 := hrg7.2 1875 o 40 .int rfl (by omega)
              have e187 : (H6.1 1875 o) = (H.1 1875 o) := congrFun (hfH6.2.1 1875 (by decide) (by decide)) o
              refine h_run 0 (pc' := 132) (l' := [(0, .inr (.inr 1826)), (1, .inl (kn : Int)), (2, .inl bk), (3, .inl (s : Int)), (4, .inl (q : Int)), (5, .inl (wi : Int)), (6, .inl (o : Int)), (7, .inl (wi : Int)), (8, .inl (a9 : Int)), (9, .inl (b9 : Int))]) (st' := [.inl (H6.1 1875 o), .inl (wi : Int), .inl 2000, .inl (k0 : Int), .inl (64 * (a9 : Int)), .inr (.inr 1880), .inr (.inr 1826)]) rfl ?_
              refine h_run 2 (pc' := 136) (l' := [(0, .inr (.inr 1826)), (1, .inl (kn : Int)), (2, .inl bk), (3, .inl (s : Int)), (4, .inl (q : Int)), (5, .inl (wi : Int)), (6, .inl (o : Int)), (7, .inl (wi : Int)), (8, .inl (a9 : Int)), (9, .inl (b9 : Int))]) (st' := [.inl (H6.1 1826 75), .inl (H6.1 1875 o), .inl (wi : Int), .inl 2000, .inl (k0 : Int), .inl (64 * (a9 : Int)), .inr (.inr 1880), .inr (.inr 1826)]) rfl ?_
              have g188 : 0 ≤ (H6.1 1826 75) ∧ (H6.1 1826 75) ≤ 1 := hrg7.1 1826 13 75 _ .boolean rfl rfl
              have e189 : (H6.1 1826 75) = (H.1 1826 75) := hfH6.2.2 75 (by decide)
              refine h_zeq (off := 7) (t := 143) rfl rfl (by omega) (fun c190 => ?_) (fun c190 => ?_)
              · refine h_run 1 (pc' := 144) (l' := [(0, .inr (.inr 1826)), (1, .inl (kn : Int)), (2, .inl bk), (3, .inl (s : Int)), (4, .inl (q : Int)), (5, .inl (wi : Int)), (6, .inl (o : Int)), (7, .inl (wi : Int)), (8, .inl (a9 : Int)), (9, .inl (b9 : Int))]) (st' := [.inl 2, .inl (H6.1 1875 o), .inl (wi : Int), .inl 2000, .inl (k0 : Int), .inl (64 * (a9 : Int)), .inr (.inr 1880), .inr (.inr 1826)]) rfl ?_
                have g192 : -2147483648 ≤ (H6.1 1826 93) ∧ (H6.1 1826 93) ≤ 2147483647 := hrg7.1 1826 13 93 _ .int rfl rfl
                have g193 : -2147483648 ≤ (H6.1 1826 97) ∧ (H6.1 1826 97) ≤ 2147483647 := hrg7.1 1826 13 97 _ .int rfl rfl
                have e194 : (H6.1 1826 97) = (H.1 1826 97) := hfH6.2.2 97 (by decide)
                have hQl : sP H H6 := sP_fr (sP_rf H) hf8 (by decide) (by decide)
                have hPl : PWc H6 := PWc_fr hP hf8 (by decide) (by decide)
                refine h_cv (i := 593) (j := 239) (b := 1826) (M' := mt_239) (xs := [.inl 2, .inl (H6.1 1875 o), .inl (wi : Int), .inl 2000, .inl (k0 : Int), .inl (64 * (a9 : Int)), .inr (.inr 1880)]) (rest := []) rfl rfl rfl rfl rfl rfl (Nat.le_of_ble_eq_true rfl) (Nat.le_of_ble_eq_true rfl) (by omega) (m_isLike (p := (64 * a9)) (ln := k0) (N := N) (k := ki) (V := 60) (okp := (okf H)) (by omega) rfl (by decide) (by decide) hPl (by rw [hQl.1, hQl.2.1, hQl.2.2.1, hQl.2.2.2]; exact hTn) ⟨by omega, (show (H6.1 1826 93) = (N : Int) by omega)⟩ (by rw [hQl.1, hQl.2.1, hQl.2.2.1, hQl.2.2.2]; exact hTi) (by omega) (by rw [hQl.1, hQl.2.1]; exact (by show tm _ _ (H6.1 1880) _ _ 1; rw [show (H6.1 1880) = (H.1 1880) from hfH6.2.1 1880 (by decide) (by decide), ha9]; exact k03)) (show 64 * a9 + k0 ≤ 40960 ∧ k0 ≤ 60 by omega) (by omega) (Or.inl (show (H6.1 1826 97) = -1 ∧ 60 ≤ 60 by omega)) (fun s9 h9 => by unfold okf m_sg at h9; omega) (by omega)) ?_
                rintro _ H191 ⟨(rfl | ⟨rfl, xH191⟩), hfH191⟩
                · refine h_rng (fun hrg195 => ?_)
                  have hf196 : fr [50, 51, 53, 76, 93, 97] [1847, 1852, 1853, 1855, 1856, 1873, 1874, 1878, 1884, 1886] H H191 := fr_t hf8 hfH191 (by decide) (by decide)
                  have hOSH191 : OS H H191 n := OS_fr hOSH6 hfH191 (by decide) (by decide) (by decide)
                  have hooH191 : (H191.1 1871) 0 = (o : Int) := (congrFun (hfH191.2.1 1871 (by decide) (by decide)) 0).trans hooH6
                  refine h_run 0 (pc' := 147) (l' := [(0, .inr (.inr 1826)), (1, .inl (kn : Int)), (2, .inl bk), (3, .inl (s : Int)), (4, .inl (q : Int)), (5, .inl (wi : Int)), (6, .inl (o : Int)), (7, .inl (wi : Int)), (8, .inl (a9 : Int)), (9, .inl (b9 : Int))]) (st' := [.inl 0]) rfl ?_
                  refine h_zeq (off := 35) (t := 182) rfl rfl (by decide) (fun _ => ?_) (fun c => absurd c (by decide))
                  refine h_run 3 (pc' := 187) (l' := [(0, .inr (.inr 1826)), (1, .inl (kn : Int)), (2, .inl bk), (3, .inl (s : Int)), (4, .inl (q : Int)), (5, .inl (wi : Int)), (6, .inl (o : Int)), (7, .inl (wi : Int)), (8, .inl (a9 : Int)), (9, .inl (b9 : Int)), (10, .inl 0)]) (st' := [.inl 0]) rfl ?_
                  refine h_zne (off := 8) (t := 195) rfl rfl (by decide) (fun c => absurd c (by decide)) (fun _ => ?_)
                  refine h_run 2 (pc' := 214) (l' := [(0, .inr (.inr 1826)), (1, .inl (kn : Int)), (2, .inl bk), (3, .inl (s : Int)), (4, .inl (q : Int)), (5, .inl (wi : Int)), (6, .inl (o : Int)), (7, .inl (wi : Int)), (8, .inl (a9 : Int)), (9, .inl (b9 : Int)), (10, .inl 0)]) (st' := [.inl (-104)]) rfl ?_
                  refine h_reti (x := (-104)) rfl rfl ?_
                  have g197 : -2147483648 ≤ (H191.1 1826 97) ∧ (H191.1 1826 97) ≤ 2147483647 := hrg195.1 1826 13 97 _ .int rfl rfl
                  have e198 : (H191.1 1826 97) = (H6.1 1826 97) := hfH191.2.2 97 (by decide)
                  exact ⟨hf196, (show (H191.1 1826 97) = -1 by omega), hOSH191, _, rfl, ⟨by omega, by omega⟩, Or.inr (by show (H191.1 1874) = (H.1 1874); rw [show (H191.1 1874) = (H6.1 1874) from hfH191.2.1 1874 (by decide) (by decide), show (H6.1 1874) = (H.1 1874) from hfH6.2.1 1874 (by decide) (by decide)])⟩
                · refine h_rng (fun hrg199 => ?_)
                  have hf200 : fr [50, 51, 53, 76, 93, 97] [1847, 1852, 1853, 1855, 1856, 1873, 1874, 1878, 1884, 1886] H H191 := fr_t hf8 hfH191 (by decide) (by decide)
                  have hOSH191 : OS H H191 n := OS_fr hOSH6 hfH191 (by decide) (by decide) (by decide)
                  have hooH191 : (H191.1 1871) 0 = (o : Int) := (congrFun (hfH191.2.1 1871 (by decide) (by decide)) 0).trans hooH6
                  have eNH191 : (H191.1 1884) = (H6.1 1884) := hfH191.2.1 1884 (by decide) (by decide)
                  have yH191 : fre (ma (H.1 1833) (H.1 1830)) (m_sg (H.1 1826 3) (H.1 1826 8) 60) (H191.1 1884) (H191.1 1886) N := by have h9 := xH191; rw [hQl.1, hQl.2.1, hQl.2.2.1, hQl.2.2.2] at h9; rw [eNH191]; exact h9
                  have hTnH191 : tm (ma (H.1 1833) (H.1 1830)) (m_sg (H.1 1826 3) (H.1 1826 8) 60) (H191.1 1884) N 0 1 := by rw [eNH191]; exact hTn
                  have hTiH191 : tm (ma (H.1 1833) (H.1 1830)) (m_sg (H.1 1826 3) (H.1 1826 8) 60) (H191.1 1884) ki wi 1 := by rw [eNH191]; exact hTi
                  refine h_run 0 (pc' := 147) (l' := [(0, .inr (.inr 1826)), (1, .inl (kn : Int)), (2, .inl bk), (3, .inl (s : Int)), (4, .inl (q : Int)), (5, .inl (wi : Int)), (6, .inl (o : Int)), (7, .inl (wi : Int)), (8, .inl (a9 : Int)), (9, .inl (b9 : Int))]) (st' := [.inl 1]) rfl ?_
                  refine h_zeq (off := 35) (t := 182) rfl rfl (by decide) (fun c => absurd c (by decide)) (fun _ => ?_)
                  refine h_run 9 (pc' := 166) (l' := [(0, .inr (.inr 1826)), (1, .inl (kn : Int)), (2, .inl bk), (3, .inl (s : Int)), (4, .inl (q : Int)), (5, .inl (wi : Int)), (6, .inl (o : Int)), (7, .inl (wi : Int)), (8, .inl (a9 : Int)), (9, .inl (b9 : Int))]) (st' := [.inl (b9 : Int), .inr (.inr 1881), .inl (64 * (b9 : Int)), .inr (.inr 1880), .inr (.inr 1826)]) rfl ?_
                  refine h_ild (c := 1881) (j := b9) (i := (b9 : Int)) rfl rfl (by decide) rfl (by omega) ?_
                  have g201 : -2147483648 ≤ (H191.1 1881 b9) ∧ (H191.1 1881 b9) ≤ 2147483647 := hrg199.2 1881 b9 640 .int rfl (by omega)
                  have e202 : (H191.1 1881 b9) = (H6.1 1881 b9) := congrFun (hfH191.2.1 1881 (by decide) (by decide)) b9
                  have e203 : (H6.1 1881 b9) = (H.1 1881 b9) := congrFun (hfH6.2.1 1881 (by decide) (by decide)) b9
                  refine h_run 0 (pc' := 167) (l' := [(0, .inr (.inr 1826)), (1, .inl (kn : Int)), (2, .inl bk), (3, .inl (s : Int)), (4, .inl (q : Int)), (5, .inl (wi : Int)), (6, .inl (o : Int)), (7, .inl (wi : Int)), (8, .inl (a9 : Int)), (9, .inl (b9 : Int))]) (st' := [.inl (H191.1 1881 b9), .inl (64 * (b9 : Int)), .inr (.inr 1880), .inr (.inr 1826)]) rfl ?_
                  have hszb9 : (H191.1 1881) b9 = (k1 : Int) := by rw [show (H191.1 1881) = (H6.1 1881) from hfH191.2.1 1881 (by decide) (by decide), show (H6.1 1881) = (H.1 1881) from hfH6.2.1 1881 (by decide) (by decide), hb9]; exact k11
                  rw [show (H191.1 1881 b9) = (k1 : Int) by omega]
                  refine h_run 2 (pc' := 172) (l' := [(0, .inr (.inr 1826)), (1, .inl (kn : Int)), (2, .inl bk), (3, .inl (s : Int)), (4, .inl (q : Int)), (5, .inl (wi : Int)), (6, .inl (o : Int)), (7, .inl (wi : Int)), (8, .inl (a9 : Int)), (9, .inl (b9 : Int))]) (st' := [.inl (wi : Int), .inl 2000, .inl (k1 : Int), .inl (64 * (b9 : Int)), .inr (.inr 1880), .inr (.inr 1826)]) rfl ?_
                  have g205 : -2147483648 ≤ (H191.1 1826 93) ∧ (H191.1 1826 93) ≤ 2147483647 := hrg199.1 1826 13 93 _ .int rfl rfl
                  have e206 : (H191.1 1826 93) = (H6.1 1826 93) := hfH191.2.2 93 (by decide)
                  have hQk : sP H H191 := sP_fr (sP_rf H) hf200 (by decide) (by decide)
                  have hPk : PWc H191 := PWc_fr hP hf200 (by decide) (by decide)
                  refine h_cv (i := 597) (j := 242) (b := 1826) (M' := mt_242) (xs := [.inl (wi : Int), .inl 2000, .inl (k1 : Int), .inl (64 * (b9 : Int)), .inr (.inr 1880)]) (rest := []) rfl rfl rfl rfl rfl rfl (Nat.le_of_ble_eq_true rfl) (Nat.le_of_ble_eq_true rfl) (by omega) (m_isMade (p := (64 * b9)) (ln := k1) (N := N) (k := ki) (okp := (okf H)) (by omega) rfl (by decide) (by decide) hPk (by rw [hQk.1, hQk.2.1, hQk.2.2.1, hQk.2.2.2]; exact hTnH191) ⟨by omega, (show (H191.1 1826 93) = (N : Int) by omega)⟩ (by rw [hQk.1, hQk.2.1, hQk.2.2.1, hQk.2.2.2]; exact hTiH191) (by omega) (by rw [hQk.1, hQk.2.1]; exact (by show tm _ _ (H191.1 1880) _ _ 1; rw [show (H191.1 1880) = (H6.1 1880) from hfH191.2.1 1880 (by decide) (by decide), show (H6.1 1880) = (H.1 1880) from hfH6.2.1 1880 (by decide) (by decide), hb9]; exact k13)) (show 64 * b9 + k1 ≤ 40960 ∧ k1 ≤ 60 by omega) (by omega) (by rw [hQk.2.2.1, hQk.2.2.2]; exact (fun s9 h9 => by unfold okf at h9; unfold m_sg at *; omega)) (by rw [hQk.1, hQk.2.1, hQk.2.2.1, hQk.2.2.2]; exact yH191)) ?_
                  rintro _ H204 ⟨(rfl | ⟨rfl, MH204, zH204, mH204, tH204⟩), hfH204⟩
                  · refine h_rng (fun hrg207 => ?_)
                    have hf208 : fr [50, 51, 53, 76, 93, 97] [1847, 1852, 1853, 1855, 1856, 1873, 1874, 1878, 1884, 1886] H H204 := fr_t hf200 hfH204 (by decide) (by decide)
                    have hOSH204 : OS H H204 n := OS_fr hOSH191 hfH204 (by decide) (by decide) (by decide)
                    have hooH204 : (H204.1 1871) 0 = (o : Int) := (congrFun (hfH204.2.1 1871 (by decide) (by decide)) 0).trans hooH191
                    refine h_run 0 (pc' := 175) (l' := [(0, .inr (.inr 1826)), (1, .inl (kn : Int)), (2, .inl bk), (3, .inl (s : Int)), (4, .inl (q : Int)), (5, .inl (wi : Int)), (6, .inl (o : Int)), (7, .inl (wi : Int)), (8, .inl (a9 : Int)), (9, .inl (b9 : Int))]) (st' := [.inl 0]) rfl ?_
                    refine h_zeq (off := 7) (t := 182) rfl rfl (by decide) (fun _ => ?_) (fun c => absurd c (by decide))
                    refine h_run 3 (pc' := 187) (l' := [(0, .inr (.inr 1826)), (1, .inl (kn : Int)), (2, .inl bk), (3, .inl (s : Int)), (4, .inl (q : Int)), (5, .inl (wi : Int)), (6, .inl (o : Int)), (7, .inl (wi : Int)), (8, .inl (a9 : Int)), (9, .inl (b9 : Int)), (10, .inl 0)]) (st' := [.inl 0]) rfl ?_
                    refine h_zne (off := 8) (t := 195) rfl rfl (by decide) (fun c => absurd c (by decide)) (fun _ => ?_)
                    refine h_run 2 (pc' := 214) (l' := [(0, .inr (.inr 1826)), (1, .inl (kn : Int)), (2, .inl bk), (3, .inl (s : Int)), (4, .inl (q : Int)), (5, .inl (wi : Int)), (6, .inl (o : Int)), (7, .inl (wi : Int)), (8, .inl (a9 : Int)), (9, .inl (b9 : Int)), (10, .inl 0)]) (st' := [.inl (-104)]) rfl ?_
                    refine h_reti (x := (-104)) rfl rfl ?_
                    have g209 : -2147483648 ≤ (H204.1 1826 97) ∧ (H204.1 1826 97) ≤ 2147483647 := hrg207.1 1826 13 97 _ .int rfl rfl
                    have e210 : (H204.1 1826 97) = (H191.1 1826 97) := hfH204.2.2 97 (by decide)
                    have e211 : (H191.1 1826 97) = (H6.1 1826 97) := hfH191.2.2 97 (by decide)
                    exact ⟨hf208, (show (H204.1 1826 97) = -1 by omega), hOSH204, _, rfl, ⟨by omega, by omega⟩, Or.inr (by show (H204.1 1874) = (H.1 1874); rw [show (H204.1 1874) = (H191.1 1874) from hfH204.2.1 1874 (by decide) (by decide), show (H191.1 1874) = (H6.1 1874) from hfH191.2.1 1874 (by decide) (by decide), show (H6.1 1874) = (H.1 1874) from hfH6.2.1 1874 (by decide) (by decide)])⟩
                  · refine h_rng (fun hrg212 => ?_)
                    have hf213 : fr [50, 51, 53, 76, 93, 97] [1847, 1852, 1853, 1855, 1856, 1873, 1874, 1878, 1884, 1886] H H204 := fr_t hf200 hfH204 (by decide) (by decide)
                    have hOSH204 : OS H H204 n := OS_fr hOSH191 hfH204 (by decide) (by decide) (by decide)
                    have hooH204 : (H204.1 1871) 0 = (o : Int) := (congrFun (hfH204.2.1 1871 (by decide) (by decide)) 0).trans hooH191
                    have tdH204 : tm (ma (H.1 1833) (H.1 1830)) (m_sg (H.1 1826 3) (H.1 1826 8) 60) (H204.1 1856) MH204 0 1 := by have h9 := tH204; rw [hQk.1, hQk.2.1, hQk.2.2.1, hQk.2.2.2] at h9; exact h9
                    refine h_run 0 (pc' := 175) (l' := [(0, .inr (.inr 1826)), (1, .inl (kn : Int)), (2, .inl bk), (3, .inl (s : Int)), (4, .inl (q : Int)), (5, .inl (wi : Int)), (6, .inl (o : Int)), (7, .inl (wi : Int)), (8, .inl (a9 : Int)), (9, .inl (b9 : Int))]) (st' := [.inl 1]) rfl ?_
                    refine h_zeq (off := 7) (t := 182) rfl rfl (by decide) (fun c => absurd c (by decide)) (fun _ => ?_)
                    refine h_run 4 (pc' := 187) (l' := [(0, .inr (.inr 1826)), (1, .inl (kn : Int)), (2, .inl bk), (3, .inl (s : Int)), (4, .inl (q : Int)), (5, .inl (wi : Int)), (6, .inl (o : Int)), (7, .inl (wi : Int)), (8, .inl (a9 : Int)), (9, .inl (b9 : Int)), (10, .inl 1)]) (st' := [.inl 1]) rfl ?_
                    refine h_zne (off := 8) (t := 195) rfl rfl (by decide) (fun _ => ?_) (fun c => absurd c (by decide))
                    refine h_run 3 (pc' := 199) (l' := [(0, .inr (.inr 1826)), (1, .inl (kn : Int)), (2, .inl bk), (3, .inl (s : Int)), (4, .inl (q : Int)), (5, .inl (wi : Int)), (6, .inl (o : Int)), (7, .inl (wi : Int)), (8, .inl (a9 : Int)), (9, .inl (b9 : Int)), (10, .inl 1)]) (st' := [.inl (s : Int), .inl (o : Int), .inr (.inr 1826)]) rfl ?_
                    refine h_cv (i := 575) (j := 229) (b := 1826) (M' := mt_229) (xs := [.inl (s : Int), .inl (o : Int)]) (rest := []) rfl rfl rfl rfl rfl rfl (Nat.le_of_ble_eq_true rfl) (Nat.le_of_ble_eq_true rfl) (by omega) (m_isKept (M := MH204) (by omega) (by omega) ⟨zH204, mH204⟩) ?_
                    rintro _ H214 (⟨rfl, hxH214, rfl⟩ | ⟨rfl, hlH214, hfH214, hzH214, hcH214, hoH214⟩)
                    · refine h_run 0 (pc' := 202) (l' := [(0, .inr (.inr 1826)), (1, .inl (kn : Int)), (2, .inl bk), (3, .inl (s : Int)), (4, .inl (q : Int)), (5, .inl (wi : Int)), (6, .inl (o : Int)), (7, .inl (wi : Int)), (8, .inl (a9 : Int)), (9, .inl (b9 : Int)), (10, .inl 1)]) (st' := [.inl 0]) rfl ?_
                      refine h_zeq (off := 10) (t := 212) rfl rfl (by decide) (fun _ => ?_) (fun c => absurd c (by decide))
                      refine h_run 1 (pc' := 214) (l' := [(0, .inr (.inr 1826)), (1, .inl (kn : Int)), (2, .inl bk), (3, .inl (s : Int)), (4, .inl (q : Int)), (5, .inl (wi : Int)), (6, .inl (o : Int)), (7, .inl (wi : Int)), (8, .inl (a9 : Int)), (9, .inl (b9 : Int)), (10, .inl 1)]) (st' := [.inl (-105)]) rfl ?_
                      refine h_reti (x := (-105)) rfl rfl ?_
                      have g215 : -2147483648 ≤ (H204.1 1826 97) ∧ (H204.1 1826 97) ≤ 2147483647 := hrg212.1 1826 13 97 _ .int rfl rfl
                      have e216 : (H204.1 1826 97) = (H191.1 1826 97) := hfH204.2.2 97 (by decide)
                      have e217 : (H191.1 1826 97) = (H6.1 1826 97) := hfH191.2.2 97 (by decide)
                      exact ⟨hf213, (show (H204.1 1826 97) = -1 by omega), hOSH204, _, rfl, ⟨by omega, by omega⟩, Or.inr (by show (H204.1 1874) = (H.1 1874); rw [show (H204.1 1874) = (H191.1 1874) from hfH204.2.1 1874 (by decide) (by decide), show (H191.1 1874) = (H6.1 1874) from hfH191.2.1 1874 (by decide) (by decide), show (H6.1 1874) = (H.1 1874) from hfH6.2.1 1874 (by decide) (by decide)])⟩
                    · refine h_rng (fun hrg218 => ?_)
                      have hf219 : fr [50, 51, 53, 76, 93, 97] [1847, 1852, 1853, 1855, 1856, 1873, 1874, 1878, 1884, 1886] H H214 := fr_t hf213 hfH214 (by decide) (by decide)
                      have hOSH214 : OS H H214 n := OS_side hOSH204 hooH204 hfH214 hs hlH214 hzH214 hcH214 hoH214 tdH204
                      have hooH214 : (H214.1 1871) 0 = (o : Int) := (congrFun (hfH214.2.1 1871 (by decide) (by decide)) 0).trans hooH204
                      refine h_run 0 (pc' := 202) (l' := [(0, .inr (.inr 1826)), (1, .inl (kn : Int)), (2, .inl bk), (3, .inl (s : Int)), (4, .inl (q : Int)), (5, .inl (wi : Int)), (6, .inl (o : Int)), (7, .inl (wi : Int)), (8, .inl (a9 : Int)), (9, .inl (b9 : Int)), (10, .inl 1)]) (st' := [.inl 1]) rfl ?_
                      refine h_zeq (off := 10) (t := 212) rfl rfl (by decide) (fun c => absurd c (by decide)) (fun _ => ?_)
                      refine h_run 1 (pc' := 206) (l' := [(0, .inr (.inr 1826)), (1, .inl (kn : Int)), (2, .inl bk), (3, .inl (s : Int)), (4, .inl (q : Int)), (5, .inl (wi : Int)), (6, .inl (o : Int)), (7, .inl (wi : Int)), (8, .inl (a9 : Int)), (9, .inl (b9 : Int)), (10, .inl 1)]) (st' := [.inr (.inr 1826)]) rfl ?_
                      refine h_cv (i := 556) (j := 232) (b := 1826) (M' := mt_232) (xs := []) (rest := []) rfl rfl rfl rfl rfl rfl (Nat.le_of_ble_eq_true rfl) (Nat.le_of_ble_eq_true rfl) (by omega) (m_did (n := n) (by omega) hOSH214.1.1 (fun q9 => absurd q9 (by omega)) (by rw [show (H214.1 1871) 0 = (o : Int) from hooH214]; omega)) ?_
                      rintro _ H220 ⟨rfl, hfH220⟩
                      refine h_rng (fun hrg221 => ?_)
                      have hf222 : fr [50, 51, 53, 76, 93, 97] [1847, 1852, 1853, 1855, 1856, 1873, 1874, 1878, 1884, 1886] H H220 := fr_t hf219 hfH220 (by decide) (by decide)
                      have hOSH220 : OS H H220 n := OS_fr hOSH214 hfH220 (by decide) (by decide) (by decide)
                      have hooH220 : (H220.1 1871) 0 = (o : Int) := (congrFun (hfH220.2.1 1871 (by decide) (by decide)) 0).trans hooH214
                      refine h_run 0 (pc' := 209) (l' := [(0, .inr (.inr 1826)), (1, .inl (kn : Int)), (2, .inl bk), (3, .inl (s : Int)), (4, .inl (q : Int)), (5, .inl (wi : Int)), (6, .inl (o : Int)), (7, .inl (wi : Int)), (8, .inl (a9 : Int)), (9, .inl (b9 : Int)), (10, .inl 1)]) (st' := [.inl (n : Int)]) rfl ?_
                      refine h_run 1 (pc' := 214) (l' := [(0, .inr (.inr 1826)), (1, .inl (kn : Int)), (2, .inl bk), (3, .inl (s : Int)), (4, .inl (q : Int)), (5, .inl (wi : Int)), (6, .inl (o : Int)), (7, .inl (wi : Int)), (8, .inl (a9 : Int)), (9, .inl (b9 : Int)), (10, .inl 1)]) (st' := [.inl (n : Int)]) rfl ?_
                      refine h_reti (x := (n : Int)) rfl rfl ?_
                      have g223 : -2147483648 ≤ (H220.1 1826 97) ∧ (H220.1 1826 97) ≤ 2147483647 := hrg221.1 1826 13 97 _ .int rfl rfl
                      have e224 : (H220.1 1826 97) = (H214.1 1826 97) := hfH220.2.2 97 (by decide)
                      have e225 : (H214.1 1826 97) = (H204.1 1826 97) := hfH214.2.2 97 (by decide)
                      have e226 : (H204.1 1826 97) = (H191.1 1826 97) := hfH204.2.2 97 (by decide)
                      have e227 : (H191.1 1826 97) = (H6.1 1826 97) := hfH191.2.2 97 (by decide)
                      exact ⟨hf222, (show (H220.1 1826 97) = -1 by omega), hOSH220, _, rfl, ⟨by omega, by omega⟩, Or.inl (by omega)⟩
              · refine h_run 2 (pc' := 144) (l' := [(0, .inr (.inr 1826)), (1, .inl (kn : Int)), (2, .inl bk), (3, .inl (s : Int)), (4, .inl (q : Int)), (5, .inl (wi : Int)), (6, .inl (o : Int)), (7, .inl (wi : Int)), (8, .inl (a9 : Int)), (9, .inl (b9 : Int))]) (st' := [.inl 0, .inl (H6.1 1875 o), .inl (wi : Int), .inl 2000, .inl (k0 : Int), .inl (64 * (a9 : Int)), .inr (.inr 1880), .inr (.inr 1826)]) rfl ?_
                have g229 : -2147483648 ≤ (H6.1 1826 93) ∧ (H6.1 1826 93) ≤ 2147483647 := hrg7.1 1826 13 93 _ .int rfl rfl
                have g230 : -2147483648 ≤ (H6.1 1826 97) ∧ (H6.1 1826 97) ≤ 2147483647 := hrg7.1 1826 13 97 _ .int rfl rfl
                have e231 : (H6.1 1826 97) = (H.1 1826 97) := hfH6.2.2 97 (by decide)
                have hQl : sP H H6 := sP_fr (sP_rf H) hf8 (by decide) (by decide)
                have hPl : PWc H6 := PWc_fr hP hf8 (by decide) (by decide)
                refine h_cv (i := 593) (j := 239) (b := 1826) (M' := mt_239) (xs := [.inl 0, .inl (H6.1 1875 o), .inl (wi : Int), .inl 2000, .inl (k0 : Int), .inl (64 * (a9 : Int)), .inr (.inr 1880)]) (rest := []) rfl rfl rfl rfl rfl rfl (Nat.le_of_ble_eq_true rfl) (Nat.le_of_ble_eq_true rfl) (by omega) (m_isLike (p := (64 * a9)) (ln := k0) (N := N) (k := ki) (V := 60) (okp := (okf H)) (by omega) rfl (by decide) (by decide) hPl (by rw [hQl.1, hQl.2.1, hQl.2.2.1, hQl.2.2.2]; exact hTn) ⟨by omega, (show (H6.1 1826 93) = (N : Int) by omega)⟩ (by rw [hQl.1, hQl.2.1, hQl.2.2.1, hQl.2.2.2]; exact hTi) (by omega) (by rw [hQl.1, hQl.2.1]; exact (by show tm _ _ (H6.1 1880) _ _ 1; rw [show (H6.1 1880) = (H.1 1880) from hfH6.2.1 1880 (by decide) (by decide), ha9]; exact k03)) (show 64 * a9 + k0 ≤ 40960 ∧ k0 ≤ 60 by omega) (by omega) (Or.inl (show (H6.1 1826 97) = -1 ∧ 60 ≤ 60 by omega)) (fun s9 h9 => by unfold okf m_sg at h9; omega) (by omega)) ?_
                rintro _ H228 ⟨(rfl | ⟨rfl, xH228⟩), hfH228⟩
                · refine h_rng (fun hrg232 => ?_)
                  have hf233 : fr [50, 51, 53, 76, 93, 97] [1847, 1852, 1853, 1855, 1856, 1873, 1874, 1878, 1884, 1886] H H228 := fr_t hf8 hfH228 (by decide) (by decide)
                  have hOSH228 : OS H H228 n := OS_fr hOSH6 hfH228 (by decide) (by decide) (by decide)
                  have hooH228 : (H228.1 1871) 0 = (o : Int) := (congrFun (hfH228.2.1 1871 (by decide) (by decide)) 0).trans hooH6
                  refine h_run 0 (pc' := 147) (l' := [(0, .inr (.inr 1826)), (1, .inl (kn : Int)), (2, .inl bk), (3, .inl (s : Int)), (4, .inl (q : Int)), (5, .inl (wi : Int)), (6, .inl (o : Int)), (7, .inl (wi : Int)), (8, .inl (a9 : Int)), (9, .inl (b9 : Int))]) (st' := [.inl 0]) rfl ?_
                  refine h_zeq (off := 35) (t := 182) rfl rfl (by decide) (fun _ => ?_) (fun c => absurd c (by decide))
                  refine h_run 3 (pc' := 187) (l' := [(0, .inr (.inr 1826)), (1, .inl (kn : Int)), (2, .inl bk), (3, .inl (s : Int)), (4, .inl (q : Int)), (5, .inl (wi : Int)), (6, .inl (o : Int)), (7, .inl (wi : Int)), (8, .inl (a9 : Int)), (9, .inl (b9 : Int)), (10, .inl 0)]) (st' := [.inl 0]) rfl ?_
                  refine h_zne (off := 8) (t := 195) rfl rfl (by decide) (fun c => absurd c (by decide)) (fun _ => ?_)
                  refine h_run 2 (pc' := 214) (l' := [(0, .inr (.inr 1826)), (1, .inl (kn : Int)), (2, .inl bk), (3, .inl (s : Int)), (4, .inl (q : Int)), (5, .inl (wi : Int)), (6, .inl (o : Int)), (7, .inl (wi : Int)), (8, .inl (a9 : Int)), (9, .inl (b9 : Int)), (10, .inl 0)]) (st' := [.inl (-104)]) rfl ?_
                  refine h_reti (x := (-104)) rfl rfl ?_
                  have g234 : -2147483648 ≤ (H228.1 1826 97) ∧ (H228.1 1826 97) ≤ 2147483647 := hrg232.1 1826 13 97 _ .int rfl rfl
                  have e235 : (H228.1 1826 97) = (H6.1 1826 97) := hfH228.2.2 97 (by decide)
                  exact ⟨hf233, (show (H228.1 1826 97) = -1 by omega), hOSH228, _, rfl, ⟨by omega, by omega⟩, Or.inr (by show (H228.1 1874) = (H.1 1874); rw [show (H228.1 1874) = (H6.1 1874) from hfH228.2.1 1874 (by decide) (by decide), show (H6.1 1874) = (H.1 1874) from hfH6.2.1 1874 (by decide) (by decide)])⟩
                · refine h_rng (fun hrg236 => ?_)
                  have hf237 : fr [50, 51, 53, 76, 93, 97] [1847, 1852, 1853, 1855, 1856, 1873, 1874, 1878, 1884, 1886] H H228 := fr_t hf8 hfH228 (by decide) (by decide)
                  have hOSH228 : OS H H228 n := OS_fr hOSH6 hfH228 (by decide) (by decide) (by decide)
                  have hooH228 : (H228.1 1871) 0 = (o : Int) := (congrFun (hfH228.2.1 1871 (by decide) (by decide)) 0).trans hooH6
                  have eNH228 : (H228.1 1884) = (H6.1 1884) := hfH228.2.1 1884 (by decide) (by decide)
                  have yH228 : fre (ma (H.1 1833) (H.1 1830)) (m_sg (H.1 1826 3) (H.1 1826 8) 60) (H228.1 1884) (H228.1 1886) N := by have h9 := xH228; rw [hQl.1, hQl.2.1, hQl.2.2.1, hQl.2.2.2] at h9; rw [eNH228]; exact h9
                  have hTnH228 : tm (ma (H.1 1833) (H.1 1830)) (m_sg (H.1 1826 3) (H.1 1826 8) 60) (H228.1 1884) N 0 1 := by rw [eNH228]; exact hTn
                  have hTiH228 : tm (ma (H.1 1833) (H.1 1830)) (m_sg (H.1 1826 3) (H.1 1826 8) 60) (H228.1 1884) ki wi 1 := by rw [eNH228]; exact hTi
                  refine h_run 0 (pc' := 147) (l' := [(0, .inr (.inr 1826)), (1, .inl (kn : Int)), (2, .inl bk), (3, .inl (s : Int)), (4, .inl (q : Int)), (5, .inl (wi : Int)), (6, .inl (o : Int)), (7, .inl (wi : Int)), (8, .inl (a9 : Int)), (9, .inl (b9 : Int))]) (st' := [.inl 1]) rfl ?_
                  refine h_zeq (off := 35) (t := 182) rfl rfl (by decide) (fun c => absurd c (by decide)) (fun _ => ?_)
                  refine h_run 9 (pc' := 166) (l' := [(0, .inr (.inr 1826)), (1, .inl (kn : Int)), (2, .inl bk), (3, .inl (s : Int)), (4, .inl (q : Int)), (5, .inl (wi : Int)), (6, .inl (o : Int)), (7, .inl (wi : Int)), (8, .inl (a9 : Int)), (9, .inl (b9 : Int))]) (st' := [.inl (b9 : Int), .inr (.inr 1881), .inl (64 * (b9 : Int)), .inr (.inr 1880), .inr (.inr 1826)]) rfl ?_
                  refine h_ild (c := 1881) (j := b9) (i := (b9 : Int)) rfl rfl (by decide) rfl (by omega) ?_
                  have g238 : -2147483648 ≤ (H228.1 1881 b9) ∧ (H228.1 1881 b9) ≤ 2147483647 := hrg236.2 1881 b9 640 .int rfl (by omega)
                  have e239 : (H228.1 1881 b9) = (H6.1 1881 b9) := congrFun (hfH228.2.1 1881 (by decide) (by decide)) b9
                  have e240 : (H6.1 1881 b9) = (H.1 1881 b9) := congrFun (hfH6.2.1 1881 (by decide) (by decide)) b9
                  refine h_run 0 (pc' := 167) (l' := [(0, .inr (.inr 1826)), (1, .inl (kn : Int)), (2, .inl bk), (3, .inl (s : Int)), (4, .inl (q : Int)), (5, .inl (wi : Int)), (6, .inl (o : Int)), (7, .inl (wi : Int)), (8, .inl (a9 : Int)), (9, .inl (b9 : Int))]) (st' := [.inl (H228.1 1881 b9), .inl (64 * (b9 : Int)), .inr (.inr 1880), .inr (.inr 1826)]) rfl ?_
                  have hszb9 : (H228.1 1881) b9 = (k1 : Int) := by rw [show (H228.1 1881) = (H6.1 1881) from hfH228.2.1 1881 (by decide) (by decide), show (H6.1 1881) = (H.1 1881) from hfH6.2.1 1881 (by decide) (by decide), hb9]; exact k11
                  rw [show (H228.1 1881 b9) = (k1 : Int) by omega]
                  refine h_run 2 (pc' := 172) (l' := [(0, .inr (.inr 1826)), (1, .inl (kn : Int)), (2, .inl bk), (3, .inl (s : Int)), (4, .inl (q : Int)), (5, .inl (wi : Int)), (6, .inl (o : Int)), (7, .inl (wi : Int)), (8, .inl (a9 : Int)), (9, .inl (b9 : Int))]) (st' := [.inl (wi : Int), .inl 2000, .inl (k1 : Int), .inl (64 * (b9 : Int)), .inr (.inr 1880), .inr (.inr 1826)]) rfl ?_
                  have g242 : -2147483648 ≤ (H228.1 1826 93) ∧ (H228.1 1826 93) ≤ 2147483647 := hrg236.1 1826 13 93 _ .int rfl rfl
                  have e243 : (H228.1 1826 93) = (H6.1 1826 93) := hfH228.2.2 93 (by decide)
                  have hQk : sP H H228 := sP_fr (sP_rf H) hf237 (by decide) (by decide)
                  have hPk : PWc H228 := PWc_fr hP hf237 (by decide) (by decide)
                  refine h_cv (i := 597) (j := 242) (b := 1826) (M' := mt_242) (xs := [.inl (wi : Int), .inl 2000, .inl (k1 : Int), .inl (64 * (b9 : Int)), .inr (.inr 1880)]) (rest := []) rfl rfl rfl rfl rfl rfl (Nat.le_of_ble_eq_true rfl) (Nat.le_of_ble_eq_true rfl) (by omega) (m_isMade (p := (64 * b9)) (ln := k1) (N := N) (k := ki) (okp := (okf H)) (by omega) rfl (by decide) (by decide) hPk (by rw [hQk.1, hQk.2.1, hQk.2.2.1, hQk.2.2.2]; exact hTnH228) ⟨by omega, (show (H228.1 1826 93) = (N : Int) by omega)⟩ (by rw [hQk.1, hQk.2.1, hQk.2.2.1, hQk.2.2.2]; exact hTiH228) (by omega) (by rw [hQk.1, hQk.2.1]; exact (by show tm _ _ (H228.1 1880) _ _ 1; rw [show (H228.1 1880) = (H6.1 1880) from hfH228.2.1 1880 (by decide) (by decide), show (H6.1 1880) = (H.1 1880) from hfH6.2.1 1880 (by decide) (by decide), hb9]; exact k13)) (show 64 * b9 + k1 ≤ 40960 ∧ k1 ≤ 60 by omega) (by omega) (by rw [hQk.2.2.1, hQk.2.2.2]; exact (fun s9 h9 => by unfold okf at h9; unfold m_sg at *; omega)) (by rw [hQk.1, hQk.2.1, hQk.2.2.1, hQk.2.2.2]; exact yH228)) ?_
                  rintro _ H241 ⟨(rfl | ⟨rfl, MH241, zH241, mH241, tH241⟩), hfH241⟩
                  · refine h_rng (fun hrg244 => ?_)
                    have hf245 : fr [50, 51, 53, 76, 93, 97] [1847, 1852, 1853, 1855, 1856, 1873, 1874, 1878, 1884, 1886] H H241 := fr_t hf237 hfH241 (by decide) (by decide)
                    have hOSH241 : OS H H241 n := OS_fr hOSH228 hfH241 (by decide) (by decide) (by decide)
                    have hooH241 : (H241.1 1871) 0 = (o : Int) := (congrFun (hfH241.2.1 1871 (by decide) (by decide)) 0).trans hooH228
                    refine h_run 0 (pc' := 175) (l' := [(0, .inr (.inr 1826)), (1, .inl (kn : Int)), (2, .inl bk), (3, .inl (s : Int)), (4, .inl (q : Int)), (5, .inl (wi : Int)), (6, .inl (o : Int)), (7, .inl (wi : Int)), (8, .inl (a9 : Int)), (9, .inl (b9 : Int))]) (st' := [.inl 0]) rfl ?_
                    refine h_zeq (off := 7) (t := 182) rfl rfl (by decide) (fun _ => ?_) (fun c => absurd c (by decide))
                    refine h_run 3 (pc' := 187) (l' := [(0, .inr (.inr 1826)), (1, .inl (kn : Int)), (2, .inl bk), (3, .inl (s : Int)), (4, .inl (q : Int)), (5, .inl (wi : Int)), (6, .inl (o : Int)), (7, .inl (wi : Int)), (8, .inl (a9 : Int)), (9, .inl (b9 : Int)), (10, .inl 0)]) (st' := [.inl 0]) rfl ?_
                    refine h_zne (off := 8) (t := 195) rfl rfl (by decide) (fun c => absurd c (by decide)) (fun _ => ?_)
                    refine h_run 2 (pc' := 214) (l' := [(0, .inr (.inr 1826)), (1, .inl (kn : Int)), (2, .inl bk), (3, .inl (s : Int)), (4, .inl (q : Int)), (5, .inl (wi : Int)), (6, .inl (o : Int)), (7, .inl (wi : Int)), (8, .inl (a9 : Int)), (9, .inl (b9 : Int)), (10, .inl 0)]) (st' := [.inl (-104)]) rfl ?_
                    refine h_reti (x := (-104)) rfl rfl ?_
                    have g246 : -2147483648 ≤ (H241.1 1826 97) ∧ (H241.1 1826 97) ≤ 2147483647 := hrg244.1 1826 13 97 _ .int rfl rfl
                    have e247 : (H241.1 1826 97) = (H228.1 1826 97) := hfH241.2.2 97 (by decide)
                    have e248 : (H228.1 1826 97) = (H6.1 1826 97) := hfH228.2.2 97 (by decide)
                    exact ⟨hf245, (show (H241.1 1826 97) = -1 by omega), hOSH241, _, rfl, ⟨by omega, by omega⟩, Or.inr (by show (H241.1 1874) = (H.1 1874); rw [show (H241.1 1874) = (H228.1 1874) from hfH241.2.1 1874 (by decide) (by decide), show (H228.1 1874) = (H6.1 1874) from hfH228.2.1 1874 (by decide) (by decide), show (H6.1 1874) = (H.1 1874) from hfH6.2.1 1874 (by decide) (by decide)])⟩
                  · refine h_rng (fun hrg249 => ?_)
                    have hf250 : fr [50, 51, 53, 76, 93, 97] [1847, 1852, 1853, 1855, 1856, 1873, 1874, 1878, 1884, 1886] H H241 := fr_t hf237 hfH241 (by decide) (by decide)
                    have hOSH241 : OS H H241 n := OS_fr hOSH228 hfH241 (by decide) (by decide) (by decide)
                    have hooH241 : (H241.1 1871) 0 = (o : Int) := (congrFun (hfH241.2.1 1871 (by decide) (by decide)) 0).trans hooH228
                    have tdH241 : tm (ma (H.1 1833) (H.1 1830)) (m_sg (H.1 1826 3) (H.1 1826 8) 60) (H241.1 1856) MH241 0 1 := by have h9 := tH241; rw [hQk.1, hQk.2.1, hQk.2.2.1, hQk.2.2.2] at h9; exact h9
                    refine h_run 0 (pc' := 175) (l' := [(0, .inr (.inr 1826)), (1, .inl (kn : Int)), (2, .inl bk), (3, .inl (s : Int)), (4, .inl (q : Int)), (5, .inl (wi : Int)), (6, .inl (o : Int)), (7, .inl (wi : Int)), (8, .inl (a9 : Int)), (9, .inl (b9 : Int))]) (st' := [.inl 1]) rfl ?_
                    refine h_zeq (off := 7) (t := 182) rfl rfl (by decide) (fun c => absurd c (by decide)) (fun _ => ?_)
                    refine h_run 4 (pc' := 187) (l' := [(0, .inr (.inr 1826)), (1, .inl (kn : Int)), (2, .inl bk), (3, .inl (s : Int)), (4, .inl (q : Int)), (5, .inl (wi : Int)), (6, .inl (o : Int)), (7, .inl (wi : Int)), (8, .inl (a9 : Int)), (9, .inl (b9 : Int)), (10, .inl 1)]) (st' := [.inl 1]) rfl ?_
                    refine h_zne (off := 8) (t := 195) rfl rfl (by decide) (fun _ => ?_) (fun c => absurd c (by decide))
                    refine h_run 3 (pc' := 199) (l' := [(0, .inr (.inr 1826)), (1, .inl (kn : Int)), (2, .inl bk), (3, .inl (s : Int)), (4, .inl (q : Int)), (5, .inl (wi : Int)), (6, .inl (o : Int)), (7, .inl (wi : Int)), (8, .inl (a9 : Int)), (9, .inl (b9 : Int)), (10, .inl 1)]) (st' := [.inl (s : Int), .inl (o : Int), .inr (.inr 1826)]) rfl ?_
                    refine h_cv (i := 575) (j := 229) (b := 1826) (M' := mt_229) (xs := [.inl (s : Int), .inl (o : Int)]) (rest := []) rfl rfl rfl rfl rfl rfl (Nat.le_of_ble_eq_true rfl) (Nat.le_of_ble_eq_true rfl) (by omega) (m_isKept (M := MH241) (by omega) (by omega) ⟨zH241, mH241⟩) ?_
                    rintro _ H251 (⟨rfl, hxH251, rfl⟩ | ⟨rfl, hlH251, hfH251, hzH251, hcH251, hoH251⟩)
                    · refine h_run 0 (pc' := 202) (l' := [(0, .inr (.inr 1826)), (1, .inl (kn : Int)), (2, .inl bk), (3, .inl (s : Int)), (4, .inl (q : Int)), (5, .inl (wi : Int)), (6, .inl (o : Int)), (7, .inl (wi : Int)), (8, .inl (a9 : Int)), (9, .inl (b9 : Int)), (10, .inl 1)]) (st' := [.inl 0]) rfl ?_
                      refine h_zeq (off := 10) (t := 212) rfl rfl (by decide) (fun _ => ?_) (fun c => absurd c (by decide))
                      refine h_run 1 (pc' := 214) (l' := [(0, .inr (.inr 1826)), (1, .inl (kn : Int)), (2, .inl bk), (3, .inl (s : Int)), (4, .inl (q : Int)), (5, .inl (wi : Int)), (6, .inl (o : Int)), (7, .inl (wi : Int)), (8, .inl (a9 : Int)), (9, .inl (b9 : Int)), (10, .inl 1)]) (st' := [.inl (-105)]) rfl ?_
                      refine h_reti (x := (-105)) rfl rfl ?_
                      have g252 : -2147483648 ≤ (H241.1 1826 97) ∧ (H241.1 1826 97) ≤ 2147483647 := hrg249.1 1826 13 97 _ .int rfl rfl
                      have e253 : (H241.1 1826 97) = (H228.1 1826 97) := hfH241.2.2 97 (by decide)
                      have e254 : (H228.1 1826 97) = (H6.1 1826 97) := hfH228.2.2 97 (by decide)
                      exact ⟨hf250, (show (H241.1 1826 97) = -1 by omega), hOSH241, _, rfl, ⟨by omega, by omega⟩, Or.inr (by show (H241.1 1874) = (H.1 1874); rw [show (H241.1 1874) = (H228.1 1874) from hfH241.2.1 1874 (by decide) (by decide), show (H228.1 1874) = (H6.1 1874) from hfH228.2.1 1874 (by decide) (by decide), show (H6.1 1874) = (H.1 1874) from hfH6.2.1 1874 (by decide) (by decide)])⟩
                    · refine h_rng (fun hrg255 => ?_)
                      have hf256 : fr [50, 51, 53, 76, 93, 97] [1847, 1852, 1853, 1855, 1856, 1873, 1874, 1878, 1884, 1886] H H251 := fr_t hf250 hfH251 (by decide) (by decide)
                      have hOSH251 : OS H H251 n := OS_side hOSH241 hooH241 hfH251 hs hlH251 hzH251 hcH251 hoH251 tdH241
                      have hooH251 : (H251.1 1871) 0 = (o : Int) := (congrFun (hfH251.2.1 1871 (by decide) (by decide)) 0).trans hooH241
                      refine h_run 0 (pc' := 202) (l' := [(0, .inr (.inr 1826)), (1, .inl (kn : Int)), (2, .inl bk), (3, .inl (s : Int)), (4, .inl (q : Int)), (5, .inl (wi : Int)), (6, .inl (o : Int)), (7, .inl (wi : Int)), (8, .inl (a9 : Int)), (9, .inl (b9 : Int)), (10, .inl 1)]) (st' := [.inl 1]) rfl ?_
                      refine h_zeq (off := 10) (t := 212) rfl rfl (by decide) (fun c => absurd c (by decide)) (fun _ => ?_)
                      refine h_run 1 (pc' := 206) (l' := [(0, .inr (.inr 1826)), (1, .inl (kn : Int)), (2, .inl bk), (3, .inl (s : Int)), (4, .inl (q : Int)), (5, .inl (wi : Int)), (6, .inl (o : Int)), (7, .inl (wi : Int)), (8, .inl (a9 : Int)), (9, .inl (b9 : Int)), (10, .inl 1)]) (st' := [.inr (.inr 1826)]) rfl ?_
                      refine h_cv (i := 556) (j := 232) (b := 1826) (M' := mt_232) (xs := []) (rest := []) rfl rfl rfl rfl rfl rfl (Nat.le_of_ble_eq_true rfl) (Nat.le_of_ble_eq_true rfl) (by omega) (m_did (n := n) (by omega) hOSH251.1.1 (fun q9 => absurd q9 (by omega)) (by rw [show (H251.1 1871) 0 = (o : Int) from hooH251]; omega)) ?_
                      rintro _ H257 ⟨rfl, hfH257⟩
                      refine h_rng (fun hrg258 => ?_)
                      have hf259 : fr [50, 51, 53, 76, 93, 97] [1847, 1852, 1853, 1855, 1856, 1873, 1874, 1878, 1884, 1886] H H257 := fr_t hf256 hfH257 (by decide) (by decide)
                      have hOSH257 : OS H H257 n := OS_fr hOSH251 hfH257 (by decide) (by decide) (by decide)
                      have hooH257 : (H257.1 1871) 0 = (o : Int) := (congrFun (hfH257.2.1 1871 (by decide) (by decide)) 0).trans hooH251
                      refine h_run 0 (pc' := 209) (l' := [(0, .inr (.inr 1826)), (1, .inl (kn : Int)), (2, .inl bk), (3, .inl (s : Int)), (4, .inl (q : Int)), (5, .inl (wi : Int)), (6, .inl (o : Int)), (7, .inl (wi : Int)), (8, .inl (a9 : Int)), (9, .inl (b9 : Int)), (10, .inl 1)]) (st' := [.inl (n : Int)]) rfl ?_
                      refine h_run 1 (pc' := 214) (l' := [(0, .inr (.inr 1826)), (1, .inl (kn : Int)), (2, .inl bk), (3, .inl (s : Int)), (4, .inl (q : Int)), (5, .inl (wi : Int)), (6, .inl (o : Int)), (7, .inl (wi : Int)), (8, .inl (a9 : Int)), (9, .inl (b9 : Int)), (10, .inl 1)]) (st' := [.inl (n : Int)]) rfl ?_
                      refine h_reti (x := (n : Int)) rfl rfl ?_
                      have g260 : -2147483648 ≤ (H257.1 1826 97) ∧ (H257.1 1826 97) ≤ 2147483647 := hrg258.1 1826 13 97 _ .int rfl rfl
                      have e261 : (H257.1 1826 97) = (H251.1 1826 97) := hfH257.2.2 97 (by decide)
                      have e262 : (H251.1 1826 97) = (H241.1 1826 97) := hfH251.2.2 97 (by decide)
                      have e263 : (H241.1 1826 97) = (H228.1 1826 97) := hfH241.2.2 97 (by decide)
                      have e264 : (H228.1 1826 97) = (H6.1 1826 97) := hfH228.2.2 97 (by decide)
                      exact ⟨hf259, (show (H257.1 1826 97) = -1 by omega), hOSH257, _, rfl, ⟨by omega, by omega⟩, Or.inl (by omega)⟩
            · exfalso
              omega
          · refine h_run 3 (pc' := 80) (l' := [(0, .inr (.inr 1826)), (1, .inl (kn : Int)), (2, .inl bk), (3, .inl (s : Int)), (4, .inl (q : Int)), (5, .inl (wi : Int)), (6, .inl (o : Int)), (7, .inl (wi : Int))]) (st' := [.inl ((2 * ((8 * (o : Int)) + (kn : Int))) + 1)]) rfl ?_
            obtain ⟨a9, ha9⟩ : ∃ x9 : Nat, x9 = 16 * o + (2 * kn + 1) := ⟨_, rfl⟩
            rw [show ((2 * ((8 * (o : Int)) + (kn : Int))) + 1) = ((a9 : Nat) : Int) from (by omega)]
            refine h_run 9 (pc' := 92) (l' := [(0, .inr (.inr 1826)), (1, .inl (kn : Int)), (2, .inl bk), (3, .inl (s : Int)), (4, .inl (q : Int)), (5, .inl (wi : Int)), (6, .inl (o : Int)), (7, .inl (wi : Int)), (8, .inl (a9 : Int))]) (st' := [.inl bk, .inl (2 * ((8 * (o : Int)) + (kn : Int)))]) rfl ?_
            refine h_zeq (off := 7) (t := 99) rfl rfl (by omega) (fun c265 => ?_) (fun c265 => ?_)
            · exfalso
              omega
            · refine h_run 3 (pc' := 101) (l' := [(0, .inr (.inr 1826)), (1, .inl (kn : Int)), (2, .inl bk), (3, .inl (s : Int)), (4, .inl (q : Int)), (5, .inl (wi : Int)), (6, .inl (o : Int)), (7, .inl (wi : Int)), (8, .inl (a9 : Int))]) (st' := [.inl ((2 * ((8 * (o : Int)) + (kn : Int))) + 0)]) rfl ?_
              obtain ⟨b9, hb9⟩ : ∃ x9 : Nat, x9 = 16 * o + (2 * kn + 0) := ⟨_, rfl⟩
              rw [show ((2 * ((8 * (o : Int)) + (kn : Int))) + 0) = ((b9 : Nat) : Int) from (by omega)]
              refine h_run 10 (pc' := 119) (l' := [(0, .inr (.inr 1826)), (1, .inl (kn : Int)), (2, .inl bk), (3, .inl (s : Int)), (4, .inl (q : Int)), (5, .inl (wi : Int)), (6, .inl (o : Int)), (7, .inl (wi : Int)), (8, .inl (a9 : Int)), (9, .inl (b9 : Int))]) (st' := [.inl (a9 : Int), .inr (.inr 1881), .inl (64 * (a9 : Int)), .inr (.inr 1880), .inr (.inr 1826)]) rfl ?_
              refine h_ild (c := 1881) (j := a9) (i := (a9 : Int)) rfl rfl (by decide) rfl (by omega) ?_
              have g266 : -2147483648 ≤ (H6.1 1881 a9) ∧ (H6.1 1881 a9) ≤ 2147483647 := hrg7.2 1881 a9 640 .int rfl (by omega)
              have e267 : (H6.1 1881 a9) = (H.1 1881 a9) := congrFun (hfH6.2.1 1881 (by decide) (by decide)) a9
              refine h_run 0 (pc' := 120) (l' := [(0, .inr (.inr 1826)), (1, .inl (kn : Int)), (2, .inl bk), (3, .inl (s : Int)), (4, .inl (q : Int)), (5, .inl (wi : Int)), (6, .inl (o : Int)), (7, .inl (wi : Int)), (8, .inl (a9 : Int)), (9, .inl (b9 : Int))]) (st' := [.inl (H6.1 1881 a9), .inl (64 * (a9 : Int)), .inr (.inr 1880), .inr (.inr 1826)]) rfl ?_
              have hsza9 : (H6.1 1881) a9 = (k1 : Int) := by rw [show (H6.1 1881) = (H.1 1881) from hfH6.2.1 1881 (by decide) (by decide), ha9]; exact k11
              rw [show (H6.1 1881 a9) = (k1 : Int) by omega]
              refine h_run 5 (pc' := 131) (l' := [(0, .inr (.inr 1826)), (1, .inl (kn : Int)), (2, .inl bk), (3, .inl (s : Int)), (4, .inl (q : Int)), (5, .inl (wi : Int)), (6, .inl (o : Int)), (7, .inl (wi : Int)), (8, .inl (a9 : Int)), (9, .inl (b9 : Int))]) (st' := [.inl (o : Int), .inr (.inr 1875), .inl (wi : Int), .inl 2000, .inl (k1 : Int), .inl (64 * (a9 : Int)), .inr (.inr 1880), .inr (.inr 1826)]) rfl ?_
              refine h_ild (c := 1875) (j := o) (i := (o : Int)) rfl rfl (by decide) rfl (by omega) ?_
              have g268 : -2147483648 ≤ (H6.1 1875 o) ∧ (H6.1 1875 o) ≤ 2147483647 := hrg7.2 1875 o 40 .int rfl (by omega)
              have e269 : (H6.1 1875 o) = (H.1 1875 o) := congrFun (hfH6.2.1 1875 (by decide) (by decide)) o
              refine h_run 0 (pc' := 132) (l' := [(0, .inr (.inr 1826)), (1, .inl (kn : Int)), (2, .inl bk), (3, .inl (s : Int)), (4, .inl (q : Int)), (5, .inl (wi : Int)), (6, .inl (o : Int)), (7, .inl (wi : Int)), (8, .inl (a9 : Int)), (9, .inl (b9 : Int))]) (st' := [.inl (H6.1 1875 o), .inl (wi : Int), .inl 2000, .inl (k1 : Int), .inl (64 * (a9 : Int)), .inr (.inr 1880), .inr (.inr 1826)]) rfl ?_
              refine h_run 2 (pc' := 136) (l' := [(0, .inr (.inr 1826)), (1, .inl (kn : Int)), (2, .inl bk), (3, .inl (s : Int)), (4, .inl (q : Int)), (5, .inl (wi : Int)), (6, .inl (o : Int)), (7, .inl (wi : Int)), (8, .inl (a9 : Int)), (9, .inl (b9 : Int))]) (st' := [.inl (H6.1 1826 75), .inl (H6.1 1875 o), .inl (wi : Int), .inl 2000, .inl (k1 : Int), .inl (64 * (a9 : Int)), .inr (.inr 1880), .inr (.inr 1826)]) rfl ?_
              have g270 : 0 ≤ (H6.1 1826 75) ∧ (H6.1 1826 75) ≤ 1 := hrg7.1 1826 13 75 _ .boolean rfl rfl
              have e271 : (H6.1 1826 75) = (H.1 1826 75) := hfH6.2.2 75 (by decide)
              refine h_zeq (off := 7) (t := 143) rfl rfl (by omega) (fun c272 => ?_) (fun c272 => ?_)
              · refine h_run 1 (pc' := 144) (l' := [(0, .inr (.inr 1826)), (1, .inl (kn : Int)), (2, .inl bk), (3, .inl (s : Int)), (4, .inl (q : Int)), (5, .inl (wi : Int)), (6, .inl (o : Int)), (7, .inl (wi : Int)), (8, .inl (a9 : Int)), (9, .inl (b9 : Int))]) (st' := [.inl 2, .inl (H6.1 1875 o), .inl (wi : Int), .inl 2000, .inl (k1 : Int), .inl (64 * (a9 : Int)), .inr (.inr 1880), .inr (.inr 1826)]) rfl ?_
                have g274 : -2147483648 ≤ (H6.1 1826 93) ∧ (H6.1 1826 93) ≤ 2147483647 := hrg7.1 1826 13 93 _ .int rfl rfl
                have g275 : -2147483648 ≤ (H6.1 1826 97) ∧ (H6.1 1826 97) ≤ 2147483647 := hrg7.1 1826 13 97 _ .int rfl rfl
                have e276 : (H6.1 1826 97) = (H.1 1826 97) := hfH6.2.2 97 (by decide)
                have hQl : sP H H6 := sP_fr (sP_rf H) hf8 (by decide) (by decide)
                have hPl : PWc H6 := PWc_fr hP hf8 (by decide) (by decide)
                refine h_cv (i := 593) (j := 239) (b := 1826) (M' := mt_239) (xs := [.inl 2, .inl (H6.1 1875 o), .inl (wi : Int), .inl 2000, .inl (k1 : Int), .inl (64 * (a9 : Int)), .inr (.inr 1880)]) (rest := []) rfl rfl rfl rfl rfl rfl (Nat.le_of_ble_eq_true rfl) (Nat.le_of_ble_eq_true rfl) (by omega) (m_isLike (p := (64 * a9)) (ln := k1) (N := N) (k := ki) (V := 60) (okp := (okf H)) (by omega) rfl (by decide) (by decide) hPl (by rw [hQl.1, hQl.2.1, hQl.2.2.1, hQl.2.2.2]; exact hTn) ⟨by omega, (show (H6.1 1826 93) = (N : Int) by omega)⟩ (by rw [hQl.1, hQl.2.1, hQl.2.2.1, hQl.2.2.2]; exact hTi) (by omega) (by rw [hQl.1, hQl.2.1]; exact (by show tm _ _ (H6.1 1880) _ _ 1; rw [show (H6.1 1880) = (H.1 1880) from hfH6.2.1 1880 (by decide) (by decide), ha9]; exact k13)) (show 64 * a9 + k1 ≤ 40960 ∧ k1 ≤ 60 by omega) (by omega) (Or.inl (show (H6.1 1826 97) = -1 ∧ 60 ≤ 60 by omega)) (fun s9 h9 => by unfold okf m_sg at h9; omega) (by omega)) ?_
                rintro _ H273 ⟨(rfl | ⟨rfl, xH273⟩), hfH273⟩
                · refine h_rng (fun hrg277 => ?_)
                  have hf278 : fr [50, 51, 53, 76, 93, 97] [1847, 1852, 1853, 1855, 1856, 1873, 1874, 1878, 1884, 1886] H H273 := fr_t hf8 hfH273 (by decide) (by decide)
                  have hOSH273 : OS H H273 n := OS_fr hOSH6 hfH273 (by decide) (by decide) (by decide)
                  have hooH273 : (H273.1 1871) 0 = (o : Int) := (congrFun (hfH273.2.1 1871 (by decide) (by decide)) 0).trans hooH6
                  refine h_run 0 (pc' := 147) (l' := [(0, .inr (.inr 1826)), (1, .inl (kn : Int)), (2, .inl bk), (3, .inl (s : Int)), (4, .inl (q : Int)), (5, .inl (wi : Int)), (6, .inl (o : Int)), (7, .inl (wi : Int)), (8, .inl (a9 : Int)), (9, .inl (b9 : Int))]) (st' := [.inl 0]) rfl ?_
                  refine h_zeq (off := 35) (t := 182) rfl rfl (by decide) (fun _ => ?_) (fun c => absurd c (by decide))
                  refine h_run 3 (pc' := 187) (l' := [(0, .inr (.inr 1826)), (1, .inl (kn : Int)), (2, .inl bk), (3, .inl (s : Int)), (4, .inl (q : Int)), (5, .inl (wi : Int)), (6, .inl (o : Int)), (7, .inl (wi : Int)), (8, .inl (a9 : Int)), (9, .inl (b9 : Int)), (10, .inl 0)]) (st' := [.inl 0]) rfl ?_
                  refine h_zne (off := 8) (t := 195) rfl rfl (by decide) (fun c => absurd c (by decide)) (fun _ => ?_)
                  refine h_run 2 (pc' := 214) (l' := [(0, .inr (.inr 1826)), (1, .inl (kn : Int)), (2, .inl bk), (3, .inl (s : Int)), (4, .inl (q : Int)), (5, .inl (wi : Int)), (6, .inl (o : Int)), (7, .inl (wi : Int)), (8, .inl (a9 : Int)), (9, .inl (b9 : Int)), (10, .inl 0)]) (st' := [.inl (-104)]) rfl ?_
                  refine h_reti (x := (-104)) rfl rfl ?_
                  have g279 : -2147483648 ≤ (H273.1 1826 97) ∧ (H273.1 1826 97) ≤ 2147483647 := hrg277.1 1826 13 97 _ .int rfl rfl
                  have e280 : (H273.1 1826 97) = (H6.1 1826 97) := hfH273.2.2 97 (by decide)
                  exact ⟨hf278, (show (H273.1 1826 97) = -1 by omega), hOSH273, _, rfl, ⟨by omega, by omega⟩, Or.inr (by show (H273.1 1874) = (H.1 1874); rw [show (H273.1 1874) = (H6.1 1874) from hfH273.2.1 1874 (by decide) (by decide), show (H6.1 1874) = (H.1 1874) from hfH6.2.1 1874 (by decide) (by decide)])⟩
                · refine h_rng (fun hrg281 => ?_)
                  have hf282 : fr [50, 51, 53, 76, 93, 97] [1847, 1852, 1853, 1855, 1856, 1873, 1874, 1878, 1884, 1886] H H273 := fr_t hf8 hfH273 (by decide) (by decide)
                  have hOSH273 : OS H H273 n := OS_fr hOSH6 hfH273 (by decide) (by decide) (by decide)
                  have hooH273 : (H273.1 1871) 0 = (o : Int) := (congrFun (hfH273.2.1 1871 (by decide) (by decide)) 0).trans hooH6
                  have eNH273 : (H273.1 1884) = (H6.1 1884) := hfH273.2.1 1884 (by decide) (by decide)
                  have yH273 : fre (ma (H.1 1833) (H.1 1830)) (m_sg (H.1 1826 3) (H.1 1826 8) 60) (H273.1 1884) (H273.1 1886) N := by have h9 := xH273; rw [hQl.1, hQl.2.1, hQl.2.2.1, hQl.2.2.2] at h9; rw [eNH273]; exact h9
                  have hTnH273 : tm (ma (H.1 1833) (H.1 1830)) (m_sg (H.1 1826 3) (H.1 1826 8) 60) (H273.1 1884) N 0 1 := by rw [eNH273]; exact hTn
                  have hTiH273 : tm (ma (H.1 1833) (H.1 1830)) (m_sg (H.1 1826 3) (H.1 1826 8) 60) (H273.1 1884) ki wi 1 := by rw [eNH273]; exact hTi
                  refine h_run 0 (pc' := 147) (l' := [(0, .inr (.inr 1826)), (1, .inl (kn : Int)), (2, .inl bk), (3, .inl (s : Int)), (4, .inl (q : Int)), (5, .inl (wi : Int)), (6, .inl (o : Int)), (7, .inl (wi : Int)), (8, .inl (a9 : Int)), (9, .inl (b9 : Int))]) (st' := [.inl 1]) rfl ?_
                  refine h_zeq (off := 35) (t := 182) rfl rfl (by decide) (fun c => absurd c (by decide)) (fun _ => ?_)
                  refine h_run 9 (pc' := 166) (l' := [(0, .inr (.inr 1826)), (1, .inl (kn : Int)), (2, .inl bk), (3, .inl (s : Int)), (4, .inl (q : Int)), (5, .inl (wi : Int)), (6, .inl (o : Int)), (7, .inl (wi : Int)), (8, .inl (a9 : Int)), (9, .inl (b9 : Int))]) (st' := [.inl (b9 : Int), .inr (.inr 1881), .inl (64 * (b9 : Int)), .inr (.inr 1880), .inr (.inr 1826)]) rfl ?_
                  refine h_ild (c := 1881) (j := b9) (i := (b9 : Int)) rfl rfl (by decide) rfl (by omega) ?_
                  have g283 : -2147483648 ≤ (H273.1 1881 b9) ∧ (H273.1 1881 b9) ≤ 2147483647 := hrg281.2 1881 b9 640 .int rfl (by omega)
                  have e284 : (H273.1 1881 b9) = (H6.1 1881 b9) := congrFun (hfH273.2.1 1881 (by decide) (by decide)) b9
                  have e285 : (H6.1 1881 b9) = (H.1 1881 b9) := congrFun (hfH6.2.1 1881 (by decide) (by decide)) b9
                  refine h_run 0 (pc' := 167) (l' := [(0, .inr (.inr 1826)), (1, .inl (kn : Int)), (2, .inl bk), (3, .inl (s : Int)), (4, .inl (q : Int)), (5, .inl (wi : Int)), (6, .inl (o : Int)), (7, .inl (wi : Int)), (8, .inl (a9 : Int)), (9, .inl (b9 : Int))]) (st' := [.inl (H273.1 1881 b9), .inl (64 * (b9 : Int)), .inr (.inr 1880), .inr (.inr 1826)]) rfl ?_
                  have hszb9 : (H273.1 1881) b9 = (k0 : Int) := by rw [show (H273.1 1881) = (H6.1 1881) from hfH273.2.1 1881 (by decide) (by decide), show (H6.1 1881) = (H.1 1881) from hfH6.2.1 1881 (by decide) (by decide), hb9]; exact k01
                  rw [show (H273.1 1881 b9) = (k0 : Int) by omega]
                  refine h_run 2 (pc' := 172) (l' := [(0, .inr (.inr 1826)), (1, .inl (kn : Int)), (2, .inl bk), (3, .inl (s : Int)), (4, .inl (q : Int)), (5, .inl (wi : Int)), (6, .inl (o : Int)), (7, .inl (wi : Int)), (8, .inl (a9 : Int)), (9, .inl (b9 : Int))]) (st' := [.inl (wi : Int), .inl 2000, .inl (k0 : Int), .inl (64 * (b9 : Int)), .inr (.inr 1880), .inr (.inr 1826)]) rfl ?_
                  have g287 : -2147483648 ≤ (H273.1 1826 93) ∧ (H273.1 1826 93) ≤ 2147483647 := hrg281.1 1826 13 93 _ .int rfl rfl
                  have e288 : (H273.1 1826 93) = (H6.1 1826 93) := hfH273.2.2 93 (by decide)
                  have hQk : sP H H273 := sP_fr (sP_rf H) hf282 (by decide) (by decide)
                  have hPk : PWc H273 := PWc_fr hP hf282 (by decide) (by decide)
                  refine h_cv (i := 597) (j := 242) (b := 1826) (M' := mt_242) (xs := [.inl (wi : Int), .inl 2000, .inl (k0 : Int), .inl (64 * (b9 : Int)), .inr (.inr 1880)]) (rest := []) rfl rfl rfl rfl rfl rfl (Nat.le_of_ble_eq_true rfl) (Nat.le_of_ble_eq_true rfl) (by omega) (m_isMade (p := (64 * b9)) (ln := k0) (N := N) (k := ki) (okp := (okf H)) (by omega) rfl (by decide) (by decide) hPk (by rw [hQk.1, hQk.2.1, hQk.2.2.1, hQk.2.2.2]; exact hTnH273) ⟨by omega, (show (H273.1 1826 93) = (N : Int) by omega)⟩ (by rw [hQk.1, hQk.2.1, hQk.2.2.1, hQk.2.2.2]; exact hTiH273) (by omega) (by rw [hQk.1, hQk.2.1]; exact (by show tm _ _ (H273.1 1880) _ _ 1; rw [show (H273.1 1880) = (H6.1 1880) from hfH273.2.1 1880 (by decide) (by decide), show (H6.1 1880) = (H.1 1880) from hfH6.2.1 1880 (by decide) (by decide), hb9]; exact k03)) (show 64 * b9 + k0 ≤ 40960 ∧ k0 ≤ 60 by omega) (by omega) (by rw [hQk.2.2.1, hQk.2.2.2]; exact (fun s9 h9 => by unfold okf at h9; unfold m_sg at *; omega)) (by rw [hQk.1, hQk.2.1, hQk.2.2.1, hQk.2.2.2]; exact yH273)) ?_
                  rintro _ H286 ⟨(rfl | ⟨rfl, MH286, zH286, mH286, tH286⟩), hfH286⟩
                  · refine h_rng (fun hrg289 => ?_)
                    have hf290 : fr [50, 51, 53, 76, 93, 97] [1847, 1852, 1853, 1855, 1856, 1873, 1874, 1878, 1884, 1886] H H286 := fr_t hf282 hfH286 (by decide) (by decide)
                    have hOSH286 : OS H H286 n := OS_fr hOSH273 hfH286 (by decide) (by decide) (by decide)
                    have hooH286 : (H286.1 1871) 0 = (o : Int) := (congrFun (hfH286.2.1 1871 (by decide) (by decide)) 0).trans hooH273
                    refine h_run 0 (pc' := 175) (l' := [(0, .inr (.inr 1826)), (1, .inl (kn : Int)), (2, .inl bk), (3, .inl (s : Int)), (4, .inl (q : Int)), (5, .inl (wi : Int)), (6, .inl (o : Int)), (7, .inl (wi : Int)), (8, .inl (a9 : Int)), (9, .inl (b9 : Int))]) (st' := [.inl 0]) rfl ?_
                    refine h_zeq (off := 7) (t := 182) rfl rfl (by decide) (fun _ => ?_) (fun c => absurd c (by decide))
                    refine h_run 3 (pc' := 187) (l' := [(0, .inr (.inr 1826)), (1, .inl (kn : Int)), (2, .inl bk), (3, .inl (s : Int)), (4, .inl (q : Int)), (5, .inl (wi : Int)), (6, .inl (o : Int)), (7, .inl (wi : Int)), (8, .inl (a9 : Int)), (9, .inl (b9 : Int)), (10, .inl 0)]) (st' := [.inl 0]) rfl ?_
                    refine h_zne (off := 8) (t := 195) rfl rfl (by decide) (fun c => absurd c (by decide)) (fun _ => ?_)
                    refine h_run 2 (pc' := 214) (l' := [(0, .inr (.inr 1826)), (1, .inl (kn : Int)), (2, .inl bk), (3, .inl (s : Int)), (4, .inl (q : Int)), (5, .inl (wi : Int)), (6, .inl (o : Int)), (7, .inl (wi : Int)), (8, .inl (a9 : Int)), (9, .inl (b9 : Int)), (10, .inl 0)]) (st' := [.inl (-104)]) rfl ?_
                    refine h_reti (x := (-104)) rfl rfl ?_
                    have g291 : -2147483648 ≤ (H286.1 1826 97) ∧ (H286.1 1826 97) ≤ 2147483647 := hrg289.1 1826 13 97 _ .int rfl rfl
                    have e292 : (H286.1 1826 97) = (H273.1 1826 97) := hfH286.2.2 97 (by decide)
                    have e293 : (H273.1 1826 97) = (H6.1 1826 97) := hfH273.2.2 97 (by decide)
                    exact ⟨hf290, (show (H286.1 1826 97) = -1 by omega), hOSH286, _, rfl, ⟨by omega, by omega⟩, Or.inr (by show (H286.1 1874) = (H.1 1874); rw [show (H286.1 1874) = (H273.1 1874) from hfH286.2.1 1874 (by decide) (by decide), show (H273.1 1874) = (H6.1 1874) from hfH273.2.1 1874 (by decide) (by decide), show (H6.1 1874) = (H.1 1874) from hfH6.2.1 1874 (by decide) (by decide)])⟩
                  · refine h_rng (fun hrg294 => ?_)
                    have hf295 : fr [50, 51, 53, 76, 93, 97] [1847, 1852, 1853, 1855, 1856, 1873, 1874, 1878, 1884, 1886] H H286 := fr_t hf282 hfH286 (by decide) (by decide)
                    have hOSH286 : OS H H286 n := OS_fr hOSH273 hfH286 (by decide) (by decide) (by decide)
                    have hooH286 : (H286.1 1871) 0 = (o : Int) := (congrFun (hfH286.2.1 1871 (by decide) (by decide)) 0).trans hooH273
                    have tdH286 : tm (ma (H.1 1833) (H.1 1830)) (m_sg (H.1 1826 3) (H.1 1826 8) 60) (H286.1 1856) MH286 0 1 := by have h9 := tH286; rw [hQk.1, hQk.2.1, hQk.2.2.1, hQk.2.2.2] at h9; exact h9
                    refine h_run 0 (pc' := 175) (l' := [(0, .inr (.inr 1826)), (1, .inl (kn : Int)), (2, .inl bk), (3, .inl (s : Int)), (4, .inl (q : Int)), (5, .inl (wi : Int)), (6, .inl (o : Int)), (7, .inl (wi : Int)), (8, .inl (a9 : Int)), (9, .inl (b9 : Int))]) (st' := [.inl 1]) rfl ?_
                    refine h_zeq (off := 7) (t := 182) rfl rfl (by decide) (fun c => absurd c (by decide)) (fun _ => ?_)
                    refine h_run 4 (pc' := 187) (l' := [(0, .inr (.inr 1826)), (1, .inl (kn : Int)), (2, .inl bk), (3, .inl (s : Int)), (4, .inl (q : Int)), (5, .inl (wi : Int)), (6, .inl (o : Int)), (7, .inl (wi : Int)), (8, .inl (a9 : Int)), (9, .inl (b9 : Int)), (10, .inl 1)]) (st' := [.inl 1]) rfl ?_
                    refine h_zne (off := 8) (t := 195) rfl rfl (by decide) (fun _ => ?_) (fun c => absurd c (by decide))
                    refine h_run 3 (pc' := 199) (l' := [(0, .inr (.inr 1826)), (1, .inl (kn : Int)), (2, .inl bk), (3, .inl (s : Int)), (4, .inl (q : Int)), (5, .inl (wi : Int)), (6, .inl (o : Int)), (7, .inl (wi : Int)), (8, .inl (a9 : Int)), (9, .inl (b9 : Int)), (10, .inl 1)]) (st' := [.inl (s : Int), .inl (o : Int), .inr (.inr 1826)]) rfl ?_
                    refine h_cv (i := 575) (j := 229) (b := 1826) (M' := mt_229) (xs := [.inl (s : Int), .inl (o : Int)]) (rest := []) rfl rfl rfl rfl rfl rfl (Nat.le_of_ble_eq_true rfl) (Nat.le_of_ble_eq_true rfl) (by omega) (m_isKept (M := MH286) (by omega) (by omega) ⟨zH286, mH286⟩) ?_
                    rintro _ H296 (⟨rfl, hxH296, rfl⟩ | ⟨rfl, hlH296, hfH296, hzH296, hcH296, hoH296⟩)
                    · refine h_run 0 (pc' := 202) (l' := [(0, .inr (.inr 1826)), (1, .inl (kn : Int)), (2, .inl bk), (3, .inl (s : Int)), (4, .inl (q : Int)), (5, .inl (wi : Int)), (6, .inl (o : Int)), (7, .inl (wi : Int)), (8, .inl (a9 : Int)), (9, .inl (b9 : Int)), (10, .inl 1)]) (st' := [.inl 0]) rfl ?_
                      refine h_zeq (off := 10) (t := 212) rfl rfl (by decide) (fun _ => ?_) (fun c => absurd c (by decide))
                      refine h_run 1 (pc' := 214) (l' := [(0, .inr (.inr 1826)), (1, .inl (kn : Int)), (2, .inl bk), (3, .inl (s : Int)), (4, .inl (q : Int)), (5, .inl (wi : Int)), (6, .inl (o : Int)), (7, .inl (wi : Int)), (8, .inl (a9 : Int)), (9, .inl (b9 : Int)), (10, .inl 1)]) (st' := [.inl (-105)]) rfl ?_
                      refine h_reti (x := (-105)) rfl rfl ?_
                      have g297 : -2147483648 ≤ (H286.1 1826 97) ∧ (H286.1 1826 97) ≤ 2147483647 := hrg294.1 1826 13 97 _ .int rfl rfl
                      have e298 : (H286.1 1826 97) = (H273.1 1826 97) := hfH286.2.2 97 (by decide)
                      have e299 : (H273.1 1826 97) = (H6.1 1826 97) := hfH273.2.2 97 (by decide)
                      exact ⟨hf295, (show (H286.1 1826 97) = -1 by omega), hOSH286, _, rfl, ⟨by omega, by omega⟩, Or.inr (by show (H286.1 1874) = (H.1 1874); rw [show (H286.1 1874) = (H273.1 1874) from hfH286.2.1 1874 (by decide) (by decide), show (H273.1 1874) = (H6.1 1874) from hfH273.2.1 1874 (by decide) (by decide), show (H6.1 1874) = (H.1 1874) from hfH6.2.1 1874 (by decide) (by decide)])⟩
                    · refine h_rng (fun hrg300 => ?_)
                      have hf301 : fr [50, 51, 53, 76, 93, 97] [1847, 1852, 1853, 1855, 1856, 1873, 1874, 1878, 1884, 1886] H H296 := fr_t hf295 hfH296 (by decide) (by decide)
                      have hOSH296 : OS H H296 n := OS_side hOSH286 hooH286 hfH296 hs hlH296 hzH296 hcH296 hoH296 tdH286
                      have hooH296 : (H296.1 1871) 0 = (o : Int) := (congrFun (hfH296.2.1 1871 (by decide) (by decide)) 0).trans hooH286
                      refine h_run 0 (pc' := 202) (l' := [(0, .inr (.inr 1826)), (1, .inl (kn : Int)), (2, .inl bk), (3, .inl (s : Int)), (4, .inl (q : Int)), (5, .inl (wi : Int)), (6, .inl (o : Int)), (7, .inl (wi : Int)), (8, .inl (a9 : Int)), (9, .inl (b9 : Int)), (10, .inl 1)]) (st' := [.inl 1]) rfl ?_
                      refine h_zeq (off := 10) (t := 212) rfl rfl (by decide) (fun c => absurd c (by decide)) (fun _ => ?_)
                      refine h_run 1 (pc' := 206) (l' := [(0, .inr (.inr 1826)), (1, .inl (kn : Int)), (2, .inl bk), (3, .inl (s : Int)), (4, .inl (q : Int)), (5, .inl (wi : Int)), (6, .inl (o : Int)), (7, .inl (wi : Int)), (8, .inl (a9 : Int)), (9, .inl (b9 : Int)), (10, .inl 1)]) (st' := [.inr (.inr 1826)]) rfl ?_
                      refine h_cv (i := 556) (j := 232) (b := 1826) (M' := mt_232) (xs := []) (rest := []) rfl rfl rfl rfl rfl rfl (Nat.le_of_ble_eq_true rfl) (Nat.le_of_ble_eq_true rfl) (by omega) (m_did (n := n) (by omega) hOSH296.1.1 (fun q9 => absurd q9 (by omega)) (by rw [show (H296.1 1871) 0 = (o : Int) from hooH296]; omega)) ?_
                      rintro _ H302 ⟨rfl, hfH302⟩
                      refine h_rng (fun hrg303 => ?_)
                      have hf304 : fr [50, 51, 53, 76, 93, 97] [1847, 1852, 1853, 1855, 1856, 1873, 1874, 1878, 1884, 1886] H H302 := fr_t hf301 hfH302 (by decide) (by decide)
                      have hOSH302 : OS H H302 n := OS_fr hOSH296 hfH302 (by decide) (by decide) (by decide)
                      have hooH302 : (H302.1 1871) 0 = (o : Int) := (congrFun (hfH302.2.1 1871 (by decide) (by decide)) 0).trans hooH296
                      refine h_run 0 (pc' := 209) (l' := [(0, .inr (.inr 1826)), (1, .inl (kn : Int)), (2, .inl bk), (3, .inl (s : Int)), (4, .inl (q : Int)), (5, .inl (wi : Int)), (6, .inl (o : Int)), (7, .inl (wi : Int)), (8, .inl (a9 : Int)), (9, .inl (b9 : Int)), (10, .inl 1)]) (st' := [.inl (n : Int)]) rfl ?_
                      refine h_run 1 (pc' := 214) (l' := [(0, .inr (.inr 1826)), (1, .inl (kn : Int)), (2, .inl bk), (3, .inl (s : Int)), (4, .inl (q : Int)), (5, .inl (wi : Int)), (6, .inl (o : Int)), (7, .inl (wi : Int)), (8, .inl (a9 : Int)), (9, .inl (b9 : Int)), (10, .inl 1)]) (st' := [.inl (n : Int)]) rfl ?_
                      refine h_reti (x := (n : Int)) rfl rfl ?_
                      have g305 : -2147483648 ≤ (H302.1 1826 97) ∧ (H302.1 1826 97) ≤ 2147483647 := hrg303.1 1826 13 97 _ .int rfl rfl
                      have e306 : (H302.1 1826 97) = (H296.1 1826 97) := hfH302.2.2 97 (by decide)
                      have e307 : (H296.1 1826 97) = (H286.1 1826 97) := hfH296.2.2 97 (by decide)
                      have e308 : (H286.1 1826 97) = (H273.1 1826 97) := hfH286.2.2 97 (by decide)
                      have e309 : (H273.1 1826 97) = (H6.1 1826 97) := hfH273.2.2 97 (by decide)
                      exact ⟨hf304, (show (H302.1 1826 97) = -1 by omega), hOSH302, _, rfl, ⟨by omega, by omega⟩, Or.inl (by omega)⟩
              · refine h_run 2 (pc' := 144) (l' := [(0, .inr (.inr 1826)), (1, .inl (kn : Int)), (2, .inl bk), (3, .inl (s : Int)), (4, .inl (q : Int)), (5, .inl (wi : Int)), (6, .inl (o : Int)), (7, .inl (wi : Int)), (8, .inl (a9 : Int)), (9, .inl (b9 : Int))]) (st' := [.inl 0, .inl (H6.1 1875 o), .inl (wi : Int), .inl 2000, .inl (k1 : Int), .inl (64 * (a9 : Int)), .inr (.inr 1880), .inr (.inr 1826)]) rfl ?_
                have g311 : -2147483648 ≤ (H6.1 1826 93) ∧ (H6.1 1826 93) ≤ 2147483647 := hrg7.1 1826 13 93 _ .int rfl rfl
                have g312 : -2147483648 ≤ (H6.1 1826 97) ∧ (H6.1 1826 97) ≤ 2147483647 := hrg7.1 1826 13 97 _ .int rfl rfl
                have e313 : (H6.1 1826 97) = (H.1 1826 97) := hfH6.2.2 97 (by decide)
                have hQl : sP H H6 := sP_fr (sP_rf H) hf8 (by decide) (by decide)
                have hPl : PWc H6 := PWc_fr hP hf8 (by decide) (by decide)
                refine h_cv (i := 593) (j := 239) (b := 1826) (M' := mt_239) (xs := [.inl 0, .inl (H6.1 1875 o), .inl (wi : Int), .inl 2000, .inl (k1 : Int), .inl (64 * (a9 : Int)), .inr (.inr 1880)]) (rest := []) rfl rfl rfl rfl rfl rfl (Nat.le_of_ble_eq_true rfl) (Nat.le_of_ble_eq_true rfl) (by omega) (m_isLike (p := (64 * a9)) (ln := k1) (N := N) (k := ki) (V := 60) (okp := (okf H)) (by omega) rfl (by decide) (by decide) hPl (by rw [hQl.1, hQl.2.1, hQl.2.2.1, hQl.2.2.2]; exact hTn) ⟨by omega, (show (H6.1 1826 93) = (N : Int) by omega)⟩ (by rw [hQl.1, hQl.2.1, hQl.2.2.1, hQl.2.2.2]; exact hTi) (by omega) (by rw [hQl.1, hQl.2.1]; exact (by show tm _ _ (H6.1 1880) _ _ 1; rw [show (H6.1 1880) = (H.1 1880) from hfH6.2.1 1880 (by decide) (by decide), ha9]; exact k13)) (show 64 * a9 + k1 ≤ 40960 ∧ k1 ≤ 60 by omega) (by omega) (Or.inl (show (H6.1 1826 97) = -1 ∧ 60 ≤ 60 by omega)) (fun s9 h9 => by unfold okf m_sg at h9; omega) (by omega)) ?_
                rintro _ H310 ⟨(rfl | ⟨rfl, xH310⟩), hfH310⟩
                · refine h_rng (fun hrg314 => ?_)
                  have hf315 : fr [50, 51, 53, 76, 93, 97] [1847, 1852, 1853, 1855, 1856, 1873, 1874, 1878, 1884, 1886] H H310 := fr_t hf8 hfH310 (by decide) (by decide)
                  have hOSH310 : OS H H310 n := OS_fr hOSH6 hfH310 (by decide) (by decide) (by decide)
                  have hooH310 : (H310.1 1871) 0 = (o : Int) := (congrFun (hfH310.2.1 1871 (by decide) (by decide)) 0).trans hooH6
                  refine h_run 0 (pc' := 147) (l' := [(0, .inr (.inr 1826)), (1, .inl (kn : Int)), (2, .inl bk), (3, .inl (s : Int)), (4, .inl (q : Int)), (5, .inl (wi : Int)), (6, .inl (o : Int)), (7, .inl (wi : Int)), (8, .inl (a9 : Int)), (9, .inl (b9 : Int))]) (st' := [.inl 0]) rfl ?_
                  refine h_zeq (off := 35) (t := 182) rfl rfl (by decide) (fun _ => ?_) (fun c => absurd c (by decide))
                  refine h_run 3 (pc' := 187) (l' := [(0, .inr (.inr 1826)), (1, .inl (kn : Int)), (2, .inl bk), (3, .inl (s : Int)), (4, .inl (q : Int)), (5, .inl (wi : Int)), (6, .inl (o : Int)), (7, .inl (wi : Int)), (8, .inl (a9 : Int)), (9, .inl (b9 : Int)), (10, .inl 0)]) (st' := [.inl 0]) rfl ?_
                  refine h_zne (off := 8) (t := 195) rfl rfl (by decide) (fun c => absurd c (by decide)) (fun _ => ?_)
                  refine h_run 2 (pc' := 214) (l' := [(0, .inr (.inr 1826)), (1, .inl (kn : Int)), (2, .inl bk), (3, .inl (s : Int)), (4, .inl (q : Int)), (5, .inl (wi : Int)), (6, .inl (o : Int)), (7, .inl (wi : Int)), (8, .inl (a9 : Int)), (9, .inl (b9 : Int)), (10, .inl 0)]) (st' := [.inl (-104)]) rfl ?_
                  refine h_reti (x := (-104)) rfl rfl ?_
                  have g316 : -2147483648 ≤ (H310.1 1826 97) ∧ (H310.1 1826 97) ≤ 2147483647 := hrg314.1 1826 13 97 _ .int rfl rfl
                  have e317 : (H310.1 1826 97) = (H6.1 1826 97) := hfH310.2.2 97 (by decide)
                  exact ⟨hf315, (show (H310.1 1826 97) = -1 by omega), hOSH310, _, rfl, ⟨by omega, by omega⟩, Or.inr (by show (H310.1 1874) = (H.1 1874); rw [show (H310.1 1874) = (H6.1 1874) from hfH310.2.1 1874 (by decide) (by decide), show (H6.1 1874) = (H.1 1874) from hfH6.2.1 1874 (by decide) (by decide)])⟩
                · refine h_rng (fun hrg318 => ?_)
                  have hf319 : fr [50, 51, 53, 76, 93, 97] [1847, 1852, 1853, 1855, 1856, 1873, 1874, 1878, 1884, 1886] H H310 := fr_t hf8 hfH310 (by decide) (by decide)
                  have hOSH310 : OS H H310 n := OS_fr hOSH6 hfH310 (by decide) (by decide) (by decide)
                  have hooH310 : (H310.1 1871) 0 = (o : Int) := (congrFun (hfH310.2.1 1871 (by decide) (by decide)) 0).trans hooH6
                  have eNH310 : (H310.1 1884) = (H6.1 1884) := hfH310.2.1 1884 (by decide) (by decide)
                  have yH310 : fre (ma (H.1 1833) (H.1 1830)) (m_sg (H.1 1826 3) (H.1 1826 8) 60) (H310.1 1884) (H310.1 1886) N := by have h9 := xH310; rw [hQl.1, hQl.2.1, hQl.2.2.1, hQl.2.2.2] at h9; rw [eNH310]; exact h9
                  have hTnH310 : tm (ma (H.1 1833) (H.1 1830)) (m_sg (H.1 1826 3) (H.1 1826 8) 60) (H310.1 1884) N 0 1 := by rw [eNH310]; exact hTn
                  have hTiH310 : tm (ma (H.1 1833) (H.1 1830)) (m_sg (H.1 1826 3) (H.1 1826 8) 60) (H310.1 1884) ki wi 1 := by rw [eNH310]; exact hTi
                  refine h_run 0 (pc' := 147) (l' := [(0, .inr (.inr 1826)), (1, .inl (kn : Int)), (2, .inl bk), (3, .inl (s : Int)), (4, .inl (q : Int)), (5, .inl (wi : Int)), (6, .inl (o : Int)), (7, .inl (wi : Int)), (8, .inl (a9 : Int)), (9, .inl (b9 : Int))]) (st' := [.inl 1]) rfl ?_
                  refine h_zeq (off := 35) (t := 182) rfl rfl (by decide) (fun c => absurd c (by decide)) (fun _ => ?_)
                  refine h_run 9 (pc' := 166) (l' := [(0, .inr (.inr 1826)), (1, .inl (kn : Int)), (2, .inl bk), (3, .inl (s : Int)), (4, .inl (q : Int)), (5, .inl (wi : Int)), (6, .inl (o : Int)), (7, .inl (wi : Int)), (8, .inl (a9 : Int)), (9, .inl (b9 : Int))]) (st' := [.inl (b9 : Int), .inr (.inr 1881), .inl (64 * (b9 : Int)), .inr (.inr 1880), .inr (.inr 1826)]) rfl ?_
                  refine h_ild (c := 1881) (j := b9) (i := (b9 : Int)) rfl rfl (by decide) rfl (by omega) ?_
                  have g320 : -2147483648 ≤ (H310.1 1881 b9) ∧ (H310.1 1881 b9) ≤ 2147483647 := hrg318.2 1881 b9 640 .int rfl (by omega)
                  have e321 : (H310.1 1881 b9) = (H6.1 1881 b9) := congrFun (hfH310.2.1 1881 (by decide) (by decide)) b9
                  have e322 : (H6.1 1881 b9) = (H.1 1881 b9) := congrFun (hfH6.2.1 1881 (by decide) (by decide)) b9
                  refine h_run 0 (pc' := 167) (l' := [(0, .inr (.inr 1826)), (1, .inl (kn : Int)), (2, .inl bk), (3, .inl (s : Int)), (4, .inl (q : Int)), (5, .inl (wi : Int)), (6, .inl (o : Int)), (7, .inl (wi : Int)), (8, .inl (a9 : Int)), (9, .inl (b9 : Int))]) (st' := [.inl (H310.1 1881 b9), .inl (64 * (b9 : Int)), .inr (.inr 1880), .inr (.inr 1826)]) rfl ?_
                  have hszb9 : (H310.1 1881) b9 = (k0 : Int) := by rw [show (H310.1 1881) = (H6.1 1881) from hfH310.2.1 1881 (by decide) (by decide), show (H6.1 1881) = (H.1 1881) from hfH6.2.1 1881 (by decide) (by decide), hb9]; exact k01
                  rw [show (H310.1 1881 b9) = (k0 : Int) by omega]
                  refine h_run 2 (pc' := 172) (l' := [(0, .inr (.inr 1826)), (1, .inl (kn : Int)), (2, .inl bk), (3, .inl (s : Int)), (4, .inl (q : Int)), (5, .inl (wi : Int)), (6, .inl (o : Int)), (7, .inl (wi : Int)), (8, .inl (a9 : Int)), (9, .inl (b9 : Int))]) (st' := [.inl (wi : Int), .inl 2000, .inl (k0 : Int), .inl (64 * (b9 : Int)), .inr (.inr 1880), .inr (.inr 1826)]) rfl ?_
                  have g324 : -2147483648 ≤ (H310.1 1826 93) ∧ (H310.1 1826 93) ≤ 2147483647 := hrg318.1 1826 13 93 _ .int rfl rfl
                  have e325 : (H310.1 1826 93) = (H6.1 1826 93) := hfH310.2.2 93 (by decide)
                  have hQk : sP H H310 := sP_fr (sP_rf H) hf319 (by decide) (by decide)
                  have hPk : PWc H310 := PWc_fr hP hf319 (by decide) (by decide)
                  refine h_cv (i := 597) (j := 242) (b := 1826) (M' := mt_242) (xs := [.inl (wi : Int), .inl 2000, .inl (k0 : Int), .inl (64 * (b9 : Int)), .inr (.inr 1880)]) (rest := []) rfl rfl rfl rfl rfl rfl (Nat.le_of_ble_eq_true rfl) (Nat.le_of_ble_eq_true rfl) (by omega) (m_isMade (p := (64 * b9)) (ln := k0) (N := N) (k := ki) (okp := (okf H)) (by omega) rfl (by decide) (by decide) hPk (by rw [hQk.1, hQk.2.1, hQk.2.2.1, hQk.2.2.2]; exact hTnH310) ⟨by omega, (show (H310.1 1826 93) = (N : Int) by omega)⟩ (by rw [hQk.1, hQk.2.1, hQk.2.2.1, hQk.2.2.2]; exact hTiH310) (by omega) (by rw [hQk.1, hQk.2.1]; exact (by show tm _ _ (H310.1 1880) _ _ 1; rw [show (H310.1 1880) = (H6.1 1880) from hfH310.2.1 1880 (by decide) (by decide), show (H6.1 1880) = (H.1 1880) from hfH6.2.1 1880 (by decide) (by decide), hb9]; exact k03)) (show 64 * b9 + k0 ≤ 40960 ∧ k0 ≤ 60 by omega) (by omega) (by rw [hQk.2.2.1, hQk.2.2.2]; exact (fun s9 h9 => by unfold okf at h9; unfold m_sg at *; omega)) (by rw [hQk.1, hQk.2.1, hQk.2.2.1, hQk.2.2.2]; exact yH310)) ?_
                  rintro _ H323 ⟨(rfl | ⟨rfl, MH323, zH323, mH323, tH323⟩), hfH323⟩
                  · refine h_rng (fun hrg326 => ?_)
                    have hf327 : fr [50, 51, 53, 76, 93, 97] [1847, 1852, 1853, 1855, 1856, 1873, 1874, 1878, 1884, 1886] H H323 := fr_t hf319 hfH323 (by decide) (by decide)
                    have hOSH323 : OS H H323 n := OS_fr hOSH310 hfH323 (by decide) (by decide) (by decide)
                    have hooH323 : (H323.1 1871) 0 = (o : Int) := (congrFun (hfH323.2.1 1871 (by decide) (by decide)) 0).trans hooH310
                    refine h_run 0 (pc' := 175) (l' := [(0, .inr (.inr 1826)), (1, .inl (kn : Int)), (2, .inl bk), (3, .inl (s : Int)), (4, .inl (q : Int)), (5, .inl (wi : Int)), (6, .inl (o : Int)), (7, .inl (wi : Int)), (8, .inl (a9 : Int)), (9, .inl (b9 : Int))]) (st' := [.inl 0]) rfl ?_
                    refine h_zeq (off := 7) (t := 182) rfl rfl (by decide) (fun _ => ?_) (fun c => absurd c (by decide))
                    refine h_run 3 (pc' := 187) (l' := [(0, .inr (.inr 1826)), (1, .inl (kn : Int)), (2, .inl bk), (3, .inl (s : Int)), (4, .inl (q : Int)), (5, .inl (wi : Int)), (6, .inl (o : Int)), (7, .inl (wi : Int)), (8, .inl (a9 : Int)), (9, .inl (b9 : Int)), (10, .inl 0)]) (st' := [.inl 0]) rfl ?_
                    refine h_zne (off := 8) (t := 195) rfl rfl (by decide) (fun c => absurd c (by decide)) (fun _ => ?_)
                    refine h_run 2 (pc' := 214) (l' := [(0, .inr (.inr 1826)), (1, .inl (kn : Int)), (2, .inl bk), (3, .inl (s : Int)), (4, .inl (q : Int)), (5, .inl (wi : Int)), (6, .inl (o : Int)), (7, .inl (wi : Int)), (8, .inl (a9 : Int)), (9, .inl (b9 : Int)), (10, .inl 0)]) (st' := [.inl (-104)]) rfl ?_
                    refine h_reti (x := (-104)) rfl rfl ?_
                    have g328 : -2147483648 ≤ (H323.1 1826 97) ∧ (H323.1 1826 97) ≤ 2147483647 := hrg326.1 1826 13 97 _ .int rfl rfl
                    have e329 : (H323.1 1826 97) = (H310.1 1826 97) := hfH323.2.2 97 (by decide)
                    have e330 : (H310.1 1826 97) = (H6.1 1826 97) := hfH310.2.2 97 (by decide)
                    exact ⟨hf327, (show (H323.1 1826 97) = -1 by omega), hOSH323, _, rfl, ⟨by omega, by omega⟩, Or.inr (by show (H323.1 1874) = (H.1 1874); rw [show (H323.1 1874) = (H310.1 1874) from hfH323.2.1 1874 (by decide) (by decide), show (H310.1 1874) = (H6.1 1874) from hfH310.2.1 1874 (by decide) (by decide), show (H6.1 1874) = (H.1 1874) from hfH6.2.1 1874 (by decide) (by decide)])⟩
                  · refine h_rng (fun hrg331 => ?_)
                    have hf332 : fr [50, 51, 53, 76, 93, 97] [1847, 1852, 1853, 1855, 1856, 1873, 1874, 1878, 1884, 1886] H H323 := fr_t hf319 hfH323 (by decide) (by decide)
                    have hOSH323 : OS H H323 n := OS_fr hOSH310 hfH323 (by decide) (by decide) (by decide)
                    have hooH323 : (H323.1 1871) 0 = (o : Int) := (congrFun (hfH323.2.1 1871 (by decide) (by decide)) 0).trans hooH310
                    have tdH323 : tm (ma (H.1 1833) (H.1 1830)) (m_sg (H.1 1826 3) (H.1 1826 8) 60) (H323.1 1856) MH323 0 1 := by have h9 := tH323; rw [hQk.1, hQk.2.1, hQk.2.2.1, hQk.2.2.2] at h9; exact h9
                    refine h_run 0 (pc' := 175) (l' := [(0, .inr (.inr 1826)), (1, .inl (kn : Int)), (2, .inl bk), (3, .inl (s : Int)), (4, .inl (q : Int)), (5, .inl (wi : Int)), (6, .inl (o : Int)), (7, .inl (wi : Int)), (8, .inl (a9 : Int)), (9, .inl (b9 : Int))]) (st' := [.inl 1]) rfl ?_
                    refine h_zeq (off := 7) (t := 182) rfl rfl (by decide) (fun c => absurd c (by decide)) (fun _ => ?_)
                    refine h_run 4 (pc' := 187) (l' := [(0, .inr (.inr 1826)), (1, .inl (kn : Int)), (2, .inl bk), (3, .inl (s : Int)), (4, .inl (q : Int)), (5, .inl (wi : Int)), (6, .inl (o : Int)), (7, .inl (wi : Int)), (8, .inl (a9 : Int)), (9, .inl (b9 : Int)), (10, .inl 1)]) (st' := [.inl 1]) rfl ?_
                    refine h_zne (off := 8) (t := 195) rfl rfl (by decide) (fun _ => ?_) (fun c => absurd c (by decide))
                    refine h_run 3 (pc' := 199) (l' := [(0, .inr (.inr 1826)), (1, .inl (kn : Int)), (2, .inl bk), (3, .inl (s : Int)), (4, .inl (q : Int)), (5, .inl (wi : Int)), (6, .inl (o : Int)), (7, .inl (wi : Int)), (8, .inl (a9 : Int)), (9, .inl (b9 : Int)), (10, .inl 1)]) (st' := [.inl (s : Int), .inl (o : Int), .inr (.inr 1826)]) rfl ?_
                    refine h_cv (i := 575) (j := 229) (b := 1826) (M' := mt_229) (xs := [.inl (s : Int), .inl (o : Int)]) (rest := []) rfl rfl rfl rfl rfl rfl (Nat.le_of_ble_eq_true rfl) (Nat.le_of_ble_eq_true rfl) (by omega) (m_isKept (M := MH323) (by omega) (by omega) ⟨zH323, mH323⟩) ?_
                    rintro _ H333 (⟨rfl, hxH333, rfl⟩ | ⟨rfl, hlH333, hfH333, hzH333, hcH333, hoH333⟩)
                    · refine h_run 0 (pc' := 202) (l' := [(0, .inr (.inr 1826)), (1, .inl (kn : Int)), (2, .inl bk), (3, .inl (s : Int)), (4, .inl (q : Int)), (5, .inl (wi : Int)), (6, .inl (o : Int)), (7, .inl (wi : Int)), (8, .inl (a9 : Int)), (9, .inl (b9 : Int)), (10, .inl 1)]) (st' := [.inl 0]) rfl ?_
                      refine h_zeq (off := 10) (t := 212) rfl rfl (by decide) (fun _ => ?_) (fun c => absurd c (by decide))
                      refine h_run 1 (pc' := 214) (l' := [(0, .inr (.inr 1826)), (1, .inl (kn : Int)), (2, .inl bk), (3, .inl (s : Int)), (4, .inl (q : Int)), (5, .inl (wi : Int)), (6, .inl (o : Int)), (7, .inl (wi : Int)), (8, .inl (a9 : Int)), (9, .inl (b9 : Int)), (10, .inl 1)]) (st' := [.inl (-105)]) rfl ?_
                      refine h_reti (x := (-105)) rfl rfl ?_
                      have g334 : -2147483648 ≤ (H323.1 1826 97) ∧ (H323.1 1826 97) ≤ 2147483647 := hrg331.1 1826 13 97 _ .int rfl rfl
                      have e335 : (H323.1 1826 97) = (H310.1 1826 97) := hfH323.2.2 97 (by decide)
                      have e336 : (H310.1 1826 97) = (H6.1 1826 97) := hfH310.2.2 97 (by decide)
                      exact ⟨hf332, (show (H323.1 1826 97) = -1 by omega), hOSH323, _, rfl, ⟨by omega, by omega⟩, Or.inr (by show (H323.1 1874) = (H.1 1874); rw [show (H323.1 1874) = (H310.1 1874) from hfH323.2.1 1874 (by decide) (by decide), show (H310.1 1874) = (H6.1 1874) from hfH310.2.1 1874 (by decide) (by decide), show (H6.1 1874) = (H.1 1874) from hfH6.2.1 1874 (by decide) (by decide)])⟩
                    · refine h_rng (fun hrg337 => ?_)
                      have hf338 : fr [50, 51, 53, 76, 93, 97] [1847, 1852, 1853, 1855, 1856, 1873, 1874, 1878, 1884, 1886] H H333 := fr_t hf332 hfH333 (by decide) (by decide)
                      have hOSH333 : OS H H333 n := OS_side hOSH323 hooH323 hfH333 hs hlH333 hzH333 hcH333 hoH333 tdH323
                      have hooH333 : (H333.1 1871) 0 = (o : Int) := (congrFun (hfH333.2.1 1871 (by decide) (by decide)) 0).trans hooH323
                      refine h_run 0 (pc' := 202) (l' := [(0, .inr (.inr 1826)), (1, .inl (kn : Int)), (2, .inl bk), (3, .inl (s : Int)), (4, .inl (q : Int)), (5, .inl (wi : Int)), (6, .inl (o : Int)), (7, .inl (wi : Int)), (8, .inl (a9 : Int)), (9, .inl (b9 : Int)), (10, .inl 1)]) (st' := [.inl 1]) rfl ?_
                      refine h_zeq (off := 10) (t := 212) rfl rfl (by decide) (fun c => absurd c (by decide)) (fun _ => ?_)
                      refine h_run 1 (pc' := 206) (l' := [(0, .inr (.inr 1826)), (1, .inl (kn : Int)), (2, .inl bk), (3, .inl (s : Int)), (4, .inl (q : Int)), (5, .inl (wi : Int)), (6, .inl (o : Int)), (7, .inl (wi : Int)), (8, .inl (a9 : Int)), (9, .inl (b9 : Int)), (10, .inl 1)]) (st' := [.inr (.inr 1826)]) rfl ?_
                      refine h_cv (i := 556) (j := 232) (b := 1826) (M' := mt_232) (xs := []) (rest := []) rfl rfl rfl rfl rfl rfl (Nat.le_of_ble_eq_true rfl) (Nat.le_of_ble_eq_true rfl) (by omega) (m_did (n := n) (by omega) hOSH333.1.1 (fun q9 => absurd q9 (by omega)) (by rw [show (H333.1 1871) 0 = (o : Int) from hooH333]; omega)) ?_
                      rintro _ H339 ⟨rfl, hfH339⟩
                      refine h_rng (fun hrg340 => ?_)
                      have hf341 : fr [50, 51, 53, 76, 93, 97] [1847, 1852, 1853, 1855, 1856, 1873, 1874, 1878, 1884, 1886] H H339 := fr_t hf338 hfH339 (by decide) (by decide)
                      have hOSH339 : OS H H339 n := OS_fr hOSH333 hfH339 (by decide) (by decide) (by decide)
                      have hooH339 : (H339.1 1871) 0 = (o : Int) := (congrFun (hfH339.2.1 1871 (by decide) (by decide)) 0).trans hooH333
                      refine h_run 0 (pc' := 209) (l' := [(0, .inr (.inr 1826)), (1, .inl (kn : Int)), (2, .inl bk), (3, .inl (s : Int)), (4, .inl (q : Int)), (5, .inl (wi : Int)), (6, .inl (o : Int)), (7, .inl (wi : Int)), (8, .inl (a9 : Int)), (9, .inl (b9 : Int)), (10, .inl 1)]) (st' := [.inl (n : Int)]) rfl ?_
                      refine h_run 1 (pc' := 214) (l' := [(0, .inr (.inr 1826)), (1, .inl (kn : Int)), (2, .inl bk), (3, .inl (s : Int)), (4, .inl (q : Int)), (5, .inl (wi : Int)), (6, .inl (o : Int)), (7, .inl (wi : Int)), (8, .inl (a9 : Int)), (9, .inl (b9 : Int)), (10, .inl 1)]) (st' := [.inl (n : Int)]) rfl ?_
                      refine h_reti (x := (n : Int)) rfl rfl ?_
                      have g342 : -2147483648 ≤ (H339.1 1826 97) ∧ (H339.1 1826 97) ≤ 2147483647 := hrg340.1 1826 13 97 _ .int rfl rfl
                      have e343 : (H339.1 1826 97) = (H333.1 1826 97) := hfH339.2.2 97 (by decide)
                      have e344 : (H333.1 1826 97) = (H323.1 1826 97) := hfH333.2.2 97 (by decide)
                      have e345 : (H323.1 1826 97) = (H310.1 1826 97) := hfH323.2.2 97 (by decide)
                      have e346 : (H310.1 1826 97) = (H6.1 1826 97) := hfH310.2.2 97 (by decide)
                      exact ⟨hf341, (show (H339.1 1826 97) = -1 by omega), hOSH339, _, rfl, ⟨by omega, by omega⟩, Or.inl (by omega)⟩
        · refine h_run 1 (pc' := 60) (l' := [(0, .inr (.inr 1826)), (1, .inl (kn : Int)), (2, .inl bk), (3, .inl (s : Int)), (4, .inl (q : Int)), (5, .inl (wi : Int)), (6, .inl (o : Int)), (7, .inl (wi : Int))]) (st' := [.inl (-104)]) rfl ?_
          refine h_reti (x := (-104)) rfl rfl ?_
          have g347 : -2147483648 ≤ (H6.1 1826 97) ∧ (H6.1 1826 97) ≤ 2147483647 := hrg7.1 1826 13 97 _ .int rfl rfl
          have e348 : (H6.1 1826 97) = (H.1 1826 97) := hfH6.2.2 97 (by decide)
          exact ⟨hf8, (show (H6.1 1826 97) = -1 by omega), hOSH6, _, rfl, ⟨by omega, by omega⟩, Or.inr (by show (H6.1 1874) = (H.1 1874); rw [show (H6.1 1874) = (H.1 1874) from hfH6.2.1 1874 (by decide) (by decide)])⟩
    · refine h_run 1 (pc' := 25) (l' := [(0, .inr (.inr 1826)), (1, .inl kx), (2, .inl bk), (3, .inl (s : Int)), (4, .inl (q : Int)), (5, .inl wh), (6, .inl (o : Int))]) (st' := [.inl (-104)]) rfl ?_
      refine h_reti (x := (-104)) rfl rfl ?_
      have g349 : -2147483648 ≤ (H.1 1826 97) ∧ (H.1 1826 97) ≤ 2147483647 := hrg0.1 1826 13 97 _ .int rfl rfl
      exact ⟨(fr_rf _ _ _), (show (H.1 1826 97) = -1 by omega), hO, _, rfl, ⟨by omega, by omega⟩, Or.inr rfl⟩

/-! casesAt -/
set_option maxRecDepth 100000 in
theorem m_casesAt {zC : Nat → Option zsh} {d : Nat} (hd : 5 ≤ d) {H : hp} {n o s q : Nat} {wh : Int} (hP : PWc H) (hO : OS H H n) (hvv : 0 ≤ (H.1 1826 89) ∧ (H.1 1826 89) ≤ 60) (hpr : 0 ≤ (H.1 1826 74) ∧ (H.1 1826 74) < 16) (ho1 : (H.1 1871) 0 = (o : Int)) (hs : s < 2) (hq : q ≤ 2147483647) (hwh : wh = -1 ∨ (0 ≤ wh ∧ wh < (H.1 1874) (2 * o + s))) : hG (zs zC) d mt_256 0 (zargs 0 [.inr (.inr 1826), .inl (s : Int), .inl (q : Int), .inl wh]) [] H (fun r9 H2 => fr [53, 76, 77, 89, 93, 95, 99, 101] [1847, 1856, 1871, 1872, 1873, 1874, 1875, 1876, 1877, 1878, 1879, 1880, 1881, 1882, 1883, 1884, 1885, 1887, 1888] H H2 ∧ (0 ≤ (H2.1 1871) 0 ∧ (H2.1 1871) 0 < 40) ∧ (0 ≤ (H2.1 1826 89) ∧ (H2.1 1826 89) ≤ 60) ∧ (((r9 = some (.inl (-104)) ∧ OS H H2 n) ∨ (r9 = some (.inl (-105)) ∧ OS H H2 n)) ∨ ∃ n2 : Nat, r9 = some (.inl (n2 : Int)) ∧ (H2.1 1826 77) = (n2 : Int) ∧ (n2 = 0 ∨ OS H H2 n2))) := by
  refine h_rng (fun hrg0 => ?_)
  refine h_run 0 (pc' := 0) (l' := [(0, .inr (.inr 1826)), (1, .inl (s : Int)), (2, .inl (q : Int)), (3, .inl wh)]) (st' := []) rfl ?_
  obtain ⟨⟨pb1, pb2, pb3, pb4, pb5⟩, pw1, pw2, pw3, pw4⟩ := (id hP : PW H (H.1 1826 1) (H.1 1826 3) (H.1 1826 8) (H.1 1826 13) (H.1 1826 19))
  obtain ⟨ol, ou, og⟩ := RS_o hO ho1
  obtain ⟨N, hN1, hN2, hN3⟩ := og.1 s hs
  have hnn := hO.1
  have hN0 : 1 ≤ N := tm_le hN3
  refine h_run 3 (pc' := 5) (l' := [(0, .inr (.inr 1826)), (1, .inl (s : Int)), (2, .inl (q : Int)), (3, .inl wh)]) (st' := [.inl 0, .inr (.inr 1871)]) rfl ?_
  refine h_ild (c := 1871) (j := 0) (i := 0) rfl rfl (by decide) rfl (by omega) ?_
  have g1 : -2147483648 ≤ (H.1 1871 0) ∧ (H.1 1871 0) ≤ 2147483647 := hrg0.2 1871 0 13 .int rfl (by omega)
  refine h_run 0 (pc' := 6) (l' := [(0, .inr (.inr 1826)), (1, .inl (s : Int)), (2, .inl (q : Int)), (3, .inl wh)]) (st' := [.inl (H.1 1871 0)]) rfl ?_
  rw [show (H.1 1871 0) = (o : Int) by omega]
  refine h_run 4 (pc' := 12) (l' := [(0, .inr (.inr 1826)), (1, .inl (s : Int)), (2, .inl (q : Int)), (3, .inl wh), (4, .inl (o : Int))]) (st' := [.inl (s : Int), .inl (o : Int), .inr (.inr 1826)]) rfl ?_
  refine h_cv (i := 569) (j := 228) (b := 1826) (M' := mt_228) (xs := [.inl (s : Int), .inl (o : Int)]) (rest := []) rfl rfl rfl rfl rfl rfl (Nat.le_of_ble_eq_true rfl) (Nat.le_of_ble_eq_true rfl) (by omega) (m_bring (k := N) (by omega) (by omega) ⟨hN1, by omega⟩) ?_
  rintro _ H2 ⟨rfl, hfH2, hzH2, hcH2⟩
  refine h_rng (fun hrg3 => ?_)
  have hf4 : fr [53, 76, 77, 89, 93, 95, 99, 101] [1847, 1856, 1871, 1872, 1873, 1874, 1875, 1876, 1877, 1878, 1879, 1880, 1881, 1882, 1883, 1884, 1885, 1887, 1888] H H2 := fr_t (fr_rf _ _ _) hfH2 (by decide) (by decide)
  have hOSH2 : OS H H2 n := OS_fr hO hfH2 (by decide) (by decide) (by decide)
  have hooH2 : (H2.1 1871) 0 = (o : Int) := (congrFun (hfH2.2.1 1871 (by decide) (by decide)) 0).trans ho1
  have hTn : tm (ma (H.1 1833) (H.1 1830)) (m_sg (H.1 1826 3) (H.1 1826 8) 60) (H2.1 1884) N 0 1 := tm_at hN3 (fun x hx => by rw [Nat.zero_add]; exact hcH2 x hx)
  have hQb : sP H H2 := sP_fr (sP_rf H) hf4 (by decide) (by decide)
  have hPb : PWc H2 := PWc_fr hP hf4 (by decide) (by decide)
  refine h_run 0 (pc' := 15) (l' := [(0, .inr (.inr 1826)), (1, .inl (s : Int)), (2, .inl (q : Int)), (3, .inl wh), (4, .inl (o : Int))]) (st' := []) rfl ?_
  refine h_run 2 (pc' := 17) (l' := [(0, .inr (.inr 1826)), (1, .inl (s : Int)), (2, .inl (q : Int)), (3, .inl wh), (4, .inl (o : Int))]) (st' := [.inl (-1), .inl wh]) rfl ?_
  refine h_ieq (off := 7) (t := 24) rfl rfl (by omega) (by decide) (fun c5 => ?_) (fun c5 => ?_)
  · refine h_run 2 (pc' := 26) (l' := [(0, .inr (.inr 1826)), (1, .inl (s : Int)), (2, .inl (q : Int)), (3, .inl wh), (4, .inl (o : Int))]) (st' := [.inl (q : Int), .inr (.inr 1826)]) rfl ?_
    refine h_cv (i := 572) (j := 230) (b := 1826) (M' := mt_230) (xs := [.inl (q : Int)]) (rest := []) rfl rfl rfl rfl rfl rfl (Nat.le_of_ble_eq_true rfl) (Nat.le_of_ble_eq_true rfl) (by omega) (m_placeOf (ok := (m_sg (H.1 1826 3) (H.1 1826 8) 60)) (N := N) (by omega) (by omega) (fun s9 h9 => by unfold m_sg at h9; unfold sg0; omega) (by rw [hQb.1, hQb.2.1]; exact hTn) (by omega)) ?_
    rintro _ _ ⟨(rfl | ⟨i6, rfl, i6l⟩), rfl⟩
    · refine h_run 0 (pc' := 29) (l' := [(0, .inr (.inr 1826)), (1, .inl (s : Int)), (2, .inl (q : Int)), (3, .inl wh), (4, .inl (o : Int))]) (st' := [.inl (-1)]) rfl ?_
      refine h_run 3 (pc' := 34) (l' := [(0, .inr (.inr 1826)), (1, .inl (s : Int)), (2, .inl (q : Int)), (3, .inl wh), (4, .inl (o : Int)), (5, .inl (-1))]) (st' := [.inl (-1), .inl (-1)]) rfl ?_
      refine h_ieq (off := 15) (t := 49) rfl rfl (by decide) (by decide) (fun _ => ?_) (fun c => absurd c (by decide))
      refine h_run 1 (pc' := 51) (l' := [(0, .inr (.inr 1826)), (1, .inl (s : Int)), (2, .inl (q : Int)), (3, .inl wh), (4, .inl (o : Int)), (5, .inl (-1))]) (st' := [.inl (-104)]) rfl ?_
      refine h_reti (x := (-104)) rfl rfl ?_
      have g7 : -2147483648 ≤ (H2.1 1826 89) ∧ (H2.1 1826 89) ≤ 2147483647 := hrg3.1 1826 13 89 _ .int rfl rfl
      have e8 : (H2.1 1826 89) = (H.1 1826 89) := hfH2.2.2 89 (by decide)
      exact ⟨hf4, (by rw [show (H2.1 1871) 0 = (o : Int) from hooH2]; omega), (show 0 ≤ (H2.1 1826 89) ∧ (H2.1 1826 89) ≤ 60 by omega), Or.inl (Or.inl ⟨rfl, hOSH2⟩)⟩
    · refine h_run 0 (pc' := 29) (l' := [(0, .inr (.inr 1826)), (1, .inl (s : Int)), (2, .inl (q : Int)), (3, .inl wh), (4, .inl (o : Int))]) (st' := [.inl (i6 : Int)]) rfl ?_
      refine h_run 3 (pc' := 34) (l' := [(0, .inr (.inr 1826)), (1, .inl (s : Int)), (2, .inl (q : Int)), (3, .inl wh), (4, .inl (o : Int)), (5, .inl (i6 : Int))]) (st' := [.inl (-1), .inl (i6 : Int)]) rfl ?_
      refine h_ieq (off := 15) (t := 49) rfl rfl (by omega) (by decide) (fun c9 => ?_) (fun c9 => ?_)
      · refine h_run 1 (pc' := 51) (l' := [(0, .inr (.inr 1826)), (1, .inl (s : Int)), (2, .inl (q : Int)), (3, .inl wh), (4, .inl (o : Int)), (5, .inl (i6 : Int))]) (st' := [.inl (-104)]) rfl ?_
        refine h_reti (x := (-104)) rfl rfl ?_
        have g10 : -2147483648 ≤ (H2.1 1826 89) ∧ (H2.1 1826 89) ≤ 2147483647 := hrg3.1 1826 13 89 _ .int rfl rfl
        have e11 : (H2.1 1826 89) = (H.1 1826 89) := hfH2.2.2 89 (by decide)
        exact ⟨hf4, (by rw [show (H2.1 1871) 0 = (o : Int) from hooH2]; omega), (show 0 ≤ (H2.1 1826 89) ∧ (H2.1 1826 89) ≤ 60 by omega), Or.inl (Or.inl ⟨rfl, hOSH2⟩)⟩
      · obtain ⟨ki, hki, hTi⟩ := tm_sub hTn (p := i6) (by omega)
        have hki1 : 1 ≤ ki := tm_le hTi
        have hsi := tm_ok hTn i6 (by omega)
        rw [Nat.zero_add] at hsi
        have hsi9 := hsi
        unfold m_sg at hsi9
        refine h_run 3 (pc' := 43) (l' := [(0, .inr (.inr 1826)), (1, .inl (s : Int)), (2, .inl (q : Int)), (3, .inl wh), (4, .inl (o : Int)), (5, .inl (i6 : Int))]) (st' := [.inl (i6 : Int), .inr (.inr 1884)]) rfl ?_
        refine h_ild (c := 1884) (j := i6) (i := (i6 : Int)) rfl rfl (by decide) rfl (by omega) ?_
        have g12 : -2147483648 ≤ (H2.1 1884 i6) ∧ (H2.1 1884 i6) ≤ 2147483647 := hrg3.2 1884 i6 128 .int rfl (by omega)
        refine h_run 0 (pc' := 44) (l' := [(0, .inr (.inr 1826)), (1, .inl (s : Int)), (2, .inl (q : Int)), (3, .inl wh), (4, .inl (o : Int)), (5, .inl (i6 : Int))]) (st' := [.inl (H2.1 1884 i6)]) rfl ?_
        refine h_run 1 (pc' := 46) (l' := [(0, .inr (.inr 1826)), (1, .inl (s : Int)), (2, .inl (q : Int)), (3, .inl wh), (4, .inl (o : Int)), (5, .inl (i6 : Int))]) (st' := [.inl 100, .inl (H2.1 1884 i6)]) rfl ?_
        refine h_ige (off := 6) (t := 52) rfl rfl (by omega) (by decide) (fun c13 => ?_) (fun c13 => ?_)
        · refine h_run 3 (pc' := 58) (l' := [(0, .inr (.inr 1826)), (1, .inl (s : Int)), (2, .inl (q : Int)), (3, .inl wh), (4, .inl (o : Int)), (5, .inl (i6 : Int))]) (st' := [.inl (i6 : Int), .inr (.inr 1884)]) rfl ?_
          refine h_ild (c := 1884) (j := i6) (i := (i6 : Int)) rfl rfl (by decide) rfl (by omega) ?_
          refine h_run 0 (pc' := 59) (l' := [(0, .inr (.inr 1826)), (1, .inl (s : Int)), (2, .inl (q : Int)), (3, .inl wh), (4, .inl (o : Int)), (5, .inl (i6 : Int))]) (st' := [.inl (H2.1 1884 i6)]) rfl ?_
          refine h_run 1 (pc' := 62) (l' := [(0, .inr (.inr 1826)), (1, .inl (s : Int)), (2, .inl (q : Int)), (3, .inl wh), (4, .inl (o : Int)), (5, .inl (i6 : Int))]) (st' := [.inl 1000, .inl (H2.1 1884 i6)]) rfl ?_
          refine h_ilt (off := 21) (t := 83) rfl rfl (by omega) (by decide) (fun c14 => ?_) (fun c14 => ?_)
          · refine h_run 2 (pc' := 86) (l' := [(0, .inr (.inr 1826)), (1, .inl (s : Int)), (2, .inl (q : Int)), (3, .inl wh), (4, .inl (o : Int)), (5, .inl (i6 : Int))]) (st' := [.inl (i6 : Int), .inr (.inr 1826)]) rfl ?_
            have g16 : -2147483648 ≤ (H2.1 1826 89) ∧ (H2.1 1826 89) ≤ 2147483647 := hrg3.1 1826 13 89 _ .int rfl rfl
            have e17 : (H2.1 1826 89) = (H.1 1826 89) := hfH2.2.2 89 (by decide)
            have g18 : -2147483648 ≤ (H2.1 1826 74) ∧ (H2.1 1826 74) ≤ 2147483647 := hrg3.1 1826 13 74 _ .int rfl rfl
            have e19 : (H2.1 1826 74) = (H.1 1826 74) := hfH2.2.2 74 (by decide)
            refine h_cv (i := 641) (j := 258) (b := 1826) (M' := mt_258) (xs := [.inl (i6 : Int)]) (rest := []) rfl rfl rfl rfl rfl rfl (Nat.le_of_ble_eq_true rfl) (Nat.le_of_ble_eq_true rfl) (by omega) (m_casesOfCall (n := n) (o := o) (by omega) hPb (OS_P hQb hOSH2) (show 0 ≤ (H2.1 1826 89) ∧ (H2.1 1826 89) ≤ 60 by omega) (show 0 ≤ (H2.1 1826 74) ∧ (H2.1 1826 74) < 16 by omega) hooH2 (cs := ki) (N := N) (by rw [hQb.1, hQb.2.1, hQb.2.2.1, hQb.2.2.2]; exact hTi) (by omega) (by omega)) ?_
            rintro _ H15 ⟨hfH15, horH15, hvvH15, (⟨rfl, hOH15⟩ | ⟨n2H15, rfl, hnH15, hOH15⟩)⟩
            · refine h_rng (fun hrg20 => ?_)
              have hf21 : fr [53, 76, 77, 89, 93, 95, 99, 101] [1847, 1856, 1871, 1872, 1873, 1874, 1875, 1876, 1877, 1878, 1879, 1880, 1881, 1882, 1883, 1884, 1885, 1887, 1888] H H15 := fr_t hf4 hfH15 (by decide) (by decide)
              refine h_run 0 (pc' := 89) (l' := [(0, .inr (.inr 1826)), (1, .inl (s : Int)), (2, .inl (q : Int)), (3, .inl wh), (4, .inl (o : Int)), (5, .inl (i6 : Int))]) (st' := [.inl (-105)]) rfl ?_
              refine h_reti (x := (-105)) rfl rfl ?_
              exact ⟨hf21, horH15, hvvH15, Or.inl (Or.inr ⟨rfl, OS_P (sP_sy hQb) hOH15⟩)⟩
            · refine h_rng (fun hrg22 => ?_)
              have hf23 : fr [53, 76, 77, 89, 93, 95, 99, 101] [1847, 1856, 1871, 1872, 1873, 1874, 1875, 1876, 1877, 1878, 1879, 1880, 1881, 1882, 1883, 1884, 1885, 1887, 1888] H H15 := fr_t hf4 hfH15 (by decide) (by decide)
              have hbH15 : n2H15 ≤ 12 := by rcases hOH15 with q9 | q9; { rw [q9]; decide }; { exact q9.1.2.2.1 }
              refine h_run 0 (pc' := 89) (l' := [(0, .inr (.inr 1826)), (1, .inl (s : Int)), (2, .inl (q : Int)), (3, .inl wh), (4, .inl (o : Int)), (5, .inl (i6 : Int))]) (st' := [.inl (n2H15 : Int)]) rfl ?_
              refine h_reti (x := (n2H15 : Int)) rfl rfl ?_
              refine ⟨hf23, horH15, hvvH15, Or.inr ⟨n2H15, rfl, hnH15, ?_⟩⟩
              rcases hOH15 with q9 | q9
              · exact Or.inl q9
              · exact Or.inr (OS_P (sP_sy hQb) q9)
          · refine h_run 4 (pc' := 72) (l' := [(0, .inr (.inr 1826)), (1, .inl (s : Int)), (2, .inl (q : Int)), (3, .inl wh), (4, .inl (o : Int)), (5, .inl (i6 : Int))]) (st' := [.inl (i6 : Int), .inr (.inr 1884), .inr (.inr 1826)]) rfl ?_
            refine h_ild (c := 1884) (j := i6) (i := (i6 : Int)) rfl rfl (by decide) rfl (by omega) ?_
            refine h_run 0 (pc' := 73) (l' := [(0, .inr (.inr 1826)), (1, .inl (s : Int)), (2, .inl (q : Int)), (3, .inl wh), (4, .inl (o : Int)), (5, .inl (i6 : Int))]) (st' := [.inl (H2.1 1884 i6), .inr (.inr 1826)]) rfl ?_
            refine h_run 2 (pc' := 77) (l' := [(0, .inr (.inr 1826)), (1, .inl (s : Int)), (2, .inl (q : Int)), (3, .inl wh), (4, .inl (o : Int)), (5, .inl (i6 : Int))]) (st' := [.inl ((H2.1 1884 i6) - 1000), .inr (.inr 1826)]) rfl ?_
            obtain ⟨vn, hvn⟩ : ∃ x9 : Nat, ((H2.1 1884 i6) - 1000) = (x9 : Int) := ⟨(((H2.1 1884 i6) - 1000)).toNat, by omega⟩
            rw [show ((H2.1 1884 i6) - 1000) = ((vn : Nat) : Int) from hvn]
            have g25 : -2147483648 ≤ (H2.1 1826 89) ∧ (H2.1 1826 89) ≤ 2147483647 := hrg3.1 1826 13 89 _ .int rfl rfl
            have e26 : (H2.1 1826 89) = (H.1 1826 89) := hfH2.2.2 89 (by decide)
            have g27 : -2147483648 ≤ (H2.1 1826 74) ∧ (H2.1 1826 74) ≤ 2147483647 := hrg3.1 1826 13 74 _ .int rfl rfl
            have e28 : (H2.1 1826 74) = (H.1 1826 74) := hfH2.2.2 74 (by decide)
            refine h_cv (i := 638) (j := 257) (b := 1826) (M' := mt_257) (xs := [.inl (vn : Int)]) (rest := []) rfl rfl rfl rfl rfl rfl (Nat.le_of_ble_eq_true rfl) (Nat.le_of_ble_eq_true rfl) (by omega) (m_casesOf (n := n) (o := o) (by omega) hPb (OS_P hQb hOSH2) (show 0 ≤ (H2.1 1826 89) ∧ (H2.1 1826 89) ≤ 60 by omega) (show 0 ≤ (H2.1 1826 74) ∧ (H2.1 1826 74) < 16 by omega) hooH2 (by omega)) ?_
            rintro _ H24 ⟨hfH24, horH24, hvvH24, (⟨rfl, hOH24⟩ | ⟨n2H24, rfl, hnH24, hOH24⟩)⟩
            · refine h_rng (fun hrg29 => ?_)
              have hf30 : fr [53, 76, 77, 89, 93, 95, 99, 101] [1847, 1856, 1871, 1872, 1873, 1874, 1875, 1876, 1877, 1878, 1879, 1880, 1881, 1882, 1883, 1884, 1885, 1887, 1888] H H24 := fr_t hf4 hfH24 (by decide) (by decide)
              refine h_run 0 (pc' := 80) (l' := [(0, .inr (.inr 1826)), (1, .inl (s : Int)), (2, .inl (q : Int)), (3, .inl wh), (4, .inl (o : Int)), (5, .inl (i6 : Int))]) (st' := [.inl (-105)]) rfl ?_
              refine h_run 1 (pc' := 89) (l' := [(0, .inr (.inr 1826)), (1, .inl (s : Int)), (2, .inl (q : Int)), (3, .inl wh), (4, .inl (o : Int)), (5, .inl (i6 : Int))]) (st' := [.inl (-105)]) rfl ?_
              refine h_reti (x := (-105)) rfl rfl ?_
              exact ⟨hf30, horH24, hvvH24, Or.inl (Or.inr ⟨rfl, OS_P (sP_sy hQb) hOH24⟩)⟩
            · refine h_rng (fun hrg31 => ?_)
              have hf32 : fr [53, 76, 77, 89, 93, 95, 99, 101] [1847, 1856, 1871, 1872, 1873, 1874, 1875, 1876, 1877, 1878, 1879, 1880, 1881, 1882, 1883, 1884, 1885, 1887, 1888] H H24 := fr_t hf4 hfH24 (by decide) (by decide)
              have hbH24 : n2H24 ≤ 12 := by rcases hOH24 with q9 | q9; { rw [q9]; decide }; { exact q9.1.2.2.1 }
              refine h_run 0 (pc' := 80) (l' := [(0, .inr (.inr 1826)), (1, .inl (s : Int)), (2, .inl (q : Int)), (3, .inl wh), (4, .inl (o : Int)), (5, .inl (i6 : Int))]) (st' := [.inl (n2H24 : Int)]) rfl ?_
              refine h_run 1 (pc' := 89) (l' := [(0, .inr (.inr 1826)), (1, .inl (s : Int)), (2, .inl (q : Int)), (3, .inl wh), (4, .inl (o : Int)), (5, .inl (i6 : Int))]) (st' := [.inl (n2H24 : Int)]) rfl ?_
              refine h_reti (x := (n2H24 : Int)) rfl rfl ?_
              refine ⟨hf32, horH24, hvvH24, Or.inr ⟨n2H24, rfl, hnH24, ?_⟩⟩
              rcases hOH24 with q9 | q9
              · exact Or.inl q9
              · exact Or.inr (OS_P (sP_sy hQb) q9)
        · refine h_run 1 (pc' := 51) (l' := [(0, .inr (.inr 1826)), (1, .inl (s : Int)), (2, .inl (q : Int)), (3, .inl wh), (4, .inl (o : Int)), (5, .inl (i6 : Int))]) (st' := [.inl (-104)]) rfl ?_
          refine h_reti (x := (-104)) rfl rfl ?_
          have g33 : -2147483648 ≤ (H2.1 1826 89) ∧ (H2.1 1826 89) ≤ 2147483647 := hrg3.1 1826 13 89 _ .int rfl rfl
          have e34 : (H2.1 1826 89) = (H.1 1826 89) := hfH2.2.2 89 (by decide)
          exact ⟨hf4, (by rw [show (H2.1 1871) 0 = (o : Int) from hooH2]; omega), (show 0 ≤ (H2.1 1826 89) ∧ (H2.1 1826 89) ≤ 60 by omega), Or.inl (Or.inl ⟨rfl, hOSH2⟩)⟩
  · obtain ⟨wi, hwi⟩ : ∃ k9 : Nat, wh = (k9 : Int) := ⟨(wh).toNat, by omega⟩
    rw [show wh = (wi : Int) from hwi]
    refine h_run 5 (pc' := 34) (l' := [(0, .inr (.inr 1826)), (1, .inl (s : Int)), (2, .inl (q : Int)), (3, .inl (wi : Int)), (4, .inl (o : Int)), (5, .inl (wi : Int))]) (st' := [.inl (-1), .inl (wi : Int)]) rfl ?_
    refine h_ieq (off := 15) (t := 49) rfl rfl (by omega) (by decide) (fun c35 => ?_) (fun c35 => ?_)
    · refine h_run 1 (pc' := 51) (l' := [(0, .inr (.inr 1826)), (1, .inl (s : Int)), (2, .inl (q : Int)), (3, .inl (wi : Int)), (4, .inl (o : Int)), (5, .inl (wi : Int))]) (st' := [.inl (-104)]) rfl ?_
      refine h_reti (x := (-104)) rfl rfl ?_
      have g36 : -2147483648 ≤ (H2.1 1826 89) ∧ (H2.1 1826 89) ≤ 2147483647 := hrg3.1 1826 13 89 _ .int rfl rfl
      have e37 : (H2.1 1826 89) = (H.1 1826 89) := hfH2.2.2 89 (by decide)
      exact ⟨hf4, (by rw [show (H2.1 1871) 0 = (o : Int) from hooH2]; omega), (show 0 ≤ (H2.1 1826 89) ∧ (H2.1 1826 89) ≤ 60 by omega), Or.inl (Or.inl ⟨rfl, hOSH2⟩)⟩
    · obtain ⟨ki, hki, hTi⟩ := tm_sub hTn (p := wi) (by omega)
      have hki1 : 1 ≤ ki := tm_le hTi
      have hsi := tm_ok hTn wi (by omega)
      rw [Nat.zero_add] at hsi
      have hsi9 := hsi
      unfold m_sg at hsi9
      refine h_run 3 (pc' := 43) (l' := [(0, .inr (.inr 1826)), (1, .inl (s : Int)), (2, .inl (q : Int)), (3, .inl (wi : Int)), (4, .inl (o : Int)), (5, .inl (wi : Int))]) (st' := [.inl (wi : Int), .inr (.inr 1884)]) rfl ?_
      refine h_ild (c := 1884) (j := wi) (i := (wi : Int)) rfl rfl (by decide) rfl (by omega) ?_
      have g38 : -2147483648 ≤ (H2.1 1884 wi) ∧ (H2.1 1884 wi) ≤ 2147483647 := hrg3.2 1884 wi 128 .int rfl (by omega)
      refine h_run 0 (pc' := 44) (l' := [(0, .inr (.inr 1826)), (1, .inl (s : Int)), (2, .inl (q : Int)), (3, .inl (wi : Int)), (4, .inl (o : Int)), (5, .inl (wi : Int))]) (st' := [.inl (H2.1 1884 wi)]) rfl ?_
      refine h_run 1 (pc' := 46) (l' := [(0, .inr (.inr 1826)), (1, .inl (s : Int)), (2, .inl (q : Int)), (3, .inl (wi : Int)), (4, .inl (o : Int)), (5, .inl (wi : Int))]) (st' := [.inl 100, .inl (H2.1 1884 wi)]) rfl ?_
      refine h_ige (off := 6) (t := 52) rfl rfl (by omega) (by decide) (fun c39 => ?_) (fun c39 => ?_)
      · refine h_run 3 (pc' := 58) (l' := [(0, .inr (.inr 1826)), (1, .inl (s : Int)), (2, .inl (q : Int)), (3, .inl (wi : Int)), (4, .inl (o : Int)), (5, .inl (wi : Int))]) (st' := [.inl (wi : Int), .inr (.inr 1884)]) rfl ?_
        refine h_ild (c := 1884) (j := wi) (i := (wi : Int)) rfl rfl (by decide) rfl (by omega) ?_
        refine h_run 0 (pc' := 59) (l' := [(0, .inr (.inr 1826)), (1, .inl (s : Int)), (2, .inl (q : Int)), (3, .inl (wi : Int)), (4, .inl (o : Int)), (5, .inl (wi : Int))]) (st' := [.inl (H2.1 1884 wi)]) rfl ?_
        refine h_run 1 (pc' := 62) (l' := [(0, .inr (.inr 1826)), (1, .inl (s : Int)), (2, .inl (q : Int)), (3, .inl (wi : Int)), (4, .inl (o : Int)), (5, .inl (wi : Int))]) (st' := [.inl 1000, .inl (H2.1 1884 wi)]) rfl ?_
        refine h_ilt (off := 21) (t := 83) rfl rfl (by omega) (by decide) (fun c40 => ?_) (fun c40 => ?_)
        · refine h_run 2 (pc' := 86) (l' := [(0, .inr (.inr 1826)), (1, .inl (s : Int)), (2, .inl (q : Int)), (3, .inl (wi : Int)), (4, .inl (o : Int)), (5, .inl (wi : Int))]) (st' := [.inl (wi : Int), .inr (.inr 1826)]) rfl ?_
          have g42 : -2147483648 ≤ (H2.1 1826 89) ∧ (H2.1 1826 89) ≤ 2147483647 := hrg3.1 1826 13 89 _ .int rfl rfl
          have e43 : (H2.1 1826 89) = (H.1 1826 89) := hfH2.2.2 89 (by decide)
          have g44 : -2147483648 ≤ (H2.1 1826 74) ∧ (H2.1 1826 74) ≤ 2147483647 := hrg3.1 1826 13 74 _ .int rfl rfl
          have e45 : (H2.1 1826 74) = (H.1 1826 74) := hfH2.2.2 74 (by decide)
          refine h_cv (i := 641) (j := 258) (b := 1826) (M' := mt_258) (xs := [.inl (wi : Int)]) (rest := []) rfl rfl rfl rfl rfl rfl (Nat.le_of_ble_eq_true rfl) (Nat.le_of_ble_eq_true rfl) (by omega) (m_casesOfCall (n := n) (o := o) (by omega) hPb (OS_P hQb hOSH2) (show 0 ≤ (H2.1 1826 89) ∧ (H2.1 1826 89) ≤ 60 by omega) (show 0 ≤ (H2.1 1826 74) ∧ (H2.1 1826 74) < 16 by omega) hooH2 (cs := ki) (N := N) (by rw [hQb.1, hQb.2.1, hQb.2.2.1, hQb.2.2.2]; exact hTi) (by omega) (by omega)) ?_
          rintro _ H41 ⟨hfH41, horH41, hvvH41, (⟨rfl, hOH41⟩ | ⟨n2H41, rfl, hnH41, hOH41⟩)⟩
          · refine h_rng (fun hrg46 => ?_)
            have hf47 : fr [53, 76, 77, 89, 93, 95, 99, 101] [1847, 1856, 1871, 1872, 1873, 1874, 1875, 1876, 1877, 1878, 1879, 1880, 1881, 1882, 1883, 1884, 1885, 1887, 1888] H H41 := fr_t hf4 hfH41 (by decide) (by decide)
            refine h_run 0 (pc' := 89) (l' := [(0, .inr (.inr 1826)), (1, .inl (s : Int)), (2, .inl (q : Int)), (3, .inl (wi : Int)), (4, .inl (o : Int)), (5, .inl (wi : Int))]) (st' := [.inl (-105)]) rfl ?_
            refine h_reti (x := (-105)) rfl rfl ?_
            exact ⟨hf47, horH41, hvvH41, Or.inl (Or.inr ⟨rfl, OS_P (sP_sy hQb) hOH41⟩)⟩
          · refine h_rng (fun hrg48 => ?_)
            have hf49 : fr [53, 76, 77, 89, 93, 95, 99, 101] [1847, 1856, 1871, 1872, 1873, 1874, 1875, 1876, 1877, 1878, 1879, 1880, 1881, 1882, 1883, 1884, 1885, 1887, 1888] H H41 := fr_t hf4 hfH41 (by decide) (by decide)
            have hbH41 : n2H41 ≤ 12 := by rcases hOH41 with q9 | q9; { rw [q9]; decide }; { exact q9.1.2.2.1 }
            refine h_run 0 (pc' := 89) (l' := [(0, .inr (.inr 1826)), (1, .inl (s : Int)), (2, .inl (q : Int)), (3, .inl (wi : Int)), (4, .inl (o : Int)), (5, .inl (wi : Int))]) (st' := [.inl (n2H41 : Int)]) rfl ?_
            refine h_reti (x := (n2H41 : Int)) rfl rfl ?_
            refine ⟨hf49, horH41, hvvH41, Or.inr ⟨n2H41, rfl, hnH41, ?_⟩⟩
            rcases hOH41 with q9 | q9
            · exact Or.inl q9
            · exact Or.inr (OS_P (sP_sy hQb) q9)
        · refine h_run 4 (pc' := 72) (l' := [(0, .inr (.inr 1826)), (1, .inl (s : Int)), (2, .inl (q : Int)), (3, .inl (wi : Int)), (4, .inl (o : Int)), (5, .inl (wi : Int))]) (st' := [.inl (wi : Int), .inr (.inr 1884), .inr (.inr 1826)]) rfl ?_
          refine h_ild (c := 1884) (j := wi) (i := (wi : Int)) rfl rfl (by decide) rfl (by omega) ?_
          refine h_run 0 (pc' := 73) (l' := [(0, .inr (.inr 1826)), (1, .inl (s : Int)), (2, .inl (q : Int)), (3, .inl (wi : Int)), (4, .inl (o : Int)), (5, .inl (wi : Int))]) (st' := [.inl (H2.1 1884 wi), .inr (.inr 1826)]) rfl ?_
          refine h_run 2 (pc' := 77) (l' := [(0, .inr (.inr 1826)), (1, .inl (s : Int)), (2, .inl (q : Int)), (3, .inl (wi : Int)), (4, .inl (o : Int)), (5, .inl (wi : Int))]) (st' := [.inl ((H2.1 1884 wi) - 1000), .inr (.inr 1826)]) rfl ?_
          obtain ⟨vn, hvn⟩ : ∃ x9 : Nat, ((H2.1 1884 wi) - 1000) = (x9 : Int) := ⟨(((H2.1 1884 wi) - 1000)).toNat, by omega⟩
          rw [show ((H2.1 1884 wi) - 1000) = ((vn : Nat) : Int) from hvn]
          have g51 : -2147483648 ≤ (H2.1 1826 89) ∧ (H2.1 1826 89) ≤ 2147483647 := hrg3.1 1826 13 89 _ .int rfl rfl
          have e52 : (H2.1 1826 89) = (H.1 1826 89) := hfH2.2.2 89 (by decide)
          have g53 : -2147483648 ≤ (H2.1 1826 74) ∧ (H2.1 1826 74) ≤ 2147483647 := hrg3.1 1826 13 74 _ .int rfl rfl
          have e54 : (H2.1 1826 74) = (H.1 1826 74) := hfH2.2.2 74 (by decide)
          refine h_cv (i := 638) (j := 257) (b := 1826) (M' := mt_257) (xs := [.inl (vn : Int)]) (rest := []) rfl rfl rfl rfl rfl rfl (Nat.le_of_ble_eq_true rfl) (Nat.le_of_ble_eq_true rfl) (by omega) (m_casesOf (n := n) (o := o) (by omega) hPb (OS_P hQb hOSH2) (show 0 ≤ (H2.1 1826 89) ∧ (H2.1 1826 89) ≤ 60 by omega) (show 0 ≤ (H2.1 1826 74) ∧ (H2.1 1826 74) < 16 by omega) hooH2 (by omega)) ?_
          rintro _ H50 ⟨hfH50, horH50, hvvH50, (⟨rfl, hOH50⟩ | ⟨n2H50, rfl, hnH50, hOH50⟩)⟩
          · refine h_rng (fun hrg55 => ?_)
            have hf56 : fr [53, 76, 77, 89, 93, 95, 99, 101] [1847, 1856, 1871, 1872, 1873, 1874, 1875, 1876, 1877, 1878, 1879, 1880, 1881, 1882, 1883, 1884, 1885, 1887, 1888] H H50 := fr_t hf4 hfH50 (by decide) (by decide)
            refine h_run 0 (pc' := 80) (l' := [(0, .inr (.inr 1826)), (1, .inl (s : Int)), (2, .inl (q : Int)), (3, .inl (wi : Int)), (4, .inl (o : Int)), (5, .inl (wi : Int))]) (st' := [.inl (-105)]) rfl ?_
            refine h_run 1 (pc' := 89) (l' := [(0, .inr (.inr 1826)), (1, .inl (s : Int)), (2, .inl (q : Int)), (3, .inl (wi : Int)), (4, .inl (o : Int)), (5, .inl (wi : Int))]) (st' := [.inl (-105)]) rfl ?_
            refine h_reti (x := (-105)) rfl rfl ?_
            exact ⟨hf56, horH50, hvvH50, Or.inl (Or.inr ⟨rfl, OS_P (sP_sy hQb) hOH50⟩)⟩
          · refine h_rng (fun hrg57 => ?_)
            have hf58 : fr [53, 76, 77, 89, 93, 95, 99, 101] [1847, 1856, 1871, 1872, 1873, 1874, 1875, 1876, 1877, 1878, 1879, 1880, 1881, 1882, 1883, 1884, 1885, 1887, 1888] H H50 := fr_t hf4 hfH50 (by decide) (by decide)
            have hbH50 : n2H50 ≤ 12 := by rcases hOH50 with q9 | q9; { rw [q9]; decide }; { exact q9.1.2.2.1 }
            refine h_run 0 (pc' := 80) (l' := [(0, .inr (.inr 1826)), (1, .inl (s : Int)), (2, .inl (q : Int)), (3, .inl (wi : Int)), (4, .inl (o : Int)), (5, .inl (wi : Int))]) (st' := [.inl (n2H50 : Int)]) rfl ?_
            refine h_run 1 (pc' := 89) (l' := [(0, .inr (.inr 1826)), (1, .inl (s : Int)), (2, .inl (q : Int)), (3, .inl (wi : Int)), (4, .inl (o : Int)), (5, .inl (wi : Int))]) (st' := [.inl (n2H50 : Int)]) rfl ?_
            refine h_reti (x := (n2H50 : Int)) rfl rfl ?_
            refine ⟨hf58, horH50, hvvH50, Or.inr ⟨n2H50, rfl, hnH50, ?_⟩⟩
            rcases hOH50 with q9 | q9
            · exact Or.inl q9
            · exact Or.inr (OS_P (sP_sy hQb) q9)
      · refine h_run 1 (pc' := 51) (l' := [(0, .inr (.inr 1826)), (1, .inl (s : Int)), (2, .inl (q : Int)), (3, .inl (wi : Int)), (4, .inl (o : Int)), (5, .inl (wi : Int))]) (st' := [.inl (-104)]) rfl ?_
        refine h_reti (x := (-104)) rfl rfl ?_
        have g59 : -2147483648 ≤ (H2.1 1826 89) ∧ (H2.1 1826 89) ≤ 2147483647 := hrg3.1 1826 13 89 _ .int rfl rfl
        have e60 : (H2.1 1826 89) = (H.1 1826 89) := hfH2.2.2 89 (by decide)
        exact ⟨hf4, (by rw [show (H2.1 1871) 0 = (o : Int) from hooH2]; omega), (show 0 ≤ (H2.1 1826 89) ∧ (H2.1 1826 89) ≤ 60 by omega), Or.inl (Or.inl ⟨rfl, hOSH2⟩)⟩
