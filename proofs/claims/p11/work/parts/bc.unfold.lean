/-! the reference: rows that change a side -/
theorem gok_P {P Q H : hp} {x : Nat} (h : sP P Q) (g : gok P H x) : gok Q H x := by
  unfold gok hysOK hOK sOK okf at *
  rw [h.1, h.2.1, h.2.2.1, h.2.2.2]
  exact g
theorem OS_P {P Q H : hp} {n : Nat} (h : sP P Q) (g : OS P H n) : OS Q H n := by
  obtain ⟨h1, h2, h3⟩ := g
  refine ⟨h1, fun k hk => ?_, h3⟩
  obtain ⟨x, a1, a2, a3, a4⟩ := h2 k hk
  exact ⟨x, a1, a2, a3, gok_P h a4⟩
theorem sP_sy {P Q : hp} (h : sP P Q) : sP Q P := ⟨h.1.symm, h.2.1.symm, h.2.2.1.symm, h.2.2.2.symm⟩
/-- what the first goal holds changes -/
theorem OS_k {P H K : hp} {n o : Nat} (h : OS P H n) (ho : (H.1 1871) 0 = (o : Int)) (e1 : (K.1 1826 77) = (H.1 1826 77)) (e2 : (K.1 1871) = (H.1 1871)) (e3 : (K.1 1872) = (H.1 1872)) (e4 : ∀ x, x ≠ o → sS H K x ∧ sH H K x) (hg : gok P K o) : OS P K n := by
  obtain ⟨h1, h2, h3, h4, h5, h6, h7⟩ := h
  refine ⟨by rw [e1]; exact h1, fun k hk => ?_, fun k hk => absurd hk (Nat.not_lt_zero _), fun i j hi hj q => h4 i j hi hj (by rw [e2] at q; exact q), h5, fun i j hi hj q => absurd hj (Nat.not_lt_zero _), fun x hx q => ?_⟩
  · obtain ⟨x, a1, a2, a3, a4⟩ := h2 k hk
    refine ⟨x, by rw [e2]; exact a1, a2, by rw [e3]; exact a3, ?_⟩
    by_cases q : x = o
    · rw [q]
      exact hg
    · exact gok_s a4 (e4 x q).1 (e4 x q).2
  · rw [e3] at q
    rcases h7 x hx q with ⟨k, hk, a⟩ | ⟨k, hk, a⟩
    · exact Or.inl ⟨k, hk, by rw [e2]; exact a⟩
    · exact absurd hk (Nat.not_lt_zero _)
theorem OS_fr {P H K : hp} {n : Nat} {ob ar : List Nat} (h : OS P H n) (f : fr ob ar H K) (f1 : 77 ∉ ob) (f2 : 1871 ∉ ar ∧ 1872 ∉ ar) (f3 : (1873 ∉ ar ∧ 1874 ∉ ar) ∧ 1879 ∉ ar ∧ 1880 ∉ ar ∧ 1881 ∉ ar) : OS P K n := RS_s h (f.2.2 77 f1) (f.2.1 1871 (by decide) f2.1) (f.2.1 1872 (by decide) f2.2) (fun x => ⟨sS_fr f f3.1 x, sH_fr f f3.2 x⟩)
/-- a side of the first goal is kept -/
theorem OS_side {P K L : hp} {n o s M : Nat} (hK : OS P K n) (hoK : (K.1 1871) 0 = (o : Int)) (g : fr [] [1873, 1874] K L) (hs : s < 2) (hM : M ≤ 60) (hz : (L.1 1874) = up (K.1 1874) (2 * o + s) (M : Int)) (hcp : ∀ x, x < M → (L.1 1873) (64 * (2 * o + s) + x) = (K.1 1856) x) (hoo : ∀ x, (x < 64 * (2 * o + s) ∨ 64 * (2 * o + s) + 64 ≤ x) → (L.1 1873) x = (K.1 1873) x) (ht : tm (ma (P.1 1833) (P.1 1830)) (m_sg (P.1 1826 3) (P.1 1826 8) 60) (K.1 1856) M 0 1) : OS P L n := by
  obtain ⟨-, -, hgo⟩ := RS_o hK hoK
  refine OS_k hK hoK (g.2.2 77 (by decide)) (g.2.1 1871 (by decide) (by decide)) (g.2.1 1872 (by decide) (by decide)) (fun x hx => ⟨sS_kept hs hz hoo x hx, sH_fr g (by decide) x⟩) ⟨fun t ht9 => ?_, hys_s hgo.2 (sH_fr g (by decide) o)⟩
  by_cases q : t = s
  · rw [q]
    exact sOK_kept hM hz hcp ht
  · exact sOK_oth (hgo.1 t ht9) q hz hoo

/-! unfoldAt -/
set_option maxRecDepth 100000 in
theorem m_unfoldAt {zC : Nat → Option zsh} {d : Nat} (hd : 5 ≤ d) {H : hp} {n o s q : Nat} {wh : Int} (hP : PWc H) (hO : OS H H n) (hlu : (H.1 1826 97) = -1) (ho1 : (H.1 1871) 0 = (o : Int)) (hs : s < 2) (hq : q ≤ 2147483647) (hwh : wh = -1 ∨ (0 ≤ wh ∧ wh < (H.1 1874) (2 * o + s))) : hG (zs zC) d mt_238 0 (zargs 0 [.inr (.inr 1826), .inl (s : Int), .inl (q : Int), .inl wh]) [] H (fun r9 H2 => fr [50, 51, 53, 76, 93, 97] [1847, 1852, 1853, 1855, 1856, 1873, 1874, 1878, 1884, 1886] H H2 ∧ (H2.1 1826 97) = -1 ∧ OS H H2 n ∧ ∃ r0 : Int, r9 = some (.inl r0) ∧ (-105 ≤ r0 ∧ r0 ≤ 12) ∧ (0 ≤ r0 ∨ (H2.1 1874) = (H.1 1874))) := by
  refine h_rng (fun hrg0 => ?_)
  refine h_run 0 (pc' := 0) (l' := [(0, .inr (.inr 1826)), (1, .inl (s : Int)), (2, .inl (q : Int)), (3, .inl wh)]) (st' := []) rfl ?_
  obtain ⟨⟨pb1, pb2, pb3, pb4, pb5⟩, pw1, pw2, pw3, pw4⟩ := (id hP : PW H (H.1 1826 1) (H.1 1826 3) (H.1 1826 8) (H.1 1826 13) (H.1 1826 19))
  obtain ⟨ol, ou, og⟩ := RS_o hO ho1
  obtain ⟨N, hN1, hN2, hN3⟩ := og.1 s hs
  have hnn := hO.1
  have hN0 : 1 ≤ N := tm_le hN3
  refine h_run 3 (pc' := 5) (l' := [(0, .inr (.inr 1826)), (1, .inl (s : Int)), (2, .inl (q : Int)), (3, .inl wh)]) (st' := [.inl 0, .inr (.inr 1871)]) rfl ?_
  refine h_ild (c := 1871) (j := 0) (i := 0) rfl rfl (by decide) rfl (by omega) ?_
  have g1 : -2147483648 ≤ (H.1 1871 0) ∧ (H.1 1871 0) ≤ 2147483647 := hrg0.2 1871 0 13 .int rfl (by omega)
  refine h_run 0 (pc' := 6) (l' := [(0, .inr (.inr 1826)), (1, .inl (s : Int)), (2, .inl (q : Int)), (3, .inl wh)]) (st' := [.inl (H.1 1871 0)]) rfl ?_
  rw [show (H.1 1871 0) = (o : Int) by omega]
  refine h_run 4 (pc' := 12) (l' := [(0, .inr (.inr 1826)), (1, .inl (s : Int)), (2, .inl (q : Int)), (3, .inl wh), (4, .inl (o : Int))]) (st' := [.inl (s : Int), .inl (o : Int), .inr (.inr 1826)]) rfl ?_
  refine h_cv (i := 569) (j := 228) (b := 1826) (M' := mt_228) (xs := [.inl (s : Int), .inl (o : Int)]) (rest := []) rfl rfl rfl rfl rfl rfl (Nat.le_of_ble_eq_true rfl) (Nat.le_of_ble_eq_true rfl) (by omega) (m_bring (k := N) (by omega) (by omega) ⟨hN1, by omega⟩) ?_
  rintro _ H2 ⟨rfl, hfH2, hzH2, hcH2⟩
  refine h_rng (fun hrg3 => ?_)
  have hf4 : fr [50, 51, 53, 76, 93, 97] [1847, 1852, 1853, 1855, 1856, 1873, 1874, 1878, 1884, 1886] H H2 := fr_t (fr_rf _ _ _) hfH2 (by decide) (by decide)
  have hOSH2 : OS H H2 n := OS_fr hO hfH2 (by decide) (by decide) (by decide)
  have hooH2 : (H2.1 1871) 0 = (o : Int) := (congrFun (hfH2.2.1 1871 (by decide) (by decide)) 0).trans ho1
  have hTn : tm (ma (H.1 1833) (H.1 1830)) (m_sg (H.1 1826 3) (H.1 1826 8) 60) (H2.1 1884) N 0 1 := tm_at hN3 (fun x hx => by rw [Nat.zero_add]; exact hcH2 x hx)
  have hQb : sP H H2 := sP_fr (sP_rf H) hf4 (by decide) (by decide)
  have hPb : PWc H2 := PWc_fr hP hf4 (by decide) (by decide)
  refine h_run 0 (pc' := 15) (l' := [(0, .inr (.inr 1826)), (1, .inl (s : Int)), (2, .inl (q : Int)), (3, .inl wh), (4, .inl (o : Int))]) (st' := []) rfl ?_
  refine h_run 2 (pc' := 17) (l' := [(0, .inr (.inr 1826)), (1, .inl (s : Int)), (2, .inl (q : Int)), (3, .inl wh), (4, .inl (o : Int))]) (st' := [.inl (-1), .inl wh]) rfl ?_
  refine h_ieq (off := 7) (t := 24) rfl rfl (by omega) (by decide) (fun c5 => ?_) (fun c5 => ?_)
  · refine h_run 2 (pc' := 26) (l' := [(0, .inr (.inr 1826)), (1, .inl (s : Int)), (2, .inl (q : Int)), (3, .inl wh), (4, .inl (o : Int))]) (st' := [.inl (q : Int), .inr (.inr 1826)]) rfl ?_
    refine h_cv (i := 572) (j := 230) (b := 1826) (M' := mt_230) (xs := [.inl (q : Int)]) (rest := []) rfl rfl rfl rfl rfl rfl (Nat.le_of_ble_eq_true rfl) (Nat.le_of_ble_eq_true rfl) (by omega) (m_placeOf (ok := (m_sg (H.1 1826 3) (H.1 1826 8) 60)) (N := N) (by omega) (by omega) (fun s9 h9 => by unfold m_sg at h9; unfold sg0; omega) (by rw [hQb.1, hQb.2.1]; exact hTn) (by omega)) ?_
    rintro _ _ ⟨(rfl | ⟨i6, rfl, i6l⟩), rfl⟩
    · refine h_run 0 (pc' := 29) (l' := [(0, .inr (.inr 1826)), (1, .inl (s : Int)), (2, .inl (q : Int)), (3, .inl wh), (4, .inl (o : Int))]) (st' := [.inl (-1)]) rfl ?_
      refine h_run 3 (pc' := 34) (l' := [(0, .inr (.inr 1826)), (1, .inl (s : Int)), (2, .inl (q : Int)), (3, .inl wh), (4, .inl (o : Int)), (5, .inl (-1))]) (st' := [.inl (-1), .inl (-1)]) rfl ?_
      refine h_ieq (off := 16) (t := 50) rfl rfl (by decide) (by decide) (fun _ => ?_) (fun c => absurd c (by decide))
      refine h_run 1 (pc' := 52) (l' := [(0, .inr (.inr 1826)), (1, .inl (s : Int)), (2, .inl (q : Int)), (3, .inl wh), (4, .inl (o : Int)), (5, .inl (-1))]) (st' := [.inl (-104)]) rfl ?_
      refine h_reti (x := (-104)) rfl rfl ?_
      have g7 : -2147483648 ≤ (H2.1 1826 97) ∧ (H2.1 1826 97) ≤ 2147483647 := hrg3.1 1826 13 97 _ .int rfl rfl
      have e8 : (H2.1 1826 97) = (H.1 1826 97) := hfH2.2.2 97 (by decide)
      exact ⟨hf4, (show (H2.1 1826 97) = -1 by omega), hOSH2, _, rfl, ⟨by omega, by omega⟩, Or.inr (by show (H2.1 1874) = (H.1 1874); rw [show (H2.1 1874) = (H.1 1874) from hfH2.2.1 1874 (by decide) (by decide)])⟩
    · refine h_run 0 (pc' := 29) (l' := [(0, .inr (.inr 1826)), (1, .inl (s : Int)), (2, .inl (q : Int)), (3, .inl wh), (4, .inl (o : Int))]) (st' := [.inl (i6 : Int)]) rfl ?_
      refine h_run 3 (pc' := 34) (l' := [(0, .inr (.inr 1826)), (1, .inl (s : Int)), (2, .inl (q : Int)), (3, .inl wh), (4, .inl (o : Int)), (5, .inl (i6 : Int))]) (st' := [.inl (-1), .inl (i6 : Int)]) rfl ?_
      refine h_ieq (off := 16) (t := 50) rfl rfl (by omega) (by decide) (fun c9 => ?_) (fun c9 => ?_)
      · refine h_run 1 (pc' := 52) (l' := [(0, .inr (.inr 1826)), (1, .inl (s : Int)), (2, .inl (q : Int)), (3, .inl wh), (4, .inl (o : Int)), (5, .inl (i6 : Int))]) (st' := [.inl (-104)]) rfl ?_
        refine h_reti (x := (-104)) rfl rfl ?_
        have g10 : -2147483648 ≤ (H2.1 1826 97) ∧ (H2.1 1826 97) ≤ 2147483647 := hrg3.1 1826 13 97 _ .int rfl rfl
        have e11 : (H2.1 1826 97) = (H.1 1826 97) := hfH2.2.2 97 (by decide)
        exact ⟨hf4, (show (H2.1 1826 97) = -1 by omega), hOSH2, _, rfl, ⟨by omega, by omega⟩, Or.inr (by show (H2.1 1874) = (H.1 1874); rw [show (H2.1 1874) = (H.1 1874) from hfH2.2.1 1874 (by decide) (by decide)])⟩
      · obtain ⟨ki, hki, hTi⟩ := tm_sub hTn (p := i6) (by omega)
        have hki1 : 1 ≤ ki := tm_le hTi
        have hsi := tm_ok hTn i6 (by omega)
        rw [Nat.zero_add] at hsi
        have hsi9 := hsi
        unfold m_sg at hsi9
        refine h_run 3 (pc' := 43) (l' := [(0, .inr (.inr 1826)), (1, .inl (s : Int)), (2, .inl (q : Int)), (3, .inl wh), (4, .inl (o : Int)), (5, .inl (i6 : Int))]) (st' := [.inl (i6 : Int), .inr (.inr 1884)]) rfl ?_
        refine h_ild (c := 1884) (j := i6) (i := (i6 : Int)) rfl rfl (by decide) rfl (by omega) ?_
        have g12 : -2147483648 ≤ (H2.1 1884 i6) ∧ (H2.1 1884 i6) ≤ 2147483647 := hrg3.2 1884 i6 128 .int rfl (by omega)
        refine h_run 0 (pc' := 44) (l' := [(0, .inr (.inr 1826)), (1, .inl (s : Int)), (2, .inl (q : Int)), (3, .inl wh), (4, .inl (o : Int)), (5, .inl (i6 : Int))]) (st' := [.inl (H2.1 1884 i6)]) rfl ?_
        refine h_cs (i := 450) (j := 156) (M' := mt_156) (xs := [.inl (H2.1 1884 i6)]) (rest := []) rfl rfl rfl rfl rfl (Nat.le_of_ble_eq_true rfl) (Nat.le_of_ble_eq_true rfl) (by omega) (m_isCall (by omega) (by omega)) ?_
        rintro _ _ ⟨⟨rfl, b13⟩ | ⟨rfl, b13⟩, rfl⟩
        · refine h_run 0 (pc' := 47) (l' := [(0, .inr (.inr 1826)), (1, .inl (s : Int)), (2, .inl (q : Int)), (3, .inl wh), (4, .inl (o : Int)), (5, .inl (i6 : Int))]) (st' := [.inl 1]) rfl ?_
          refine h_zne (off := 6) (t := 53) rfl rfl (by decide) (fun _ => ?_) (fun c => absurd c (by decide))
          refine h_run 4 (pc' := 60) (l' := [(0, .inr (.inr 1826)), (1, .inl (s : Int)), (2, .inl (q : Int)), (3, .inl wh), (4, .inl (o : Int)), (5, .inl (i6 : Int))]) (st' := [.inl (i6 : Int), .inr (.inr 1884), .inr (.inr 1826)]) rfl ?_
          refine h_cv (i := 453) (j := 196) (b := 1826) (M' := mt_196) (xs := [.inl (i6 : Int), .inr (.inr 1884)]) (rest := []) rfl rfl rfl rfl rfl rfl (Nat.le_of_ble_eq_true rfl) (Nat.le_of_ble_eq_true rfl) (by omega) (m_match (c := 1884) (n := 128) (p := i6) (k := ki) (ok := (m_sg (H.1 1826 3) (H.1 1826 8) 60)) (by omega) rfl (by decide) (by decide) (fun s9 h9 => by unfold m_sg at h9; unfold sg0; omega) hPb (by rw [hQb.1, hQb.2.1]; exact hTi) (by omega) (by rw [hQb.2.2.2]; omega)) ?_
          rintro _ H14 ⟨hfH14, rH14, rfl, dH14⟩
          refine h_rng (fun hrg15 => ?_)
          have hf16 : fr [50, 51, 53, 76, 93, 97] [1847, 1852, 1853, 1855, 1856, 1873, 1874, 1878, 1884, 1886] H H14 := fr_t hf4 hfH14 (by decide) (by decide)
          have hOSH14 : OS H H14 n := OS_fr hOSH2 hfH14 (by decide) (by decide) (by decide)
          have hooH14 : (H14.1 1871) 0 = (o : Int) := (congrFun (hfH14.2.1 1871 (by decide) (by decide)) 0).trans hooH2
          have bH14 : 0 ≤ rH14 ∧ rH14 ≤ 2 := by rcases dH14 with ⟨h9, -⟩ | h9 | ⟨h9, -⟩ <;> omega
          replace dH14 : hid _ := dH14
          refine h_run 0 (pc' := 63) (l' := [(0, .inr (.inr 1826)), (1, .inl (s : Int)), (2, .inl (q : Int)), (3, .inl wh), (4, .inl (o : Int)), (5, .inl (i6 : Int))]) (st' := [.inl rH14]) rfl ?_
          refine h_run 3 (pc' := 68) (l' := [(0, .inr (.inr 1826)), (1, .inl (s : Int)), (2, .inl (q : Int)), (3, .inl wh), (4, .inl (o : Int)), (5, .inl (i6 : Int)), (6, .inl rH14)]) (st' := [.inl 2, .inl rH14]) rfl ?_
          refine h_ine (off := 6) (t := 74) rfl rfl (by omega) (by decide) (fun c17 => ?_) (fun c17 => ?_)
          · refine h_run 5 (pc' := 83) (l' := [(0, .inr (.inr 1826)), (1, .inl (s : Int)), (2, .inl (q : Int)), (3, .inl wh), (4, .inl (o : Int)), (5, .inl (i6 : Int)), (6, .inl rH14)]) (st' := [.inl (H14.1 1826 93), .inr (.inr 1884), .inr (.inr 1826)]) rfl ?_
            have g18 : -2147483648 ≤ (H14.1 1826 93) ∧ (H14.1 1826 93) ≤ 2147483647 := hrg15.1 1826 13 93 _ .int rfl rfl
            have e19 : (H14.1 1826 93) = (H2.1 1826 93) := hfH14.2.2 93 (by decide)
            refine h_run 2 (pc' := 87) (l' := [(0, .inr (.inr 1826)), (1, .inl (s : Int)), (2, .inl (q : Int)), (3, .inl wh), (4, .inl (o : Int)), (5, .inl (i6 : Int)), (6, .inl rH14)]) (st' := [.inl rH14, .inl (i6 : Int), .inl (H14.1 1826 93), .inr (.inr 1884), .inr (.inr 1826)]) rfl ?_
            rw [show (H14.1 1826 93) = (N : Int) by omega]
            have hQm : sP H H14 := sP_fr (sP_rf H) hf16 (by decide) (by decide)
            have hPm : PWc H14 := PWc_fr hP hf16 (by decide) (by decide)
            have eNw : (H14.1 1884) = (H2.1 1884) := hfH14.2.1 1884 (by decide) (by decide)
            refine h_cv (i := 456) (j := 199) (b := 1826) (M' := mt_199) (xs := [.inl rH14, .inl (i6 : Int), .inl (N : Int), .inr (.inr 1884)]) (rest := []) rfl rfl rfl rfl rfl rfl (Nat.le_of_ble_eq_true rfl) (Nat.le_of_ble_eq_true rfl) (by omega) (m_makeDone (c := 1884) (n := 128) (N := N) (p := i6) (k := ki) (ok := (m_sg (H.1 1826 3) (H.1 1826 8) 60)) (by omega) rfl (by decide) (by decide) (fun s9 h9 => by unfold m_sg at h9; unfold sg0; omega) (fun s9 h9 => by rw [hQm.2.2.1, hQm.2.2.2] at h9; unfold m_sg at *; omega) hPm (by rw [hQm.1, hQm.2.1, eNw]; exact hTn) (by rw [hQm.1, hQm.2.1, eNw]; exact hTi) (by omega) (by omega) (fun h9 => by have h8 : hid _ := dH14; unfold hid at h8; rcases h8 with ⟨_, r9, kl9, y1, y2, y3, y4⟩ | h8 | ⟨h8, _⟩; { rw [show (H14.1 1833) = (H2.1 1833) from hfH14.2.1 1833 (by decide) (by decide), show (H14.1 1830) = (H2.1 1830) from hfH14.2.1 1830 (by decide) (by decide), show (H14.1 1884) = (H2.1 1884) from hfH14.2.1 1884 (by decide) (by decide), show (H14.1 1837) = (H2.1 1837) from hfH14.2.1 1837 (by decide) (by decide), show (H14.1 1838) = (H2.1 1838) from hfH14.2.1 1838 (by decide) (by decide), show (H14.1 1826 13) = (H2.1 1826 13) from hfH14.2.2 13 (by decide)]; exact ⟨r9, kl9, y1, y2, y3, bnd_mono y4 (by omega) (by omega)⟩ }; { omega }; { omega })) ?_
            rintro _ H20 ⟨rfl, hfH20, MH20, zH20, mH20, tH20⟩
            refine h_rng (fun hrg21 => ?_)
            have hf22 : fr [50, 51, 53, 76, 93, 97] [1847, 1852, 1853, 1855, 1856, 1873, 1874, 1878, 1884, 1886] H H20 := fr_t hf16 hfH20 (by decide) (by decide)
            have hOSH20 : OS H H20 n := OS_fr hOSH14 hfH20 (by decide) (by decide) (by decide)
            have hooH20 : (H20.1 1871) 0 = (o : Int) := (congrFun (hfH20.2.1 1871 (by decide) (by decide)) 0).trans hooH14
            have tdH20 : tm (ma (H.1 1833) (H.1 1830)) (m_sg (H.1 1826 3) (H.1 1826 8) 60) (H20.1 1856) MH20 0 1 := by have h9 := tH20; rw [hQm.1, hQm.2.1] at h9; exact h9
            refine h_run 0 (pc' := 90) (l' := [(0, .inr (.inr 1826)), (1, .inl (s : Int)), (2, .inl (q : Int)), (3, .inl wh), (4, .inl (o : Int)), (5, .inl (i6 : Int)), (6, .inl rH14)]) (st' := []) rfl ?_
            refine h_run 3 (pc' := 94) (l' := [(0, .inr (.inr 1826)), (1, .inl (s : Int)), (2, .inl (q : Int)), (3, .inl wh), (4, .inl (o : Int)), (5, .inl (i6 : Int)), (6, .inl rH14)]) (st' := [.inl (s : Int), .inl (o : Int), .inr (.inr 1826)]) rfl ?_
            refine h_cv (i := 575) (j := 229) (b := 1826) (M' := mt_229) (xs := [.inl (s : Int), .inl (o : Int)]) (rest := []) rfl rfl rfl rfl rfl rfl (Nat.le_of_ble_eq_true rfl) (Nat.le_of_ble_eq_true rfl) (by omega) (m_isKept (M := MH20) (by omega) (by omega) ⟨zH20, mH20⟩) ?_
            rintro _ H23 (⟨rfl, hxH23, rfl⟩ | ⟨rfl, hlH23, hfH23, hzH23, hcH23, hoH23⟩)
            · refine h_run 0 (pc' := 97) (l' := [(0, .inr (.inr 1826)), (1, .inl (s : Int)), (2, .inl (q : Int)), (3, .inl wh), (4, .inl (o : Int)), (5, .inl (i6 : Int)), (6, .inl rH14)]) (st' := [.inl 0]) rfl ?_
              refine h_zeq (off := 10) (t := 107) rfl rfl (by decide) (fun _ => ?_) (fun c => absurd c (by decide))
              refine h_run 1 (pc' := 109) (l' := [(0, .inr (.inr 1826)), (1, .inl (s : Int)), (2, .inl (q : Int)), (3, .inl wh), (4, .inl (o : Int)), (5, .inl (i6 : Int)), (6, .inl rH14)]) (st' := [.inl (-105)]) rfl ?_
              refine h_reti (x := (-105)) rfl rfl ?_
              have g24 : -2147483648 ≤ (H20.1 1826 97) ∧ (H20.1 1826 97) ≤ 2147483647 := hrg21.1 1826 13 97 _ .int rfl rfl
              have e25 : (H20.1 1826 97) = (H14.1 1826 97) := hfH20.2.2 97 (by decide)
              have e26 : (H14.1 1826 97) = (H2.1 1826 97) := hfH14.2.2 97 (by decide)
              have e27 : (H2.1 1826 97) = (H.1 1826 97) := hfH2.2.2 97 (by decide)
              exact ⟨hf22, (show (H20.1 1826 97) = -1 by omega), hOSH20, _, rfl, ⟨by omega, by omega⟩, Or.inr (by show (H20.1 1874) = (H.1 1874); rw [show (H20.1 1874) = (H14.1 1874) from hfH20.2.1 1874 (by decide) (by decide), show (H14.1 1874) = (H2.1 1874) from hfH14.2.1 1874 (by decide) (by decide), show (H2.1 1874) = (H.1 1874) from hfH2.2.1 1874 (by decide) (by decide)])⟩
            · refine h_rng (fun hrg28 => ?_)
              have hf29 : fr [50, 51, 53, 76, 93, 97] [1847, 1852, 1853, 1855, 1856, 1873, 1874, 1878, 1884, 1886] H H23 := fr_t hf22 hfH23 (by decide) (by decide)
              have hOSH23 : OS H H23 n := OS_side hOSH20 hooH20 hfH23 hs hlH23 hzH23 hcH23 hoH23 tdH20
              have hooH23 : (H23.1 1871) 0 = (o : Int) := (congrFun (hfH23.2.1 1871 (by decide) (by decide)) 0).trans hooH20
              refine h_run 0 (pc' := 97) (l' := [(0, .inr (.inr 1826)), (1, .inl (s : Int)), (2, .inl (q : Int)), (3, .inl wh), (4, .inl (o : Int)), (5, .inl (i6 : Int)), (6, .inl rH14)]) (st' := [.inl 1]) rfl ?_
              refine h_zeq (off := 10) (t := 107) rfl rfl (by decide) (fun c => absurd c (by decide)) (fun _ => ?_)
              refine h_run 1 (pc' := 101) (l' := [(0, .inr (.inr 1826)), (1, .inl (s : Int)), (2, .inl (q : Int)), (3, .inl wh), (4, .inl (o : Int)), (5, .inl (i6 : Int)), (6, .inl rH14)]) (st' := [.inr (.inr 1826)]) rfl ?_
              refine h_cv (i := 556) (j := 232) (b := 1826) (M' := mt_232) (xs := []) (rest := []) rfl rfl rfl rfl rfl rfl (Nat.le_of_ble_eq_true rfl) (Nat.le_of_ble_eq_true rfl) (by omega) (m_did (n := n) (by omega) hOSH23.1.1 (fun q9 => absurd q9 (by omega)) (by rw [show (H23.1 1871) 0 = (o : Int) from hooH23]; omega)) ?_
              rintro _ H30 ⟨rfl, hfH30⟩
              refine h_rng (fun hrg31 => ?_)
              have hf32 : fr [50, 51, 53, 76, 93, 97] [1847, 1852, 1853, 1855, 1856, 1873, 1874, 1878, 1884, 1886] H H30 := fr_t hf29 hfH30 (by decide) (by decide)
              have hOSH30 : OS H H30 n := OS_fr hOSH23 hfH30 (by decide) (by decide) (by decide)
              have hooH30 : (H30.1 1871) 0 = (o : Int) := (congrFun (hfH30.2.1 1871 (by decide) (by decide)) 0).trans hooH23
              refine h_run 0 (pc' := 104) (l' := [(0, .inr (.inr 1826)), (1, .inl (s : Int)), (2, .inl (q : Int)), (3, .inl wh), (4, .inl (o : Int)), (5, .inl (i6 : Int)), (6, .inl rH14)]) (st' := [.inl (n : Int)]) rfl ?_
              refine h_run 1 (pc' := 109) (l' := [(0, .inr (.inr 1826)), (1, .inl (s : Int)), (2, .inl (q : Int)), (3, .inl wh), (4, .inl (o : Int)), (5, .inl (i6 : Int)), (6, .inl rH14)]) (st' := [.inl (n : Int)]) rfl ?_
              refine h_reti (x := (n : Int)) rfl rfl ?_
              have g33 : -2147483648 ≤ (H30.1 1826 97) ∧ (H30.1 1826 97) ≤ 2147483647 := hrg31.1 1826 13 97 _ .int rfl rfl
              have e34 : (H30.1 1826 97) = (H23.1 1826 97) := hfH30.2.2 97 (by decide)
              have e35 : (H23.1 1826 97) = (H20.1 1826 97) := hfH23.2.2 97 (by decide)
              have e36 : (H20.1 1826 97) = (H14.1 1826 97) := hfH20.2.2 97 (by decide)
              have e37 : (H14.1 1826 97) = (H2.1 1826 97) := hfH14.2.2 97 (by decide)
              have e38 : (H2.1 1826 97) = (H.1 1826 97) := hfH2.2.2 97 (by decide)
              exact ⟨hf32, (show (H30.1 1826 97) = -1 by omega), hOSH30, _, rfl, ⟨by omega, by omega⟩, Or.inl (by omega)⟩
          · refine h_run 1 (pc' := 73) (l' := [(0, .inr (.inr 1826)), (1, .inl (s : Int)), (2, .inl (q : Int)), (3, .inl wh), (4, .inl (o : Int)), (5, .inl (i6 : Int)), (6, .inl rH14)]) (st' := [.inl (-104)]) rfl ?_
            refine h_reti (x := (-104)) rfl rfl ?_
            have g39 : -2147483648 ≤ (H14.1 1826 97) ∧ (H14.1 1826 97) ≤ 2147483647 := hrg15.1 1826 13 97 _ .int rfl rfl
            have e40 : (H14.1 1826 97) = (H2.1 1826 97) := hfH14.2.2 97 (by decide)
            have e41 : (H2.1 1826 97) = (H.1 1826 97) := hfH2.2.2 97 (by decide)
            exact ⟨hf16, (show (H14.1 1826 97) = -1 by omega), hOSH14, _, rfl, ⟨by omega, by omega⟩, Or.inr (by show (H14.1 1874) = (H.1 1874); rw [show (H14.1 1874) = (H2.1 1874) from hfH14.2.1 1874 (by decide) (by decide), show (H2.1 1874) = (H.1 1874) from hfH2.2.1 1874 (by decide) (by decide)])⟩
        · refine h_run 0 (pc' := 47) (l' := [(0, .inr (.inr 1826)), (1, .inl (s : Int)), (2, .inl (q : Int)), (3, .inl wh), (4, .inl (o : Int)), (5, .inl (i6 : Int))]) (st' := [.inl 0]) rfl ?_
          refine h_zne (off := 6) (t := 53) rfl rfl (by decide) (fun c => absurd c (by decide)) (fun _ => ?_)
          refine h_run 1 (pc' := 52) (l' := [(0, .inr (.inr 1826)), (1, .inl (s : Int)), (2, .inl (q : Int)), (3, .inl wh), (4, .inl (o : Int)), (5, .inl (i6 : Int))]) (st' := [.inl (-104)]) rfl ?_
          refine h_reti (x := (-104)) rfl rfl ?_
          have g42 : -2147483648 ≤ (H2.1 1826 97) ∧ (H2.1 1826 97) ≤ 2147483647 := hrg3.1 1826 13 97 _ .int rfl rfl
          have e43 : (H2.1 1826 97) = (H.1 1826 97) := hfH2.2.2 97 (by decide)
          exact ⟨hf4, (show (H2.1 1826 97) = -1 by omega), hOSH2, _, rfl, ⟨by omega, by omega⟩, Or.inr (by show (H2.1 1874) = (H.1 1874); rw [show (H2.1 1874) = (H.1 1874) from hfH2.2.1 1874 (by decide) (by decide)])⟩
  · obtain ⟨wi, hwi⟩ : ∃ k9 : Nat, wh = (k9 : Int) := ⟨(wh).toNat, by omega⟩
    rw [show wh = (wi : Int) from hwi]
    refine h_run 5 (pc' := 34) (l' := [(0, .inr (.inr 1826)), (1, .inl (s : Int)), (2, .inl (q : Int)), (3, .inl (wi : Int)), (4, .inl (o : Int)), (5, .inl (wi : Int))]) (st' := [.inl (-1), .inl (wi : Int)]) rfl ?_
    refine h_ieq (off := 16) (t := 50) rfl rfl (by omega) (by decide) (fun c44 => ?_) (fun c44 => ?_)
    · refine h_run 1 (pc' := 52) (l' := [(0, .inr (.inr 1826)), (1, .inl (s : Int)), (2, .inl (q : Int)), (3, .inl (wi : Int)), (4, .inl (o : Int)), (5, .inl (wi : Int))]) (st' := [.inl (-104)]) rfl ?_
      refine h_reti (x := (-104)) rfl rfl ?_
      have g45 : -2147483648 ≤ (H2.1 1826 97) ∧ (H2.1 1826 97) ≤ 2147483647 := hrg3.1 1826 13 97 _ .int rfl rfl
      have e46 : (H2.1 1826 97) = (H.1 1826 97) := hfH2.2.2 97 (by decide)
      exact ⟨hf4, (show (H2.1 1826 97) = -1 by omega), hOSH2, _, rfl, ⟨by omega, by omega⟩, Or.inr (by show (H2.1 1874) = (H.1 1874); rw [show (H2.1 1874) = (H.1 1874) from hfH2.2.1 1874 (by decide) (by decide)])⟩
    · obtain ⟨ki, hki, hTi⟩ := tm_sub hTn (p := wi) (by omega)
      have hki1 : 1 ≤ ki := tm_le hTi
      have hsi := tm_ok hTn wi (by omega)
      rw [Nat.zero_add] at hsi
      have hsi9 := hsi
      unfold m_sg at hsi9
      refine h_run 3 (pc' := 43) (l' := [(0, .inr (.inr 1826)), (1, .inl (s : Int)), (2, .inl (q : Int)), (3, .inl (wi : Int)), (4, .inl (o : Int)), (5, .inl (wi : Int))]) (st' := [.inl (wi : Int), .inr (.inr 1884)]) rfl ?_
      refine h_ild (c := 1884) (j := wi) (i := (wi : Int)) rfl rfl (by decide) rfl (by omega) ?_
      have g47 : -2147483648 ≤ (H2.1 1884 wi) ∧ (H2.1 1884 wi) ≤ 2147483647 := hrg3.2 1884 wi 128 .int rfl (by omega)
      refine h_run 0 (pc' := 44) (l' := [(0, .inr (.inr 1826)), (1, .inl (s : Int)), (2, .inl (q : Int)), (3, .inl (wi : Int)), (4, .inl (o : Int)), (5, .inl (wi : Int))]) (st' := [.inl (H2.1 1884 wi)]) rfl ?_
      refine h_cs (i := 450) (j := 156) (M' := mt_156) (xs := [.inl (H2.1 1884 wi)]) (rest := []) rfl rfl rfl rfl rfl (Nat.le_of_ble_eq_true rfl) (Nat.le_of_ble_eq_true rfl) (by omega) (m_isCall (by omega) (by omega)) ?_
      rintro _ _ ⟨⟨rfl, b48⟩ | ⟨rfl, b48⟩, rfl⟩
      · refine h_run 0 (pc' := 47) (l' := [(0, .inr (.inr 1826)), (1, .inl (s : Int)), (2, .inl (q : Int)), (3, .inl (wi : Int)), (4, .inl (o : Int)), (5, .inl (wi : Int))]) (st' := [.inl 1]) rfl ?_
        refine h_zne (off := 6) (t := 53) rfl rfl (by decide) (fun _ => ?_) (fun c => absurd c (by decide))
        refine h_run 4 (pc' := 60) (l' := [(0, .inr (.inr 1826)), (1, .inl (s : Int)), (2, .inl (q : Int)), (3, .inl (wi : Int)), (4, .inl (o : Int)), (5, .inl (wi : Int))]) (st' := [.inl (wi : Int), .inr (.inr 1884), .inr (.inr 1826)]) rfl ?_
        refine h_cv (i := 453) (j := 196) (b := 1826) (M' := mt_196) (xs := [.inl (wi : Int), .inr (.inr 1884)]) (rest := []) rfl rfl rfl rfl rfl rfl (Nat.le_of_ble_eq_true rfl) (Nat.le_of_ble_eq_true rfl) (by omega) (m_match (c := 1884) (n := 128) (p := wi) (k := ki) (ok := (m_sg (H.1 1826 3) (H.1 1826 8) 60)) (by omega) rfl (by decide) (by decide) (fun s9 h9 => by unfold m_sg at h9; unfold sg0; omega) hPb (by rw [hQb.1, hQb.2.1]; exact hTi) (by omega) (by rw [hQb.2.2.2]; omega)) ?_
        rintro _ H49 ⟨hfH49, rH49, rfl, dH49⟩
        refine h_rng (fun hrg50 => ?_)
        have hf51 : fr [50, 51, 53, 76, 93, 97] [1847, 1852, 1853, 1855, 1856, 1873, 1874, 1878, 1884, 1886] H H49 := fr_t hf4 hfH49 (by decide) (by decide)
        have hOSH49 : OS H H49 n := OS_fr hOSH2 hfH49 (by decide) (by decide) (by decide)
        have hooH49 : (H49.1 1871) 0 = (o : Int) := (congrFun (hfH49.2.1 1871 (by decide) (by decide)) 0).trans hooH2
        have bH49 : 0 ≤ rH49 ∧ rH49 ≤ 2 := by rcases dH49 with ⟨h9, -⟩ | h9 | ⟨h9, -⟩ <;> omega
        replace dH49 : hid _ := dH49
        refine h_run 0 (pc' := 63) (l' := [(0, .inr (.inr 1826)), (1, .inl (s : Int)), (2, .inl (q : Int)), (3, .inl (wi : Int)), (4, .inl (o : Int)), (5, .inl (wi : Int))]) (st' := [.inl rH49]) rfl ?_
        refine h_run 3 (pc' := 68) (l' := [(0, .inr (.inr 1826)), (1, .inl (s : Int)), (2, .inl (q : Int)), (3, .inl (wi : Int)), (4, .inl (o : Int)), (5, .inl (wi : Int)), (6, .inl rH49)]) (st' := [.inl 2, .inl rH49]) rfl ?_
        refine h_ine (off := 6) (t := 74) rfl rfl (by omega) (by decide) (fun c52 => ?_) (fun c52 => ?_)
        · refine h_run 5 (pc' := 83) (l' := [(0, .inr (.inr 1826)), (1, .inl (s : Int)), (2, .inl (q : Int)), (3, .inl (wi : Int)), (4, .inl (o : Int)), (5, .inl (wi : Int)), (6, .inl rH49)]) (st' := [.inl (H49.1 1826 93), .inr (.inr 1884), .inr (.inr 1826)]) rfl ?_
          have g53 : -2147483648 ≤ (H49.1 1826 93) ∧ (H49.1 1826 93) ≤ 2147483647 := hrg50.1 1826 13 93 _ .int rfl rfl
          have e54 : (H49.1 1826 93) = (H2.1 1826 93) := hfH49.2.2 93 (by decide)
          refine h_run 2 (pc' := 87) (l' := [(0, .inr (.inr 1826)), (1, .inl (s : Int)), (2, .inl (q : Int)), (3, .inl (wi : Int)), (4, .inl (o : Int)), (5, .inl (wi : Int)), (6, .inl rH49)]) (st' := [.inl rH49, .inl (wi : Int), .inl (H49.1 1826 93), .inr (.inr 1884), .inr (.inr 1826)]) rfl ?_
          rw [show (H49.1 1826 93) = (N : Int) by omega]
          have hQm : sP H H49 := sP_fr (sP_rf H) hf51 (by decide) (by decide)
          have hPm : PWc H49 := PWc_fr hP hf51 (by decide) (by decide)
          have eNw : (H49.1 1884) = (H2.1 1884) := hfH49.2.1 1884 (by decide) (by decide)
          refine h_cv (i := 456) (j := 199) (b := 1826) (M' := mt_199) (xs := [.inl rH49, .inl (wi : Int), .inl (N : Int), .inr (.inr 1884)]) (rest := []) rfl rfl rfl rfl rfl rfl (Nat.le_of_ble_eq_true rfl) (Nat.le_of_ble_eq_true rfl) (by omega) (m_makeDone (c := 1884) (n := 128) (N := N) (p := wi) (k := ki) (ok := (m_sg (H.1 1826 3) (H.1 1826 8) 60)) (by omega) rfl (by decide) (by decide) (fun s9 h9 => by unfold m_sg at h9; unfold sg0; omega) (fun s9 h9 => by rw [hQm.2.2.1, hQm.2.2.2] at h9; unfold m_sg at *; omega) hPm (by rw [hQm.1, hQm.2.1, eNw]; exact hTn) (by rw [hQm.1, hQm.2.1, eNw]; exact hTi) (by omega) (by omega) (fun h9 => by have h8 : hid _ := dH49; unfold hid at h8; rcases h8 with ⟨_, r9, kl9, y1, y2, y3, y4⟩ | h8 | ⟨h8, _⟩; { rw [show (H49.1 1833) = (H2.1 1833) from hfH49.2.1 1833 (by decide) (by decide), show (H49.1 1830) = (H2.1 1830) from hfH49.2.1 1830 (by decide) (by decide), show (H49.1 1884) = (H2.1 1884) from hfH49.2.1 1884 (by decide) (by decide), show (H49.1 1837) = (H2.1 1837) from hfH49.2.1 1837 (by decide) (by decide), show (H49.1 1838) = (H2.1 1838) from hfH49.2.1 1838 (by decide) (by decide), show (H49.1 1826 13) = (H2.1 1826 13) from hfH49.2.2 13 (by decide)]; exact ⟨r9, kl9, y1, y2, y3, bnd_mono y4 (by omega) (by omega)⟩ }; { omega }; { omega })) ?_
          rintro _ H55 ⟨rfl, hfH55, MH55, zH55, mH55, tH55⟩
          refine h_rng (fun hrg56 => ?_)
          have hf57 : fr [50, 51, 53, 76, 93, 97] [1847, 1852, 1853, 1855, 1856, 1873, 1874, 1878, 1884, 1886] H H55 := fr_t hf51 hfH55 (by decide) (by decide)
          have hOSH55 : OS H H55 n := OS_fr hOSH49 hfH55 (by decide) (by decide) (by decide)
          have hooH55 : (H55.1 1871) 0 = (o : Int) := (congrFun (hfH55.2.1 1871 (by decide) (by decide)) 0).trans hooH49
          have tdH55 : tm (ma (H.1 1833) (H.1 1830)) (m_sg (H.1 1826 3) (H.1 1826 8) 60) (H55.1 1856) MH55 0 1 := by have h9 := tH55; rw [hQm.1, hQm.2.1] at h9; exact h9
          refine h_run 0 (pc' := 90) (l' := [(0, .inr (.inr 1826)), (1, .inl (s : Int)), (2, .inl (q : Int)), (3, .inl (wi : Int)), (4, .inl (o : Int)), (5, .inl (wi : Int)), (6, .inl rH49)]) (st' := []) rfl ?_
          refine h_run 3 (pc' := 94) (l' := [(0, .inr (.inr 1826)), (1, .inl (s : Int)), (2, .inl (q : Int)), (3, .inl (wi : Int)), (4, .inl (o : Int)), (5, .inl (wi : Int)), (6, .inl rH49)]) (st' := [.inl (s : Int), .inl (o : Int), .inr (.inr 1826)]) rfl ?_
          refine h_cv (i := 575) (j := 229) (b := 1826) (M' := mt_229) (xs := [.inl (s : Int), .inl (o : Int)]) (rest := []) rfl rfl rfl rfl rfl rfl (Nat.le_of_ble_eq_true rfl) (Nat.le_of_ble_eq_true rfl) (by omega) (m_isKept (M := MH55) (by omega) (by omega) ⟨zH55, mH55⟩) ?_
          rintro _ H58 (⟨rfl, hxH58, rfl⟩ | ⟨rfl, hlH58, hfH58, hzH58, hcH58, hoH58⟩)
          · refine h_run 0 (pc' := 97) (l' := [(0, .inr (.inr 1826)), (1, .inl (s : Int)), (2, .inl (q : Int)), (3, .inl (wi : Int)), (4, .inl (o : Int)), (5, .inl (wi : Int)), (6, .inl rH49)]) (st' := [.inl 0]) rfl ?_
            refine h_zeq (off := 10) (t := 107) rfl rfl (by decide) (fun _ => ?_) (fun c => absurd c (by decide))
            refine h_run 1 (pc' := 109) (l' := [(0, .inr (.inr 1826)), (1, .inl (s : Int)), (2, .inl (q : Int)), (3, .inl (wi : Int)), (4, .inl (o : Int)), (5, .inl (wi : Int)), (6, .inl rH49)]) (st' := [.inl (-105)]) rfl ?_
            refine h_reti (x := (-105)) rfl rfl ?_
            have g59 : -2147483648 ≤ (H55.1 1826 97) ∧ (H55.1 1826 97) ≤ 2147483647 := hrg56.1 1826 13 97 _ .int rfl rfl
            have e60 : (H55.1 1826 97) = (H49.1 1826 97) := hfH55.2.2 97 (by decide)
            have e61 : (H49.1 1826 97) = (H2.1 1826 97) := hfH49.2.2 97 (by decide)
            have e62 : (H2.1 1826 97) = (H.1 1826 97) := hfH2.2.2 97 (by decide)
            exact ⟨hf57, (show (H55.1 1826 97) = -1 by omega), hOSH55, _, rfl, ⟨by omega, by omega⟩, Or.inr (by show (H55.1 1874) = (H.1 1874); rw [show (H55.1 1874) = (H49.1 1874) from hfH55.2.1 1874 (by decide) (by decide), show (H49.1 1874) = (H2.1 1874) from hfH49.2.1 1874 (by decide) (by decide), show (H2.1 1874) = (H.1 1874) from hfH2.2.1 1874 (by decide) (by decide)])⟩
          · refine h_rng (fun hrg63 => ?_)
            have hf64 : fr [50, 51, 53, 76, 93, 97] [1847, 1852, 1853, 1855, 1856, 1873, 1874, 1878, 1884, 1886] H H58 := fr_t hf57 hfH58 (by decide) (by decide)
            have hOSH58 : OS H H58 n := OS_side hOSH55 hooH55 hfH58 hs hlH58 hzH58 hcH58 hoH58 tdH55
            have hooH58 : (H58.1 1871) 0 = (o : Int) := (congrFun (hfH58.2.1 1871 (by decide) (by decide)) 0).trans hooH55
            refine h_run 0 (pc' := 97) (l' := [(0, .inr (.inr 1826)), (1, .inl (s : Int)), (2, .inl (q : Int)), (3, .inl (wi : Int)), (4, .inl (o : Int)), (5, .inl (wi : Int)), (6, .inl rH49)]) (st' := [.inl 1]) rfl ?_
            refine h_zeq (off := 10) (t := 107) rfl rfl (by decide) (fun c => absurd c (by decide)) (fun _ => ?_)
            refine h_run 1 (pc' := 101) (l' := [(0, .inr (.inr 1826)), (1, .inl (s : Int)), (2, .inl (q : Int)), (3, .inl (wi : Int)), (4, .inl (o : Int)), (5, .inl (wi : Int)), (6, .inl rH49)]) (st' := [.inr (.inr 1826)]) rfl ?_
            refine h_cv (i := 556) (j := 232) (b := 1826) (M' := mt_232) (xs := []) (rest := []) rfl rfl rfl rfl rfl rfl (Nat.le_of_ble_eq_true rfl) (Nat.le_of_ble_eq_true rfl) (by omega) (m_did (n := n) (by omega) hOSH58.1.1 (fun q9 => absurd q9 (by omega)) (by rw [show (H58.1 1871) 0 = (o : Int) from hooH58]; omega)) ?_
            rintro _ H65 ⟨rfl, hfH65⟩
            refine h_rng (fun hrg66 => ?_)
            have hf67 : fr [50, 51, 53, 76, 93, 97] [1847, 1852, 1853, 1855, 1856, 1873, 1874, 1878, 1884, 1886] H H65 := fr_t hf64 hfH65 (by decide) (by decide)
            have hOSH65 : OS H H65 n := OS_fr hOSH58 hfH65 (by decide) (by decide) (by decide)
            have hooH65 : (H65.1 1871) 0 = (o : Int) := (congrFun (hfH65.2.1 1871 (by decide) (by decide)) 0).trans hooH58
            refine h_run 0 (pc' := 104) (l' := [(0, .inr (.inr 1826)), (1, .inl (s : Int)), (2, .inl (q : Int)), (3, .inl (wi : Int)), (4, .inl (o : Int)), (5, .inl (wi : Int)), (6, .inl rH49)]) (st' := [.inl (n : Int)]) rfl ?_
            refine h_run 1 (pc' := 109) (l' := [(0, .inr (.inr 1826)), (1, .inl (s : Int)), (2, .inl (q : Int)), (3, .inl (wi : Int)), (4, .inl (o : Int)), (5, .inl (wi : Int)), (6, .inl rH49)]) (st' := [.inl (n : Int)]) rfl ?_
            refine h_reti (x := (n : Int)) rfl rfl ?_
            have g68 : -2147483648 ≤ (H65.1 1826 97) ∧ (H65.1 1826 97) ≤ 2147483647 := hrg66.1 1826 13 97 _ .int rfl rfl
            have e69 : (H65.1 1826 97) = (H58.1 1826 97) := hfH65.2.2 97 (by decide)
            have e70 : (H58.1 1826 97) = (H55.1 1826 97) := hfH58.2.2 97 (by decide)
            have e71 : (H55.1 1826 97) = (H49.1 1826 97) := hfH55.2.2 97 (by decide)
            have e72 : (H49.1 1826 97) = (H2.1 1826 97) := hfH49.2.2 97 (by decide)
            have e73 : (H2.1 1826 97) = (H.1 1826 97) := hfH2.2.2 97 (by decide)
            exact ⟨hf67, (show (H65.1 1826 97) = -1 by omega), hOSH65, _, rfl, ⟨by omega, by omega⟩, Or.inl (by omega)⟩
        · refine h_run 1 (pc' := 73) (l' := [(0, .inr (.inr 1826)), (1, .inl (s : Int)), (2, .inl (q : Int)), (3, .inl (wi : Int)), (4, .inl (o : Int)), (5, .inl (wi : Int)), (6, .inl rH49)]) (st' := [.inl (-104)]) rfl ?_
          refine h_reti (x := (-104)) rfl rfl ?_
          have g74 : -2147483648 ≤ (H49.1 1826 97) ∧ (H49.1 1826 97) ≤ 2147483647 := hrg50.1 1826 13 97 _ .int rfl rfl
          have e75 : (H49.1 1826 97) = (H2.1 1826 97) := hfH49.2.2 97 (by decide)
          have e76 : (H2.1 1826 97) = (H.1 1826 97) := hfH2.2.2 97 (by decide)
          exact ⟨hf51, (show (H49.1 1826 97) = -1 by omega), hOSH49, _, rfl, ⟨by omega, by omega⟩, Or.inr (by show (H49.1 1874) = (H.1 1874); rw [show (H49.1 1874) = (H2.1 1874) from hfH49.2.1 1874 (by decide) (by decide), show (H2.1 1874) = (H.1 1874) from hfH2.2.1 1874 (by decide) (by decide)])⟩
      · refine h_run 0 (pc' := 47) (l' := [(0, .inr (.inr 1826)), (1, .inl (s : Int)), (2, .inl (q : Int)), (3, .inl (wi : Int)), (4, .inl (o : Int)), (5, .inl (wi : Int))]) (st' := [.inl 0]) rfl ?_
        refine h_zne (off := 6) (t := 53) rfl rfl (by decide) (fun c => absurd c (by decide)) (fun _ => ?_)
        refine h_run 1 (pc' := 52) (l' := [(0, .inr (.inr 1826)), (1, .inl (s : Int)), (2, .inl (q : Int)), (3, .inl (wi : Int)), (4, .inl (o : Int)), (5, .inl (wi : Int))]) (st' := [.inl (-104)]) rfl ?_
        refine h_reti (x := (-104)) rfl rfl ?_
        have g77 : -2147483648 ≤ (H2.1 1826 97) ∧ (H2.1 1826 97) ≤ 2147483647 := hrg3.1 1826 13 97 _ .int rfl rfl
        have e78 : (H2.1 1826 97) = (H.1 1826 97) := hfH2.2.2 97 (by decide)
        exact ⟨hf4, (show (H2.1 1826 97) = -1 by omega), hOSH2, _, rfl, ⟨by omega, by omega⟩, Or.inr (by show (H2.1 1874) = (H.1 1874); rw [show (H2.1 1874) = (H.1 1874) from hfH2.2.1 1874 (by decide) (by decide)])⟩
