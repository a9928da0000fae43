/-! the reference: showing -/
/-! show -/
set_option maxRecDepth 100000 in
theorem m_show {zC : Nat → Option zsh} {d : Nat} (hd : 4 ≤ d) {H : hp} {k s : Int} (hP : PWc H) (hG9 : GP H) (hou : 0 ≤ (H.1 1826 59) ∧ (H.1 1826 59) ≤ 8000) (hk : -2147483648 ≤ k ∧ k ≤ 2147483647) (hs : -2147483648 ≤ s ∧ s ≤ 2147483647) : hG (zs zC) d mt_270 0 (zargs 0 [.inr (.inr 1826), .inl k, .inl s]) [] H (fun r9 H2 => fr [59, 93] [1858, 1859, 1860, 1884] H H2 ∧ (0 ≤ (H2.1 1826 59) ∧ (H2.1 1826 59) ≤ 8000) ∧ ∃ r0 : Int, r9 = some (.inl r0)) := by
  refine h_rng (fun hrg0 => ?_)
  refine h_run 0 (pc' := 0) (l' := [(0, .inr (.inr 1826)), (1, .inl k), (2, .inl s)]) (st' := []) rfl ?_
  obtain ⟨⟨pb1, pb2, pb3, pb4, pb5⟩, pw1, pw2, pw3, pw4⟩ := (id hP : PW H (H.1 1826 1) (H.1 1826 3) (H.1 1826 8) (H.1 1826 13) (H.1 1826 19))
  refine h_run 1 (pc' := 1) (l' := [(0, .inr (.inr 1826)), (1, .inl k), (2, .inl s)]) (st' := [.inr (.inr 1826)]) rfl ?_
  have g1 : -2147483648 ≤ (H.1 1826 77) ∧ (H.1 1826 77) ≤ 2147483647 := hrg0.1 1826 13 77 _ .int rfl rfl
  refine h_cv (i := 563) (j := 235) (b := 1826) (M' := mt_235) (xs := []) (rest := []) rfl rfl rfl rfl rfl rfl (Nat.le_of_ble_eq_true rfl) (Nat.le_of_ble_eq_true rfl) (by omega) (m_idle (by omega)) ?_
  rintro _ _ ⟨⟨rfl, b2⟩ | ⟨rfl, b2⟩, rfl⟩
  · have b2x : (H.1 1826 77) = 0 := b2
    refine h_run 0 (pc' := 4) (l' := [(0, .inr (.inr 1826)), (1, .inl k), (2, .inl s)]) (st' := [.inl 1]) rfl ?_
    refine h_zeq (off := 6) (t := 10) rfl rfl (by decide) (fun c => absurd c (by decide)) (fun _ => ?_)
    refine h_run 1 (pc' := 9) (l' := [(0, .inr (.inr 1826)), (1, .inl k), (2, .inl s)]) (st' := [.inl (-103)]) rfl ?_
    refine h_reti (x := (-103)) rfl rfl ?_
    exact ⟨(fr_rf _ _ _), hou, _, rfl⟩
  · have b2x : (H.1 1826 77) ≠ 0 := b2
    refine h_run 0 (pc' := 4) (l' := [(0, .inr (.inr 1826)), (1, .inl k), (2, .inl s)]) (st' := [.inl 0]) rfl ?_
    refine h_zeq (off := 6) (t := 10) rfl rfl (by decide) (fun _ => ?_) (fun c => absurd c (by decide))
    obtain ⟨n, o, hS, hoo9, hol9, hog9⟩ := GP_SI hP hG9 (by omega)
    have hg1 := hS.2.1.1
    refine h_run 1 (pc' := 11) (l' := [(0, .inr (.inr 1826)), (1, .inl k), (2, .inl s)]) (st' := [.inl k]) rfl ?_
    refine h_zlt (off := 20) (t := 31) rfl rfl (by omega) (fun c3 => ?_) (fun c3 => ?_)
    · refine h_run 1 (pc' := 33) (l' := [(0, .inr (.inr 1826)), (1, .inl k), (2, .inl s)]) (st' := [.inl (-102)]) rfl ?_
      refine h_reti (x := (-102)) rfl rfl ?_
      exact ⟨(fr_rf _ _ _), hou, _, rfl⟩
    · refine h_run 3 (pc' := 19) (l' := [(0, .inr (.inr 1826)), (1, .inl k), (2, .inl s)]) (st' := [.inl (H.1 1826 77), .inl k]) rfl ?_
      refine h_ige (off := 12) (t := 31) rfl rfl (by omega) (by omega) (fun c4 => ?_) (fun c4 => ?_)
      · refine h_run 1 (pc' := 33) (l' := [(0, .inr (.inr 1826)), (1, .inl k), (2, .inl s)]) (st' := [.inl (-102)]) rfl ?_
        refine h_reti (x := (-102)) rfl rfl ?_
        exact ⟨(fr_rf _ _ _), hou, _, rfl⟩
      · refine h_run 1 (pc' := 23) (l' := [(0, .inr (.inr 1826)), (1, .inl k), (2, .inl s)]) (st' := [.inl s]) rfl ?_
        refine h_zlt (off := 8) (t := 31) rfl rfl (by omega) (fun c5 => ?_) (fun c5 => ?_)
        · refine h_run 1 (pc' := 33) (l' := [(0, .inr (.inr 1826)), (1, .inl k), (2, .inl s)]) (st' := [.inl (-102)]) rfl ?_
          refine h_reti (x := (-102)) rfl rfl ?_
          exact ⟨(fr_rf _ _ _), hou, _, rfl⟩
        · refine h_run 2 (pc' := 28) (l' := [(0, .inr (.inr 1826)), (1, .inl k), (2, .inl s)]) (st' := [.inl 1, .inl s]) rfl ?_
          refine h_ile (off := 6) (t := 34) rfl rfl (by omega) (by decide) (fun c6 => ?_) (fun c6 => ?_)
          · obtain ⟨kn, hkn⟩ : ∃ k9 : Nat, k = (k9 : Int) := ⟨(k).toNat, by omega⟩
            rw [show k = (kn : Int) from hkn]
            obtain ⟨sn, hsn⟩ : ∃ k9 : Nat, s = (k9 : Int) := ⟨(s).toNat, by omega⟩
            rw [show s = (sn : Int) from hsn]
            obtain ⟨g, ga, gl, gu, gg⟩ := hS.2.1.2.1 kn (by omega)
            obtain ⟨N, u1, u2, u3⟩ := gg.1 sn (by omega)
            refine h_run 4 (pc' := 40) (l' := [(0, .inr (.inr 1826)), (1, .inl (kn : Int)), (2, .inl (sn : Int))]) (st' := [.inl (kn : Int), .inr (.inr 1871), .inr (.inr 1826)]) rfl ?_
            refine h_ild (c := 1871) (j := kn) (i := (kn : Int)) rfl rfl (by decide) rfl (by omega) ?_
            have g7 : -2147483648 ≤ (H.1 1871 kn) ∧ (H.1 1871 kn) ≤ 2147483647 := hrg0.2 1871 kn 13 .int rfl (by omega)
            refine h_run 0 (pc' := 41) (l' := [(0, .inr (.inr 1826)), (1, .inl (kn : Int)), (2, .inl (sn : Int))]) (st' := [.inl (H.1 1871 kn), .inr (.inr 1826)]) rfl ?_
            rw [show (H.1 1871 kn) = (g : Int) by omega]
            refine h_run 1 (pc' := 42) (l' := [(0, .inr (.inr 1826)), (1, .inl (kn : Int)), (2, .inl (sn : Int))]) (st' := [.inl (sn : Int), .inl (g : Int), .inr (.inr 1826)]) rfl ?_
            refine h_cv (i := 569) (j := 228) (b := 1826) (M' := mt_228) (xs := [.inl (sn : Int), .inl (g : Int)]) (rest := []) rfl rfl rfl rfl rfl rfl (Nat.le_of_ble_eq_true rfl) (Nat.le_of_ble_eq_true rfl) (by omega) (m_bring (k := N) (by omega) (by omega) ⟨u1, by omega⟩) ?_
            rintro _ H8 ⟨rfl, hfH8, hzH8, hcH8⟩
            refine h_rng (fun hrg9 => ?_)
            have hf10 : fr [59, 93] [1858, 1859, 1860, 1884] H H8 := fr_t (fr_rf _ _ _) hfH8 (by decide) (by decide)
            have hTn : tm (ma (H.1 1833) (H.1 1830)) (m_sg (H.1 1826 3) (H.1 1826 8) 60) (H8.1 1884) N 0 1 := tm_at u3 (fun x hx => by rw [Nat.zero_add]; exact hcH8 x hx)
            refine h_run 0 (pc' := 45) (l' := [(0, .inr (.inr 1826)), (1, .inl (kn : Int)), (2, .inl (sn : Int))]) (st' := []) rfl ?_
            refine h_run 4 (pc' := 51) (l' := [(0, .inr (.inr 1826)), (1, .inl (kn : Int)), (2, .inl (sn : Int))]) (st' := [.inl 0, .inr (.inr 1884), .inr (.inr 1826)]) rfl ?_
            have hQp : sP H H8 := sP_fr2 hf10 (by decide) (by decide)
            have hPp : PWc H8 := PWc_fr hP hf10 (by decide) (by decide)
            refine h_cv (i := 466) (j := 206) (b := 1826) (M' := mt_206) (xs := [.inl 0, .inr (.inr 1884)]) (rest := []) rfl rfl rfl rfl rfl rfl (Nat.le_of_ble_eq_true rfl) (Nat.le_of_ble_eq_true rfl) (by omega) (m_print2 (c := 1884) (n := 128) (k := N) (ok := (m_sg (H.1 1826 3) (H.1 1826 8) 60)) (by omega) rfl (by decide) (by decide) (fun s9 h9 => by unfold m_sg at h9; unfold sg0; omega) hPp (by rw [hQp.1, hQp.2.1]; exact hTn) (by omega)) ?_
            rintro _ H11 ⟨rfl, hfH11, hoH11⟩
            refine h_rng (fun hrg12 => ?_)
            have hf13 : fr [59, 93] [1858, 1859, 1860, 1884] H H11 := fr_t hf10 hfH11 (by decide) (by decide)
            refine h_run 0 (pc' := 54) (l' := [(0, .inr (.inr 1826)), (1, .inl (kn : Int)), (2, .inl (sn : Int))]) (st' := []) rfl ?_
            refine h_run 2 (pc' := 58) (l' := [(0, .inr (.inr 1826)), (1, .inl (kn : Int)), (2, .inl (sn : Int))]) (st' := [.inl (H11.1 1826 59)]) rfl ?_
            have g14 : -2147483648 ≤ (H11.1 1826 59) ∧ (H11.1 1826 59) ≤ 2147483647 := hrg12.1 1826 13 59 _ .int rfl rfl
            refine h_reti (x := (H11.1 1826 59)) rfl rfl ?_
            exact ⟨hf13, hoH11, _, rfl⟩
          · refine h_run 1 (pc' := 33) (l' := [(0, .inr (.inr 1826)), (1, .inl k), (2, .inl s)]) (st' := [.inl (-102)]) rfl ?_
            refine h_reti (x := (-102)) rfl rfl ?_
            exact ⟨(fr_rf _ _ _), hou, _, rfl⟩

/-! showHypothesis -/
set_option maxRecDepth 100000 in
theorem m_showHypothesis_cut {zC : Nat → Option zsh} {d : Nat} (hd : 4 ≤ d) {H : hp} {k s : Int} (hP : PWc H) (hG9 : GP H) (hou : 0 ≤ (H.1 1826 59) ∧ (H.1 1826 59) ≤ 8000) (hk : -2147483648 ≤ k ∧ k ≤ 2147483647) (hs : -2147483648 ≤ s ∧ s ≤ 2147483647) : ∀ w : Nat, (∀ (H1 : hp) (kn : Nat) (sn : Nat) (o : Nat) (i : Nat) (kk : Nat), (fr [59, 93] [1858, 1859, 1860, 1884] H H1) → (kn < 8 ∧ sn < 2 ∧ o < 40) → ((H.1 1881) ((2 * ((8 * o) + kn)) + sn) = (kk : Int) ∧ kk ≤ 60) → (tm (ma (H.1 1833) (H.1 1830)) (okf H) (H.1 1880) kk (64 * ((2 * ((8 * o) + kn)) + sn)) 1) → (i ≤ kk) → (∀ x, x < i → (H1.1 1884) x = (H.1 1880) (64 * ((2 * ((8 * o) + kn)) + sn) + x)) → 1000 - i < w → hG (zs zC) d mt_271 46 [(0, .inr (.inr 1826)), (1, .inl (kn : Int)), (2, .inl (sn : Int)), (3, .inl (o : Int)), (4, .inl (i : Int))] [] H1 (fun r9 H2 => fr [59, 93] [1858, 1859, 1860, 1884] H H2 ∧ (0 ≤ (H2.1 1826 59) ∧ (H2.1 1826 59) ≤ 8000) ∧ ∃ r0 : Int, r9 = some (.inl r0))) := by
  intro w
  induction w with
  | zero => exact fun _ _ _ _ _ _ _ _ _ _ _ _ h => absurd h (Nat.not_lt_zero _)
  | succ w ih =>
    intro H1 kn sn o i kk hf hb u1 u3 hi hcp hw
    refine h_rng (fun hrg1 => ?_)
    obtain ⟨⟨pb1, pb2, pb3, pb4, pb5⟩, pw1, pw2, pw3, pw4⟩ := (id hP : PW H (H.1 1826 1) (H.1 1826 3) (H.1 1826 8) (H.1 1826 13) (H.1 1826 19))
    have ehs : (H1.1 1881) ((2 * ((8 * o) + kn)) + sn) = (H.1 1881) ((2 * ((8 * o) + kn)) + sn) := congrFun (hf.2.1 1881 (by decide) (by decide)) _
    refine h_run 12 (pc' := 62) (l' := [(0, .inr (.inr 1826)), (1, .inl (kn : Int)), (2, .inl (sn : Int)), (3, .inl (o : Int)), (4, .inl (i : Int))]) (st' := [.inl ((2 * ((8 * (o : Int)) + (kn : Int))) + (sn : Int)), .inr (.inr 1881), .inl (i : Int)]) rfl ?_
    refine h_ild (c := 1881) (j := ((2 * ((8 * o) + kn)) + sn)) (i := ((2 * ((8 * (o : Int)) + (kn : Int))) + (sn : Int))) rfl rfl (by decide) (by omega) (by omega) ?_
    have g2 : -2147483648 ≤ (H1.1 1881 ((2 * ((8 * o) + kn)) + sn)) ∧ (H1.1 1881 ((2 * ((8 * o) + kn)) + sn)) ≤ 2147483647 := hrg1.2 1881 ((2 * ((8 * o) + kn)) + sn) 640 .int rfl (by omega)
    have e3 : (H1.1 1881 ((2 * ((8 * o) + kn)) + sn)) = (H.1 1881 ((2 * ((8 * o) + kn)) + sn)) := congrFun (hf.2.1 1881 (by decide) (by decide)) ((2 * ((8 * o) + kn)) + sn)
    refine h_run 0 (pc' := 63) (l' := [(0, .inr (.inr 1826)), (1, .inl (kn : Int)), (2, .inl (sn : Int)), (3, .inl (o : Int)), (4, .inl (i : Int))]) (st' := [.inl (H1.1 1881 ((2 * ((8 * o) + kn)) + sn)), .inl (i : Int)]) rfl ?_
    refine h_ige (off := 31) (t := 94) rfl rfl (by omega) (by omega) (fun c4 => ?_) (fun c4 => ?_)
    · refine h_run 4 (pc' := 100) (l' := [(0, .inr (.inr 1826)), (1, .inl (kn : Int)), (2, .inl (sn : Int)), (3, .inl (o : Int)), (4, .inl (i : Int))]) (st' := [.inl 0, .inr (.inr 1884), .inr (.inr 1826)]) rfl ?_
      have hQp : sP H H1 := sP_fr2 hf (by decide) (by decide)
      have hPp : PWc H1 := PWc_fr hP hf (by decide) (by decide)
      refine h_cv (i := 466) (j := 206) (b := 1826) (M' := mt_206) (xs := [.inl 0, .inr (.inr 1884)]) (rest := []) rfl rfl rfl rfl rfl rfl (Nat.le_of_ble_eq_true rfl) (Nat.le_of_ble_eq_true rfl) (by omega) (m_print2 (c := 1884) (n := 128) (k := kk) (ok := (okf H)) (by omega) rfl (by decide) (by decide) (fun s9 h9 => by unfold okf m_sg at h9; unfold sg0; omega) hPp (by rw [hQp.1, hQp.2.1]; exact (tm_at u3 (fun x hx => by rw [Nat.zero_add]; exact hcp x (by omega)))) (by omega)) ?_
      rintro _ H5 ⟨rfl, hfH5, hoH5⟩
      refine h_rng (fun hrg6 => ?_)
      have hf7 : fr [59, 93] [1858, 1859, 1860, 1884] H H5 := fr_t hf hfH5 (by decide) (by decide)
      refine h_run 0 (pc' := 103) (l' := [(0, .inr (.inr 1826)), (1, .inl (kn : Int)), (2, .inl (sn : Int)), (3, .inl (o : Int)), (4, .inl (i : Int))]) (st' := []) rfl ?_
      refine h_run 2 (pc' := 107) (l' := [(0, .inr (.inr 1826)), (1, .inl (kn : Int)), (2, .inl (sn : Int)), (3, .inl (o : Int)), (4, .inl (i : Int))]) (st' := [.inl (H5.1 1826 59)]) rfl ?_
      have g8 : -2147483648 ≤ (H5.1 1826 59) ∧ (H5.1 1826 59) ≤ 2147483647 := hrg6.1 1826 13 59 _ .int rfl rfl
      refine h_reti (x := (H5.1 1826 59)) rfl rfl ?_
      exact ⟨hf7, hoH5, _, rfl⟩
    · refine h_run 9 (pc' := 80) (l' := [(0, .inr (.inr 1826)), (1, .inl (kn : Int)), (2, .inl (sn : Int)), (3, .inl (o : Int)), (4, .inl (i : Int))]) (st' := [.inl (sn : Int), .inl (kn : Int), .inl (o : Int), .inr (.inr 1826), .inr (.inr 1880), .inl (i : Int), .inr (.inr 1884)]) rfl ?_
      refine h_cv (i := 690) (j := 222) (b := 1826) (M' := mt_222) (xs := [.inl (sn : Int), .inl (kn : Int), .inl (o : Int)]) (rest := [.inr (.inr 1880), .inl (i : Int), .inr (.inr 1884)]) rfl rfl rfl rfl rfl rfl (Nat.le_of_ble_eq_true rfl) (Nat.le_of_ble_eq_true rfl) (by omega) (m_hypAt (by omega)) ?_
      rintro _ _ ⟨rfl, rfl⟩
      refine h_run 0 (pc' := 83) (l' := [(0, .inr (.inr 1826)), (1, .inl (kn : Int)), (2, .inl (sn : Int)), (3, .inl (o : Int)), (4, .inl (i : Int))]) (st' := [.inl (64 * ((2 * ((8 * (o : Int)) + (kn : Int))) + (sn : Int))), .inr (.inr 1880), .inl (i : Int), .inr (.inr 1884)]) rfl ?_
      refine h_run 2 (pc' := 86) (l' := [(0, .inr (.inr 1826)), (1, .inl (kn : Int)), (2, .inl (sn : Int)), (3, .inl (o : Int)), (4, .inl (i : Int))]) (st' := [.inl ((64 * ((2 * ((8 * (o : Int)) + (kn : Int))) + (sn : Int))) + (i : Int)), .inr (.inr 1880), .inl (i : Int), .inr (.inr 1884)]) rfl ?_
      refine h_ild (c := 1880) (j := ((64 * ((2 * ((8 * o) + kn)) + sn)) + i)) (i := ((64 * ((2 * ((8 * (o : Int)) + (kn : Int))) + (sn : Int))) + (i : Int))) rfl rfl (by decide) (by omega) (by omega) ?_
      have g9 : -2147483648 ≤ (H1.1 1880 ((64 * ((2 * ((8 * o) + kn)) + sn)) + i)) ∧ (H1.1 1880 ((64 * ((2 * ((8 * o) + kn)) + sn)) + i)) ≤ 2147483647 := hrg1.2 1880 ((64 * ((2 * ((8 * o) + kn)) + sn)) + i) 40960 .int rfl (by omega)
      have e10 : (H1.1 1880 ((64 * ((2 * ((8 * o) + kn)) + sn)) + i)) = (H.1 1880 ((64 * ((2 * ((8 * o) + kn)) + sn)) + i)) := congrFun (hf.2.1 1880 (by decide) (by decide)) ((64 * ((2 * ((8 * o) + kn)) + sn)) + i)
      refine h_run 0 (pc' := 87) (l' := [(0, .inr (.inr 1826)), (1, .inl (kn : Int)), (2, .inl (sn : Int)), (3, .inl (o : Int)), (4, .inl (i : Int))]) (st' := [.inl (H1.1 1880 ((64 * ((2 * ((8 * o) + kn)) + sn)) + i)), .inl (i : Int), .inr (.inr 1884)]) rfl ?_
      refine h_ist (c := 1884) (j := i) (i := (i : Int)) (x := (H1.1 1880 ((64 * ((2 * ((8 * o) + kn)) + sn)) + i))) rfl rfl (by decide) (by decide) rfl (by omega) (by omega) ?_
      refine h_run 2 (pc' := 46) (l' := [(0, .inr (.inr 1826)), (1, .inl (kn : Int)), (2, .inl (sn : Int)), (3, .inl (o : Int)), (4, .inl ((i : Int) + 1))]) (st' := []) rfl ?_
      rw [show ((i : Int) + 1) = (((i + 1) : Nat) : Int) by omega]
      exact ih _ kn sn o (i + 1) (kk) (fr_a hf (by decide)) (by omega) u1 u3 (by omega) (fun x hx => by show up (H1.1 1884) i ((H1.1 1880) (64 * ((2 * ((8 * o) + kn)) + sn) + i)) x = _; rw [up_if, show (H1.1 1880) = (H.1 1880) from hf.2.1 1880 (by decide) (by decide)]; by_cases e9 : x = i; { rw [if_pos e9, e9] }; { rw [if_neg e9]; exact hcp x (by omega) }) (by omega : 1000 - (i + 1) < w)
set_option maxRecDepth 100000 in
theorem m_showHypothesis {zC : Nat → Option zsh} {d : Nat} (hd : 4 ≤ d) {H : hp} {k s : Int} (hP : PWc H) (hG9 : GP H) (hou : 0 ≤ (H.1 1826 59) ∧ (H.1 1826 59) ≤ 8000) (hk : -2147483648 ≤ k ∧ k ≤ 2147483647) (hs : -2147483648 ≤ s ∧ s ≤ 2147483647) : hG (zs zC) d mt_271 0 (zargs 0 [.inr (.inr 1826), .inl k, .inl s]) [] H (fun r9 H2 => fr [59, 93] [1858, 1859, 1860, 1884] H H2 ∧ (0 ≤ (H2.1 1826 59) ∧ (H2.1 1826 59) ≤ 8000) ∧ ∃ r0 : Int, r9 = some (.inl r0)) := by
  refine h_rng (fun hrg0 => ?_)
  refine h_run 0 (pc' := 0) (l' := [(0, .inr (.inr 1826)), (1, .inl k), (2, .inl s)]) (st' := []) rfl ?_
  obtain ⟨⟨pb1, pb2, pb3, pb4, pb5⟩, pw1, pw2, pw3, pw4⟩ := (id hP : PW H (H.1 1826 1) (H.1 1826 3) (H.1 1826 8) (H.1 1826 13) (H.1 1826 19))
  refine h_run 1 (pc' := 1) (l' := [(0, .inr (.inr 1826)), (1, .inl k), (2, .inl s)]) (st' := [.inr (.inr 1826)]) rfl ?_
  have g11 : -2147483648 ≤ (H.1 1826 77) ∧ (H.1 1826 77) ≤ 2147483647 := hrg0.1 1826 13 77 _ .int rfl rfl
  refine h_cv (i := 563) (j := 235) (b := 1826) (M' := mt_235) (xs := []) (rest := []) rfl rfl rfl rfl rfl rfl (Nat.le_of_ble_eq_true rfl) (Nat.le_of_ble_eq_true rfl) (by omega) (m_idle (by omega)) ?_
  rintro _ _ ⟨⟨rfl, b12⟩ | ⟨rfl, b12⟩, rfl⟩
  · have b12x : (H.1 1826 77) = 0 := b12
    refine h_run 0 (pc' := 4) (l' := [(0, .inr (.inr 1826)), (1, .inl k), (2, .inl s)]) (st' := [.inl 1]) rfl ?_
    refine h_zeq (off := 6) (t := 10) rfl rfl (by decide) (fun c => absurd c (by decide)) (fun _ => ?_)
    refine h_run 1 (pc' := 9) (l' := [(0, .inr (.inr 1826)), (1, .inl k), (2, .inl s)]) (st' := [.inl (-103)]) rfl ?_
    refine h_reti (x := (-103)) rfl rfl ?_
    exact ⟨(fr_rf _ _ _), hou, _, rfl⟩
  · have b12x : (H.1 1826 77) ≠ 0 := b12
    refine h_run 0 (pc' := 4) (l' := [(0, .inr (.inr 1826)), (1, .inl k), (2, .inl s)]) (st' := [.inl 0]) rfl ?_
    refine h_zeq (off := 6) (t := 10) rfl rfl (by decide) (fun _ => ?_) (fun c => absurd c (by decide))
    obtain ⟨n, o, hS, hoo9, hol9, hog9⟩ := GP_SI hP hG9 (by omega)
    obtain ⟨hn, hn1, hn2, hn3⟩ := hog9.2
    refine h_run 3 (pc' := 15) (l' := [(0, .inr (.inr 1826)), (1, .inl k), (2, .inl s)]) (st' := [.inl 0, .inr (.inr 1871)]) rfl ?_
    refine h_ild (c := 1871) (j := 0) (i := 0) rfl rfl (by decide) rfl (by omega) ?_
    have g13 : -2147483648 ≤ (H.1 1871 0) ∧ (H.1 1871 0) ≤ 2147483647 := hrg0.2 1871 0 13 .int rfl (by omega)
    refine h_run 0 (pc' := 16) (l' := [(0, .inr (.inr 1826)), (1, .inl k), (2, .inl s)]) (st' := [.inl (H.1 1871 0)]) rfl ?_
    rw [show (H.1 1871 0) = (o : Int) by omega]
    refine h_run 2 (pc' := 18) (l' := [(0, .inr (.inr 1826)), (1, .inl k), (2, .inl s), (3, .inl (o : Int))]) (st' := [.inl k]) rfl ?_
    refine h_zlt (off := 22) (t := 40) rfl rfl (by omega) (fun c14 => ?_) (fun c14 => ?_)
    · refine h_run 1 (pc' := 42) (l' := [(0, .inr (.inr 1826)), (1, .inl k), (2, .inl s), (3, .inl (o : Int))]) (st' := [.inl (-102)]) rfl ?_
      refine h_reti (x := (-102)) rfl rfl ?_
      exact ⟨(fr_rf _ _ _), hou, _, rfl⟩
    · refine h_run 4 (pc' := 27) (l' := [(0, .inr (.inr 1826)), (1, .inl k), (2, .inl s), (3, .inl (o : Int))]) (st' := [.inl (o : Int), .inr (.inr 1879), .inl k]) rfl ?_
      refine h_ild (c := 1879) (j := o) (i := (o : Int)) rfl rfl (by decide) rfl (by omega) ?_
      have g15 : -2147483648 ≤ (H.1 1879 o) ∧ (H.1 1879 o) ≤ 2147483647 := hrg0.2 1879 o 40 .int rfl (by omega)
      refine h_run 0 (pc' := 28) (l' := [(0, .inr (.inr 1826)), (1, .inl k), (2, .inl s), (3, .inl (o : Int))]) (st' := [.inl (H.1 1879 o), .inl k]) rfl ?_
      refine h_ige (off := 12) (t := 40) rfl rfl (by omega) (by omega) (fun c16 => ?_) (fun c16 => ?_)
      · refine h_run 1 (pc' := 42) (l' := [(0, .inr (.inr 1826)), (1, .inl k), (2, .inl s), (3, .inl (o : Int))]) (st' := [.inl (-102)]) rfl ?_
        refine h_reti (x := (-102)) rfl rfl ?_
        exact ⟨(fr_rf _ _ _), hou, _, rfl⟩
      · refine h_run 1 (pc' := 32) (l' := [(0, .inr (.inr 1826)), (1, .inl k), (2, .inl s), (3, .inl (o : Int))]) (st' := [.inl s]) rfl ?_
        refine h_zlt (off := 8) (t := 40) rfl rfl (by omega) (fun c17 => ?_) (fun c17 => ?_)
        · refine h_run 1 (pc' := 42) (l' := [(0, .inr (.inr 1826)), (1, .inl k), (2, .inl s), (3, .inl (o : Int))]) (st' := [.inl (-102)]) rfl ?_
          refine h_reti (x := (-102)) rfl rfl ?_
          exact ⟨(fr_rf _ _ _), hou, _, rfl⟩
        · refine h_run 2 (pc' := 37) (l' := [(0, .inr (.inr 1826)), (1, .inl k), (2, .inl s), (3, .inl (o : Int))]) (st' := [.inl 1, .inl s]) rfl ?_
          refine h_ile (off := 6) (t := 43) rfl rfl (by omega) (by decide) (fun c18 => ?_) (fun c18 => ?_)
          · obtain ⟨kn, hkn⟩ : ∃ k9 : Nat, k = (k9 : Int) := ⟨(k).toNat, by omega⟩
            rw [show k = (kn : Int) from hkn]
            obtain ⟨sn, hsn⟩ : ∃ k9 : Nat, s = (k9 : Int) := ⟨(s).toNat, by omega⟩
            rw [show s = (sn : Int) from hsn]
            obtain ⟨kk, u1, u2, u3⟩ : hOK H H ((2 * ((8 * o) + kn)) + sn) := by have h9 := hn3 (2 * kn + sn) (by omega); rw [show 16 * o + (2 * kn + sn) = ((2 * ((8 * o) + kn)) + sn) by omega] at h9; exact h9
            refine h_run 2 (pc' := 46) (l' := [(0, .inr (.inr 1826)), (1, .inl (kn : Int)), (2, .inl (sn : Int)), (3, .inl (o : Int)), (4, .inl 0)]) (st' := []) rfl ?_
            exact (m_showHypothesis_cut hd hP hG9 hou hk hs _) _ kn sn o 0 (kk) (fr_rf _ _ _) (by omega) ⟨u1, u2⟩ u3 (by omega) (fun x hx => absurd hx (Nat.not_lt_zero _)) (Nat.lt_succ_self _)
          · refine h_run 1 (pc' := 42) (l' := [(0, .inr (.inr 1826)), (1, .inl k), (2, .inl s), (3, .inl (o : Int))]) (st' := [.inl (-102)]) rfl ?_
            refine h_reti (x := (-102)) rfl rfl ?_
            exact ⟨(fr_rf _ _ _), hou, _, rfl⟩

/-! showLaw -/
set_option maxRecDepth 100000 in
theorem m_showLaw_cut {zC : Nat → Option zsh} {d : Nat} (hd : 4 ≤ d) {H : hp} {l s : Int} (hP : PWc H) (hou : 0 ≤ (H.1 1826 59) ∧ (H.1 1826 59) ≤ 8000) (hl : -2147483648 ≤ l ∧ l ≤ 2147483647) (hs : -2147483648 ≤ s ∧ s ≤ 2147483647) : ∀ w : Nat, (∀ (H1 : hp) (ln : Nat) (sn : Nat) (i : Nat) (kk : Nat) (vn : Nat), (fr [59, 93] [1858, 1859, 1860, 1884] H H1) → ((ln : Int) < (H.1 1826 19) ∧ sn < 2 ∧ vn ≤ 6) → ((H.1 1843) ((2 * ln) + sn) = (kk : Int) ∧ kk ≤ 40) → (tm (ma (H.1 1833) (H.1 1830)) (m_sg (H.1 1826 3) (H.1 1826 8) (vn : Nat)) (H.1 1842) kk (48 * ((2 * ln) + sn)) 1) → (i ≤ kk) → (∀ x, x < i → (H1.1 1884) x = (H.1 1842) (48 * ((2 * ln) + sn) + x)) → 1000 - i < w → hG (zs zC) d mt_272 29 [(0, .inr (.inr 1826)), (1, .inl (ln : Int)), (2, .inl (sn : Int)), (3, .inl (i : Int))] [] H1 (fun r9 H2 => fr [59, 93] [1858, 1859, 1860, 1884] H H2 ∧ (0 ≤ (H2.1 1826 59) ∧ (H2.1 1826 59) ≤ 8000) ∧ ∃ r0 : Int, r9 = some (.inl r0))) := by
  intro w
  induction w with
  | zero => exact fun _ _ _ _ _ _ _ _ _ _ _ _ h => absurd h (Nat.not_lt_zero _)
  | succ w ih =>
    intro H1 ln sn i kk vn hf hb u1 u3 hi hcp hw
    refine h_rng (fun hrg1 => ?_)
    obtain ⟨⟨pb1, pb2, pb3, pb4, pb5⟩, pw1, pw2, pw3, pw4⟩ := (id hP : PW H (H.1 1826 1) (H.1 1826 3) (H.1 1826 8) (H.1 1826 13) (H.1 1826 19))
    have ehs : (H1.1 1843) ((2 * ln) + sn) = (H.1 1843) ((2 * ln) + sn) := congrFun (hf.2.1 1843 (by decide) (by decide)) _
    refine h_run 8 (pc' := 39) (l' := [(0, .inr (.inr 1826)), (1, .inl (ln : Int)), (2, .inl (sn : Int)), (3, .inl (i : Int))]) (st' := [.inl ((2 * (ln : Int)) + (sn : Int)), .inr (.inr 1843), .inl (i : Int)]) rfl ?_
    refine h_ild (c := 1843) (j := ((2 * ln) + sn)) (i := ((2 * (ln : Int)) + (sn : Int))) rfl rfl (by decide) (by omega) (by omega) ?_
    have g2 : -2147483648 ≤ (H1.1 1843 ((2 * ln) + sn)) ∧ (H1.1 1843 ((2 * ln) + sn)) ≤ 2147483647 := hrg1.2 1843 ((2 * ln) + sn) 32 .int rfl (by omega)
    have e3 : (H1.1 1843 ((2 * ln) + sn)) = (H.1 1843 ((2 * ln) + sn)) := congrFun (hf.2.1 1843 (by decide) (by decide)) ((2 * ln) + sn)
    refine h_run 0 (pc' := 40) (l' := [(0, .inr (.inr 1826)), (1, .inl (ln : Int)), (2, .inl (sn : Int)), (3, .inl (i : Int))]) (st' := [.inl (H1.1 1843 ((2 * ln) + sn)), .inl (i : Int)]) rfl ?_
    refine h_ige (off := 30) (t := 70) rfl rfl (by omega) (by omega) (fun c4 => ?_) (fun c4 => ?_)
    · refine h_run 4 (pc' := 76) (l' := [(0, .inr (.inr 1826)), (1, .inl (ln : Int)), (2, .inl (sn : Int)), (3, .inl (i : Int))]) (st' := [.inl 0, .inr (.inr 1884), .inr (.inr 1826)]) rfl ?_
      have hQp : sP H H1 := sP_fr2 hf (by decide) (by decide)
      have hPp : PWc H1 := PWc_fr hP hf (by decide) (by decide)
      refine h_cv (i := 466) (j := 206) (b := 1826) (M' := mt_206) (xs := [.inl 0, .inr (.inr 1884)]) (rest := []) rfl rfl rfl rfl rfl rfl (Nat.le_of_ble_eq_true rfl) (Nat.le_of_ble_eq_true rfl) (by omega) (m_print2 (c := 1884) (n := 128) (k := kk) (ok := (m_sg (H.1 1826 3) (H.1 1826 8) 60)) (by omega) rfl (by decide) (by decide) (fun s9 h9 => by unfold m_sg at h9; unfold sg0; omega) hPp (by rw [hQp.1, hQp.2.1]; exact (tm_mono (tm_at u3 (fun x hx => by rw [Nat.zero_add]; exact hcp x (by omega))) (fun _ _ _ q9 => ⟨rfl, by unfold m_sg at *; omega, rfl⟩))) (by omega)) ?_
      rintro _ H5 ⟨rfl, hfH5, hoH5⟩
      refine h_rng (fun hrg6 => ?_)
      have hf7 : fr [59, 93] [1858, 1859, 1860, 1884] H H5 := fr_t hf hfH5 (by decide) (by decide)
      refine h_run 0 (pc' := 79) (l' := [(0, .inr (.inr 1826)), (1, .inl (ln : Int)), (2, .inl (sn : Int)), (3, .inl (i : Int))]) (st' := []) rfl ?_
      refine h_run 2 (pc' := 83) (l' := [(0, .inr (.inr 1826)), (1, .inl (ln : Int)), (2, .inl (sn : Int)), (3, .inl (i : Int))]) (st' := [.inl (H5.1 1826 59)]) rfl ?_
      have g8 : -2147483648 ≤ (H5.1 1826 59) ∧ (H5.1 1826 59) ≤ 2147483647 := hrg6.1 1826 13 59 _ .int rfl rfl
      refine h_reti (x := (H5.1 1826 59)) rfl rfl ?_
      exact ⟨hf7, hoH5, _, rfl⟩
    · refine h_run 14 (pc' := 62) (l' := [(0, .inr (.inr 1826)), (1, .inl (ln : Int)), (2, .inl (sn : Int)), (3, .inl (i : Int))]) (st' := [.inl ((48 * ((2 * (ln : Int)) + (sn : Int))) + (i : Int)), .inr (.inr 1842), .inl (i : Int), .inr (.inr 1884)]) rfl ?_
      refine h_ild (c := 1842) (j := ((48 * ((2 * ln) + sn)) + i)) (i := ((48 * ((2 * (ln : Int)) + (sn : Int))) + (i : Int))) rfl rfl (by decide) (by omega) (by omega) ?_
      have g9 : -2147483648 ≤ (H1.1 1842 ((48 * ((2 * ln) + sn)) + i)) ∧ (H1.1 1842 ((48 * ((2 * ln) + sn)) + i)) ≤ 2147483647 := hrg1.2 1842 ((48 * ((2 * ln) + sn)) + i) 1536 .int rfl (by omega)
      have e10 : (H1.1 1842 ((48 * ((2 * ln) + sn)) + i)) = (H.1 1842 ((48 * ((2 * ln) + sn)) + i)) := congrFun (hf.2.1 1842 (by decide) (by decide)) ((48 * ((2 * ln) + sn)) + i)
      refine h_run 0 (pc' := 63) (l' := [(0, .inr (.inr 1826)), (1, .inl (ln : Int)), (2, .inl (sn : Int)), (3, .inl (i : Int))]) (st' := [.inl (H1.1 1842 ((48 * ((2 * ln) + sn)) + i)), .inl (i : Int), .inr (.inr 1884)]) rfl ?_
      refine h_ist (c := 1884) (j := i) (i := (i : Int)) (x := (H1.1 1842 ((48 * ((2 * ln) + sn)) + i))) rfl rfl (by decide) (by decide) rfl (by omega) (by omega) ?_
      refine h_run 2 (pc' := 29) (l' := [(0, .inr (.inr 1826)), (1, .inl (ln : Int)), (2, .inl (sn : Int)), (3, .inl ((i : Int) + 1))]) (st' := []) rfl ?_
      rw [show ((i : Int) + 1) = (((i + 1) : Nat) : Int) by omega]
      exact ih _ ln sn (i + 1) (kk) (vn) (fr_a hf (by decide)) (by omega) u1 u3 (by omega) (fun x hx => by show up (H1.1 1884) i ((H1.1 1842) (48 * ((2 * ln) + sn) + i)) x = _; rw [up_if, show (H1.1 1842) = (H.1 1842) from hf.2.1 1842 (by decide) (by decide)]; by_cases e9 : x = i; { rw [if_pos e9, e9] }; { rw [if_neg e9]; exact hcp x (by omega) }) (by omega : 1000 - (i + 1) < w)
set_option maxRecDepth 100000 in
theorem m_showLaw {zC : Nat → Option zsh} {d : Nat} (hd : 4 ≤ d) {H : hp} {l s : Int} (hP : PWc H) (hou : 0 ≤ (H.1 1826 59) ∧ (H.1 1826 59) ≤ 8000) (hl : -2147483648 ≤ l ∧ l ≤ 2147483647) (hs : -2147483648 ≤ s ∧ s ≤ 2147483647) : hG (zs zC) d mt_272 0 (zargs 0 [.inr (.inr 1826), .inl l, .inl s]) [] H (fun r9 H2 => fr [59, 93] [1858, 1859, 1860, 1884] H H2 ∧ (0 ≤ (H2.1 1826 59) ∧ (H2.1 1826 59) ≤ 8000) ∧ ∃ r0 : Int, r9 = some (.inl r0)) := by
  refine h_rng (fun hrg0 => ?_)
  refine h_run 0 (pc' := 0) (l' := [(0, .inr (.inr 1826)), (1, .inl l), (2, .inl s)]) (st' := []) rfl ?_
  obtain ⟨⟨pb1, pb2, pb3, pb4, pb5⟩, pw1, pw2, pw3, pw4⟩ := (id hP : PW H (H.1 1826 1) (H.1 1826 3) (H.1 1826 8) (H.1 1826 13) (H.1 1826 19))
  refine h_run 1 (pc' := 1) (l' := [(0, .inr (.inr 1826)), (1, .inl l), (2, .inl s)]) (st' := [.inl l]) rfl ?_
  refine h_zlt (off := 11) (t := 12) rfl rfl (by omega) (fun c11 => ?_) (fun c11 => ?_)
  · refine h_run 1 (pc' := 14) (l' := [(0, .inr (.inr 1826)), (1, .inl l), (2, .inl s)]) (st' := [.inl (-101)]) rfl ?_
    refine h_reti (x := (-101)) rfl rfl ?_
    exact ⟨(fr_rf _ _ _), hou, _, rfl⟩
  · refine h_run 3 (pc' := 9) (l' := [(0, .inr (.inr 1826)), (1, .inl l), (2, .inl s)]) (st' := [.inl (H.1 1826 19), .inl l]) rfl ?_
    have g12 : -2147483648 ≤ (H.1 1826 19) ∧ (H.1 1826 19) ≤ 2147483647 := hrg0.1 1826 13 19 _ .int rfl rfl
    refine h_ilt (off := 6) (t := 15) rfl rfl (by omega) (by omega) (fun c13 => ?_) (fun c13 => ?_)
    · refine h_run 1 (pc' := 16) (l' := [(0, .inr (.inr 1826)), (1, .inl l), (2, .inl s)]) (st' := [.inl s]) rfl ?_
      refine h_zlt (off := 8) (t := 24) rfl rfl (by omega) (fun c14 => ?_) (fun c14 => ?_)
      · refine h_run 1 (pc' := 26) (l' := [(0, .inr (.inr 1826)), (1, .inl l), (2, .inl s)]) (st' := [.inl (-102)]) rfl ?_
        refine h_reti (x := (-102)) rfl rfl ?_
        exact ⟨(fr_rf _ _ _), hou, _, rfl⟩
      · refine h_run 2 (pc' := 21) (l' := [(0, .inr (.inr 1826)), (1, .inl l), (2, .inl s)]) (st' := [.inl 1, .inl s]) rfl ?_
        refine h_ile (off := 6) (t := 27) rfl rfl (by omega) (by decide) (fun c15 => ?_) (fun c15 => ?_)
        · obtain ⟨ln, hln⟩ : ∃ k9 : Nat, l = (k9 : Int) := ⟨(l).toNat, by omega⟩
          rw [show l = (ln : Int) from hln]
          obtain ⟨sn, hsn⟩ : ∃ k9 : Nat, s = (k9 : Int) := ⟨(s).toNat, by omega⟩
          rw [show s = (sn : Int) from hsn]
          obtain ⟨vn, ⟨hv1, hv2⟩, hv3, hv4⟩ := pw4 ln (by omega)
          obtain ⟨kk, u1, u3⟩ := hv4 sn (by omega)
          refine h_run 2 (pc' := 29) (l' := [(0, .inr (.inr 1826)), (1, .inl (ln : Int)), (2, .inl (sn : Int)), (3, .inl 0)]) (st' := []) rfl ?_
          exact (m_showLaw_cut hd hP hou hl hs _) _ ln sn 0 (kk) (vn) (fr_rf _ _ _) (by omega) u1 u3 (by omega) (fun x hx => absurd hx (Nat.not_lt_zero _)) (Nat.lt_succ_self _)
        · refine h_run 1 (pc' := 26) (l' := [(0, .inr (.inr 1826)), (1, .inl l), (2, .inl s)]) (st' := [.inl (-102)]) rfl ?_
          refine h_reti (x := (-102)) rfl rfl ?_
          exact ⟨(fr_rf _ _ _), hou, _, rfl⟩
    · refine h_run 1 (pc' := 14) (l' := [(0, .inr (.inr 1826)), (1, .inl l), (2, .inl s)]) (st' := [.inl (-101)]) rfl ?_
      refine h_reti (x := (-101)) rfl rfl ?_
      exact ⟨(fr_rf _ _ _), hou, _, rfl⟩
