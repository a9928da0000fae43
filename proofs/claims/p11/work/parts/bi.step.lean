/-! the reference: a goal is split; a row of the search -/
/-! isSplit -/
set_option maxRecDepth 100000 in
theorem m_isSplit_cut {zC : Nat → Option zsh} {d : Nat} (hd : 6 ≤ d) {H : hp} {n : Nat} (hS : SI H n) : ∀ w : Nat, (∀ (H1 : hp) (s : Nat), (fr [50, 51, 53, 76, 77, 89, 93, 95, 97, 99, 101] [1847, 1852, 1853, 1855, 1856, 1871, 1872, 1873, 1874, 1875, 1876, 1877, 1878, 1879, 1880, 1881, 1882, 1883, 1884, 1885, 1886, 1887, 1888] H H1) → (SI H1 n) → (s ≤ 2) → 10000 - 1000 * s < w → hG (zs zC) d mt_269 2 [(0, .inr (.inr 1826)), (1, .inl (s : Int))] [] H1 (fun r9 H2 => fr [50, 51, 53, 76, 77, 89, 93, 95, 97, 99, 101] [1847, 1852, 1853, 1855, 1856, 1871, 1872, 1873, 1874, 1875, 1876, 1877, 1878, 1879, 1880, 1881, 1882, 1883, 1884, 1885, 1886, 1887, 1888] H H2 ∧ PF2 H2 ∧ (r9 = some (.inl 0) ∨ r9 = some (.inl 1)))) ∧ (∀ (H1 : hp) (s : Nat) (i : Nat) (N : Nat) (o : Nat), (fr [50, 51, 53, 76, 77, 89, 93, 95, 97, 99, 101] [1847, 1852, 1853, 1855, 1856, 1871, 1872, 1873, 1874, 1875, 1876, 1877, 1878, 1879, 1880, 1881, 1882, 1883, 1884, 1885, 1886, 1887, 1888] H H1) → (SI H1 n) → (s < 2) → ((H1.1 1871) 0 = (o : Int) ∧ o < 40) → ((H1.1 1826 93) = (N : Int) ∧ N ≤ 60) → (tm (ma (H.1 1833) (H.1 1830)) (m_sg (H.1 1826 3) (H.1 1826 8) 60) (H1.1 1884) N 0 1) → (i ≤ N) → 10000 - 1000 * s - 10 - i < w → hG (zs zC) d mt_269 20 [(0, .inr (.inr 1826)), (1, .inl (s : Int)), (2, .inl (i : Int))] [] H1 (fun r9 H2 => fr [50, 51, 53, 76, 77, 89, 93, 95, 97, 99, 101] [1847, 1852, 1853, 1855, 1856, 1871, 1872, 1873, 1874, 1875, 1876, 1877, 1878, 1879, 1880, 1881, 1882, 1883, 1884, 1885, 1886, 1887, 1888] H H2 ∧ PF2 H2 ∧ (r9 = some (.inl 0) ∨ r9 = some (.inl 1)))) := by
  intro w
  induction w with
  | zero => exact ⟨fun _ _ _ _ _ h => absurd h (Nat.not_lt_zero _), fun _ _ _ _ _ _ _ _ _ _ _ _ h => absurd h (Nat.not_lt_zero _)⟩
  | succ w ih =>
    refine ⟨?_, ?_⟩
    · intro H1 s hf hS1 hs hw
      refine h_rng (fun hrg1 => ?_)
      have hQb : sP H H1 := sP_fr2 hf (by decide) (by decide)
      have hPb : PWc H1 := PWc_fr hS.1 hf (by decide) (by decide)
      have hOSH1 : OS H H1 n := OS_P (sP_sy hQb) hS1.2.1
      obtain ⟨pb1, pb2, pb3, pb4, pb5⟩ := (id hS.1 : PW H (H.1 1826 1) (H.1 1826 3) (H.1 1826 8) (H.1 1826 13) (H.1 1826 19)).1
      have hP := hS.1
      refine h_run 2 (pc' := 4) (l' := [(0, .inr (.inr 1826)), (1, .inl (s : Int))]) (st' := [.inl 2, .inl (s : Int)]) rfl ?_
      refine h_ige (off := 144) (t := 148) rfl rfl (by omega) (by decide) (fun c2 => ?_) (fun c2 => ?_)
      · refine h_run 1 (pc' := 149) (l' := [(0, .inr (.inr 1826)), (1, .inl (s : Int))]) (st' := [.inl 0]) rfl ?_
        refine h_retz (x := 0) rfl rfl (by decide) ?_
        exact ⟨hf, SI_PF hS1, Or.inl rfl⟩
      · obtain ⟨o, oa, ol, ou, og⟩ := hS1.2.1.2.1 0 (by have := hS1.2.1.1; omega)
        obtain ⟨N, e1, e2, e3⟩ := og.1 s (by omega)
        refine h_run 4 (pc' := 13) (l' := [(0, .inr (.inr 1826)), (1, .inl (s : Int))]) (st' := [.inl 0, .inr (.inr 1871), .inr (.inr 1826)]) rfl ?_
        refine h_ild (c := 1871) (j := 0) (i := 0) rfl rfl (by decide) rfl (by omega) ?_
        have g3 : -2147483648 ≤ (H1.1 1871 0) ∧ (H1.1 1871 0) ≤ 2147483647 := hrg1.2 1871 0 13 .int rfl (by omega)
        refine h_run 0 (pc' := 14) (l' := [(0, .inr (.inr 1826)), (1, .inl (s : Int))]) (st' := [.inl (H1.1 1871 0), .inr (.inr 1826)]) rfl ?_
        rw [show (H1.1 1871 0) = (o : Int) by omega]
        refine h_run 1 (pc' := 15) (l' := [(0, .inr (.inr 1826)), (1, .inl (s : Int))]) (st' := [.inl (s : Int), .inl (o : Int), .inr (.inr 1826)]) rfl ?_
        refine h_cv (i := 569) (j := 228) (b := 1826) (M' := mt_228) (xs := [.inl (s : Int), .inl (o : Int)]) (rest := []) rfl rfl rfl rfl rfl rfl (Nat.le_of_ble_eq_true rfl) (Nat.le_of_ble_eq_true rfl) (by omega) (m_bring (k := N) (by omega) (by omega) ⟨e1, by omega⟩) ?_
        rintro _ H4 ⟨rfl, hfH4, hzH4, hcH4⟩
        refine h_rng (fun hrg5 => ?_)
        have hf6 : fr [50, 51, 53, 76, 77, 89, 93, 95, 97, 99, 101] [1847, 1852, 1853, 1855, 1856, 1871, 1872, 1873, 1874, 1875, 1876, 1877, 1878, 1879, 1880, 1881, 1882, 1883, 1884, 1885, 1886, 1887, 1888] H H4 := fr_t hf hfH4 (by decide) (by decide)
        have hTn : tm (ma (H.1 1833) (H.1 1830)) (m_sg (H.1 1826 3) (H.1 1826 8) 60) (H4.1 1884) N 0 1 := by have h9 := tm_at (b := (H4.1 1884)) (j := 0) e3 (fun x hx => by rw [Nat.zero_add]; exact hcH4 x hx); rw [hQb.1, hQb.2.1, hQb.2.2.1, hQb.2.2.2] at h9; exact h9
        have hSH4 : SI H4 n := SI_k hS1 hfH4 (by decide) (by decide) (by decide) (OS_fr hS1.2.1 hfH4 (by decide) (by decide) (by decide)) ((hfH4.2.2 97 (by decide)).trans hS1.2.2.2.2)
        have hooH4 : (H4.1 1871) 0 = (o : Int) := (congrFun (hfH4.2.1 1871 (by decide) (by decide)) 0).trans oa
        refine h_run 0 (pc' := 18) (l' := [(0, .inr (.inr 1826)), (1, .inl (s : Int))]) (st' := []) rfl ?_
        refine h_run 2 (pc' := 20) (l' := [(0, .inr (.inr 1826)), (1, .inl (s : Int)), (2, .inl 0)]) (st' := []) rfl ?_
        have g7 : -2147483648 ≤ (H4.1 1826 93) ∧ (H4.1 1826 93) ≤ 2147483647 := hrg5.1 1826 13 93 _ .int rfl rfl
        exact ih.2 _ s 0 (N) (o) hf6 hSH4 (by omega) ⟨hooH4, ol⟩ ⟨hzH4, e2⟩ hTn (by omega) (by omega : 10000 - 1000 * s - 10 - 0 < w)
    · intro H1 s i N o hf hS1 hs hooH1 hN hTn hi hw
      refine h_rng (fun hrg8 => ?_)
      have hQb : sP H H1 := sP_fr2 hf (by decide) (by decide)
      have hPb : PWc H1 := PWc_fr hS.1 hf (by decide) (by decide)
      have hOSH1 : OS H H1 n := OS_P (sP_sy hQb) hS1.2.1
      obtain ⟨pb1, pb2, pb3, pb4, pb5⟩ := (id hS.1 : PW H (H.1 1826 1) (H.1 1826 3) (H.1 1826 8) (H.1 1826 13) (H.1 1826 19)).1
      have hP := hS.1
      have hooH9 := hooH1
      have ol := hooH9.2
      replace hooH1 := hooH9.1
      refine h_run 3 (pc' := 25) (l' := [(0, .inr (.inr 1826)), (1, .inl (s : Int)), (2, .inl (i : Int))]) (st' := [.inl (H1.1 1826 93), .inl (i : Int)]) rfl ?_
      have g9 : -2147483648 ≤ (H1.1 1826 93) ∧ (H1.1 1826 93) ≤ 2147483647 := hrg8.1 1826 13 93 _ .int rfl rfl
      refine h_ige (off := 117) (t := 142) rfl rfl (by omega) (by omega) (fun c10 => ?_) (fun c10 => ?_)
      · refine h_run 2 (pc' := 2) (l' := [(0, .inr (.inr 1826)), (1, .inl ((s : Int) + 1)), (2, .inl (i : Int))]) (st' := []) rfl ?_
        refine h_loc [0, 1] rfl ?_
        rw [show ((s : Int) + 1) = (((s + 1) : Nat) : Int) by omega]
        exact ih.1 _ (s + 1) hf hS1 (by omega) (by omega : 10000 - 1000 * (s + 1) < w)
      · refine h_run 3 (pc' := 33) (l' := [(0, .inr (.inr 1826)), (1, .inl (s : Int)), (2, .inl (i : Int))]) (st' := [.inl (i : Int), .inr (.inr 1884)]) rfl ?_
        refine h_ild (c := 1884) (j := i) (i := (i : Int)) rfl rfl (by decide) rfl (by omega) ?_
        have g11 : -2147483648 ≤ (H1.1 1884 i) ∧ (H1.1 1884 i) ≤ 2147483647 := hrg8.2 1884 i 128 .int rfl (by omega)
        refine h_run 0 (pc' := 34) (l' := [(0, .inr (.inr 1826)), (1, .inl (s : Int)), (2, .inl (i : Int))]) (st' := [.inl (H1.1 1884 i)]) rfl ?_
        refine h_cs (i := 450) (j := 156) (M' := mt_156) (xs := [.inl (H1.1 1884 i)]) (rest := []) rfl rfl rfl rfl rfl (Nat.le_of_ble_eq_true rfl) (Nat.le_of_ble_eq_true rfl) (by omega) (m_isCall (by omega) (by omega)) ?_
        rintro _ _ ⟨⟨rfl, b12⟩ | ⟨rfl, b12⟩, rfl⟩
        · refine h_run 0 (pc' := 37) (l' := [(0, .inr (.inr 1826)), (1, .inl (s : Int)), (2, .inl (i : Int))]) (st' := [.inl 1]) rfl ?_
          refine h_zeq (off := 99) (t := 136) rfl rfl (by decide) (fun c => absurd c (by decide)) (fun _ => ?_)
          obtain ⟨ki, hki, hTi⟩ := tm_sub hTn (p := i) (by omega)
          have hki1 : 1 ≤ ki := tm_le hTi
          have hsi9 := tm_ok hTn i (by omega)
          rw [Nat.zero_add] at hsi9
          unfold m_sg at hsi9
          refine h_run 4 (pc' := 46) (l' := [(0, .inr (.inr 1826)), (1, .inl (s : Int)), (2, .inl (i : Int))]) (st' := [.inl (i : Int), .inr (.inr 1884), .inr (.inr 1826)]) rfl ?_
          refine h_cv (i := 453) (j := 196) (b := 1826) (M' := mt_196) (xs := [.inl (i : Int), .inr (.inr 1884)]) (rest := []) rfl rfl rfl rfl rfl rfl (Nat.le_of_ble_eq_true rfl) (Nat.le_of_ble_eq_true rfl) (by omega) (m_match (c := 1884) (n := 128) (p := i) (k := ki) (ok := (m_sg (H.1 1826 3) (H.1 1826 8) 60)) (by omega) rfl (by decide) (by decide) (fun s9 h9 => by unfold m_sg at h9; unfold sg0; omega) hPb (by rw [hQb.1, hQb.2.1]; exact hTi) (by omega) (by rw [hQb.2.2.2]; omega)) ?_
          rintro _ H13 ⟨hfH13, rH13, rfl, dH13⟩
          refine h_rng (fun hrg14 => ?_)
          have hf15 : fr [50, 51, 53, 76, 77, 89, 93, 95, 97, 99, 101] [1847, 1852, 1853, 1855, 1856, 1871, 1872, 1873, 1874, 1875, 1876, 1877, 1878, 1879, 1880, 1881, 1882, 1883, 1884, 1885, 1886, 1887, 1888] H H13 := fr_t hf hfH13 (by decide) (by decide)
          have hOSH13 : OS H H13 n := OS_fr hOSH1 hfH13 (by decide) (by decide) (by decide)
          have hooH13 : (H13.1 1871) 0 = (o : Int) := (congrFun (hfH13.2.1 1871 (by decide) (by decide)) 0).trans hooH1
          have bH13 : 0 ≤ rH13 ∧ rH13 ≤ 2 := by rcases dH13 with ⟨h9, -⟩ | h9 | ⟨h9, -⟩ <;> omega
          replace dH13 : hid _ := dH13
          have hSH13 : SI H13 n := SI_k hS1 hfH13 (by decide) (by decide) (by decide) (OS_fr hS1.2.1 hfH13 (by decide) (by decide) (by decide)) ((hfH13.2.2 97 (by decide)).trans hS1.2.2.2.2)
          have eNw : (H13.1 1884) = (H1.1 1884) := hfH13.2.1 1884 (by decide) (by decide)
          refine h_run 0 (pc' := 49) (l' := [(0, .inr (.inr 1826)), (1, .inl (s : Int)), (2, .inl (i : Int))]) (st' := [.inl rH13]) rfl ?_
          refine h_run 1 (pc' := 50) (l' := [(0, .inr (.inr 1826)), (1, .inl (s : Int)), (2, .inl (i : Int))]) (st' := [.inl 2, .inl rH13]) rfl ?_
          refine h_ine (off := 86) (t := 136) rfl rfl (by omega) (by decide) (fun c16 => ?_) (fun c16 => ?_)
          · refine h_run 2 (pc' := 20) (l' := [(0, .inr (.inr 1826)), (1, .inl (s : Int)), (2, .inl ((i : Int) + 1))]) (st' := []) rfl ?_
            have g17 : -2147483648 ≤ (H13.1 1826 93) ∧ (H13.1 1826 93) ≤ 2147483647 := hrg14.1 1826 13 93 _ .int rfl rfl
            have e18 : (H13.1 1826 93) = (H1.1 1826 93) := hfH13.2.2 93 (by decide)
            rw [show ((i : Int) + 1) = (((i + 1) : Nat) : Int) by omega]
            exact ih.2 _ s (i + 1) (N) (o) hf15 hSH13 (by omega) ⟨hooH13, ol⟩ (by omega : (H13.1 1826 93) = ((N) : Int) ∧ (N) ≤ 60) (by rw [show (H13.1 1884) = (H1.1 1884) from hfH13.2.1 1884 (by decide) (by decide)]; exact hTn) (by omega) (by omega : 10000 - 1000 * s - 10 - (i + 1) < w)
          · obtain ⟨wp, w1, w2⟩ : ∃ wp : Nat, (H13.1 1826 50) = (wp : Int) ∧ wp < N := by have h8 : hid _ := dH13; unfold hid at h8; rcases h8 with ⟨h9, -⟩ | h9 | ⟨-, wp, y1, y2, y3, -⟩; { omega }; { omega }; { exact ⟨wp, y1, by omega⟩ }
            have hsw := tm_ok hTn wp (by omega)
            rw [Nat.zero_add, ← eNw] at hsw
            unfold m_sg at hsw
            refine h_run 4 (pc' := 61) (l' := [(0, .inr (.inr 1826)), (1, .inl (s : Int)), (2, .inl (i : Int))]) (st' := [.inl (H13.1 1826 50), .inr (.inr 1884)]) rfl ?_
            have g19 : -2147483648 ≤ (H13.1 1826 50) ∧ (H13.1 1826 50) ≤ 2147483647 := hrg14.1 1826 13 50 _ .int rfl rfl
            rw [show (H13.1 1826 50) = (wp : Int) by omega]
            refine h_ild (c := 1884) (j := wp) (i := (wp : Int)) rfl rfl (by decide) rfl (by omega) ?_
            have g20 : -2147483648 ≤ (H13.1 1884 wp) ∧ (H13.1 1884 wp) ≤ 2147483647 := hrg14.2 1884 wp 128 .int rfl (by omega)
            have e21 : (H13.1 1884 wp) = (H1.1 1884 wp) := congrFun (hfH13.2.1 1884 (by decide) (by decide)) wp
            refine h_run 0 (pc' := 62) (l' := [(0, .inr (.inr 1826)), (1, .inl (s : Int)), (2, .inl (i : Int))]) (st' := [.inl (H13.1 1884 wp)]) rfl ?_
            refine h_run 1 (pc' := 65) (l' := [(0, .inr (.inr 1826)), (1, .inl (s : Int)), (2, .inl (i : Int))]) (st' := [.inl 1000, .inl (H13.1 1884 wp)]) rfl ?_
            refine h_ilt (off := 71) (t := 136) rfl rfl (by omega) (by decide) (fun c22 => ?_) (fun c22 => ?_)
            · refine h_run 2 (pc' := 20) (l' := [(0, .inr (.inr 1826)), (1, .inl (s : Int)), (2, .inl ((i : Int) + 1))]) (st' := []) rfl ?_
              have g23 : -2147483648 ≤ (H13.1 1826 93) ∧ (H13.1 1826 93) ≤ 2147483647 := hrg14.1 1826 13 93 _ .int rfl rfl
              have e24 : (H13.1 1826 93) = (H1.1 1826 93) := hfH13.2.2 93 (by decide)
              rw [show ((i : Int) + 1) = (((i + 1) : Nat) : Int) by omega]
              exact ih.2 _ s (i + 1) (N) (o) hf15 hSH13 (by omega) ⟨hooH13, ol⟩ (by omega : (H13.1 1826 93) = ((N) : Int) ∧ (N) ≤ 60) (by rw [show (H13.1 1884) = (H1.1 1884) from hfH13.2.1 1884 (by decide) (by decide)]; exact hTn) (by omega) (by omega : 10000 - 1000 * s - 10 - (i + 1) < w)
            · refine h_run 4 (pc' := 76) (l' := [(0, .inr (.inr 1826)), (1, .inl (s : Int)), (2, .inl (i : Int))]) (st' := [.inl (H13.1 1826 50), .inr (.inr 1884)]) rfl ?_
              rw [show (H13.1 1826 50) = (wp : Int) by omega]
              refine h_ild (c := 1884) (j := wp) (i := (wp : Int)) rfl rfl (by decide) rfl (by omega) ?_
              refine h_run 0 (pc' := 77) (l' := [(0, .inr (.inr 1826)), (1, .inl (s : Int)), (2, .inl (i : Int))]) (st' := [.inl (H13.1 1884 wp)]) rfl ?_
              refine h_run 2 (pc' := 81) (l' := [(0, .inr (.inr 1826)), (1, .inl (s : Int)), (2, .inl (i : Int))]) (st' := [.inl ((H13.1 1884 wp) - 1000)]) rfl ?_
              obtain ⟨vn, hvn⟩ : ∃ x9 : Nat, ((H13.1 1884 wp) - 1000) = (x9 : Int) := ⟨(((H13.1 1884 wp) - 1000)).toNat, by omega⟩
              rw [show ((H13.1 1884 wp) - 1000) = ((vn : Nat) : Int) from hvn]
              refine h_run 6 (pc' := 91) (l' := [(0, .inr (.inr 1826)), (1, .inl (s : Int)), (2, .inl (i : Int)), (3, .inl (vn : Int))]) (st' := [.inl 0, .inr (.inr 1871), .inr (.inr 1876)]) rfl ?_
              refine h_ild (c := 1871) (j := 0) (i := 0) rfl rfl (by decide) rfl (by omega) ?_
              have g25 : -2147483648 ≤ (H13.1 1871 0) ∧ (H13.1 1871 0) ≤ 2147483647 := hrg14.2 1871 0 13 .int rfl (by omega)
              have e26 : (H13.1 1871 0) = (H1.1 1871 0) := congrFun (hfH13.2.1 1871 (by decide) (by decide)) 0
              refine h_run 0 (pc' := 92) (l' := [(0, .inr (.inr 1826)), (1, .inl (s : Int)), (2, .inl (i : Int)), (3, .inl (vn : Int))]) (st' := [.inl (H13.1 1871 0), .inr (.inr 1876)]) rfl ?_
              have hor9 : (H13.1 1871) 0 = (o : Int) := hooH13
              refine h_lld (c := 1876) (j := ((H13.1 1871 0)).toNat) (i := (H13.1 1871 0)) rfl rfl (by decide) (by omega) (by omega) ?_
              have g27 : -9223372036854775808 ≤ (H13.1 1876 ((H13.1 1871 0)).toNat) ∧ (H13.1 1876 ((H13.1 1871 0)).toNat) ≤ 9223372036854775807 := hrg14.2 1876 ((H13.1 1871 0)).toNat 40 .long rfl (by omega)
              have e28 : (H13.1 1876 ((H13.1 1871 0)).toNat) = (H1.1 1876 ((H13.1 1871 0)).toNat) := congrFun (hfH13.2.1 1876 (by decide) (by decide)) ((H13.1 1871 0)).toNat
              refine h_run 0 (pc' := 93) (l' := [(0, .inr (.inr 1826)), (1, .inl (s : Int)), (2, .inl (i : Int)), (3, .inl (vn : Int))]) (st' := [.inr (.inl (H13.1 1876 ((H13.1 1871 0)).toNat))]) rfl ?_
              refine h_run 6 (pc' := 99) (l' := [(0, .inr (.inr 1826)), (1, .inl (s : Int)), (2, .inl (i : Int)), (3, .inl (vn : Int))]) (st' := [.inl (z_cmp (z_land (z_lshr (H13.1 1876 ((H13.1 1871 0)).toNat) (vn : Int)) 1) 1)]) rfl ?_
              refine h_zne (off := 7) (t := 106) rfl rfl (z_int _) (fun c29 => ?_) (fun c29 => ?_)
              · refine h_run 3 (pc' := 111) (l' := [(0, .inr (.inr 1826)), (1, .inl (s : Int)), (2, .inl (i : Int)), (3, .inl (vn : Int)), (4, .inl 0)]) (st' := [.inl 0]) rfl ?_
                refine h_zeq (off := 11) (t := 122) rfl rfl (by decide) (fun _ => ?_) (fun c => absurd c (by decide))
                refine h_run 2 (pc' := 124) (l' := [(0, .inr (.inr 1826)), (1, .inl (s : Int)), (2, .inl (i : Int)), (3, .inl (vn : Int)), (4, .inl 0)]) (st' := [.inl (vn : Int), .inr (.inr 1826)]) rfl ?_
                have g31 : -2147483648 ≤ (H13.1 1826 89) ∧ (H13.1 1826 89) ≤ 2147483647 := hrg14.1 1826 13 89 _ .int rfl rfl
                have e32 : (H13.1 1826 89) = (H1.1 1826 89) := hfH13.2.2 89 (by decide)
                have g33 : -2147483648 ≤ (H13.1 1826 74) ∧ (H13.1 1826 74) ≤ 2147483647 := hrg14.1 1826 13 74 _ .int rfl rfl
                have e34 : (H13.1 1826 74) = (H1.1 1826 74) := hfH13.2.2 74 (by decide)
                have e35 : (H1.1 1826 74) = (H.1 1826 74) := hf.2.2 74 (by decide)
                have hvx9 := hSH13.2.2.1
                have hpx9 := hSH13.2.2.2.1
                have hQc : sP H H13 := sP_fr2 hf15 (by decide) (by decide)
                have hPc9 : PWc H13 := PWc_fr hP hf15 (by decide) (by decide)
                refine h_cv (i := 613) (j := 253) (b := 1826) (M' := mt_253) (xs := [.inl (vn : Int)]) (rest := []) rfl rfl rfl rfl rfl rfl (Nat.le_of_ble_eq_true rfl) (Nat.le_of_ble_eq_true rfl) (by omega) (m_inducted (n := n) (o := o) (by omega) hPc9 hSH13.2.1 (show 0 ≤ (H13.1 1826 89) ∧ (H13.1 1826 89) ≤ 60 by omega) (show 0 ≤ (H13.1 1826 74) ∧ (H13.1 1826 74) < 16 by omega) hooH13 (by omega)) ?_
                rintro _ H30 ⟨hfH30, horH30, hvvH30, (⟨rfl, hOH30⟩ | ⟨n2H30, rfl, hnH30, hOH30⟩)⟩
                · refine h_rng (fun hrg36 => ?_)
                  have hf37 : fr [50, 51, 53, 76, 77, 89, 93, 95, 97, 99, 101] [1847, 1852, 1853, 1855, 1856, 1871, 1872, 1873, 1874, 1875, 1876, 1877, 1878, 1879, 1880, 1881, 1882, 1883, 1884, 1885, 1886, 1887, 1888] H H30 := fr_t hf15 hfH30 (by decide) (by decide)
                  refine h_run 0 (pc' := 127) (l' := [(0, .inr (.inr 1826)), (1, .inl (s : Int)), (2, .inl (i : Int)), (3, .inl (vn : Int)), (4, .inl 0)]) (st' := [.inl (-105)]) rfl ?_
                  refine h_zlt (off := 7) (t := 134) rfl rfl (by decide) (fun _ => ?_) (fun c => absurd c (by decide))
                  refine h_run 1 (pc' := 135) (l' := [(0, .inr (.inr 1826)), (1, .inl (s : Int)), (2, .inl (i : Int)), (3, .inl (vn : Int)), (4, .inl 0)]) (st' := [.inl 0]) rfl ?_
                  refine h_retz (x := 0) rfl rfl (by decide) ?_
                  exact ⟨hf37, PF_v hSH13 hfH30 (by decide) (by decide) (by decide) horH30 hvvH30 hOH30.1.1 (Or.inr hOH30), Or.inl rfl⟩
                · refine h_rng (fun hrg38 => ?_)
                  have hf39 : fr [50, 51, 53, 76, 77, 89, 93, 95, 97, 99, 101] [1847, 1852, 1853, 1855, 1856, 1871, 1872, 1873, 1874, 1875, 1876, 1877, 1878, 1879, 1880, 1881, 1882, 1883, 1884, 1885, 1886, 1887, 1888] H H30 := fr_t hf15 hfH30 (by decide) (by decide)
                  have hbH30 : n2H30 ≤ 12 := by rcases hOH30 with q9 | q9; { rw [q9]; decide }; { exact q9.1.2.2.1 }
                  refine h_run 0 (pc' := 127) (l' := [(0, .inr (.inr 1826)), (1, .inl (s : Int)), (2, .inl (i : Int)), (3, .inl (vn : Int)), (4, .inl 0)]) (st' := [.inl (n2H30 : Int)]) rfl ?_
                  refine h_zlt (off := 7) (t := 134) rfl rfl (by omega) (fun c40 => ?_) (fun c40 => ?_)
                  · refine h_run 1 (pc' := 135) (l' := [(0, .inr (.inr 1826)), (1, .inl (s : Int)), (2, .inl (i : Int)), (3, .inl (vn : Int)), (4, .inl 0)]) (st' := [.inl 0]) rfl ?_
                    refine h_retz (x := 0) rfl rfl (by decide) ?_
                    exact ⟨hf39, PF_v hSH13 hfH30 (by decide) (by decide) (by decide) horH30 hvvH30 hnH30 hOH30, Or.inl rfl⟩
                  · refine h_run 2 (pc' := 135) (l' := [(0, .inr (.inr 1826)), (1, .inl (s : Int)), (2, .inl (i : Int)), (3, .inl (vn : Int)), (4, .inl 0)]) (st' := [.inl 1]) rfl ?_
                    refine h_retz (x := 1) rfl rfl (by decide) ?_
                    exact ⟨hf39, PF_v hSH13 hfH30 (by decide) (by decide) (by decide) horH30 hvvH30 hnH30 hOH30, Or.inr rfl⟩
              · refine h_run 4 (pc' := 111) (l' := [(0, .inr (.inr 1826)), (1, .inl (s : Int)), (2, .inl (i : Int)), (3, .inl (vn : Int)), (4, .inl 1)]) (st' := [.inl 1]) rfl ?_
                refine h_zeq (off := 11) (t := 122) rfl rfl (by decide) (fun c => absurd c (by decide)) (fun _ => ?_)
                refine h_run 2 (pc' := 116) (l' := [(0, .inr (.inr 1826)), (1, .inl (s : Int)), (2, .inl (i : Int)), (3, .inl (vn : Int)), (4, .inl 1)]) (st' := [.inl (vn : Int), .inr (.inr 1826)]) rfl ?_
                have g42 : -2147483648 ≤ (H13.1 1826 89) ∧ (H13.1 1826 89) ≤ 2147483647 := hrg14.1 1826 13 89 _ .int rfl rfl
                have e43 : (H13.1 1826 89) = (H1.1 1826 89) := hfH13.2.2 89 (by decide)
                have g44 : -2147483648 ≤ (H13.1 1826 74) ∧ (H13.1 1826 74) ≤ 2147483647 := hrg14.1 1826 13 74 _ .int rfl rfl
                have e45 : (H13.1 1826 74) = (H1.1 1826 74) := hfH13.2.2 74 (by decide)
                have e46 : (H1.1 1826 74) = (H.1 1826 74) := hf.2.2 74 (by decide)
                have hvx9 := hSH13.2.2.1
                have hpx9 := hSH13.2.2.2.1
                have hQc : sP H H13 := sP_fr2 hf15 (by decide) (by decide)
                have hPc9 : PWc H13 := PWc_fr hP hf15 (by decide) (by decide)
                refine h_cv (i := 638) (j := 257) (b := 1826) (M' := mt_257) (xs := [.inl (vn : Int)]) (rest := []) rfl rfl rfl rfl rfl rfl (Nat.le_of_ble_eq_true rfl) (Nat.le_of_ble_eq_true rfl) (by omega) (m_casesOf (n := n) (o := o) (by omega) hPc9 hSH13.2.1 (show 0 ≤ (H13.1 1826 89) ∧ (H13.1 1826 89) ≤ 60 by omega) (show 0 ≤ (H13.1 1826 74) ∧ (H13.1 1826 74) < 16 by omega) hooH13 (by omega)) ?_
                rintro _ H41 ⟨hfH41, horH41, hvvH41, (⟨rfl, hOH41⟩ | ⟨n2H41, rfl, hnH41, hOH41⟩)⟩
                · refine h_rng (fun hrg47 => ?_)
                  have hf48 : fr [50, 51, 53, 76, 77, 89, 93, 95, 97, 99, 101] [1847, 1852, 1853, 1855, 1856, 1871, 1872, 1873, 1874, 1875, 1876, 1877, 1878, 1879, 1880, 1881, 1882, 1883, 1884, 1885, 1886, 1887, 1888] H H41 := fr_t hf15 hfH41 (by decide) (by decide)
                  refine h_run 0 (pc' := 119) (l' := [(0, .inr (.inr 1826)), (1, .inl (s : Int)), (2, .inl (i : Int)), (3, .inl (vn : Int)), (4, .inl 1)]) (st' := [.inl (-105)]) rfl ?_
                  refine h_run 1 (pc' := 127) (l' := [(0, .inr (.inr 1826)), (1, .inl (s : Int)), (2, .inl (i : Int)), (3, .inl (vn : Int)), (4, .inl 1)]) (st' := [.inl (-105)]) rfl ?_
                  refine h_zlt (off := 7) (t := 134) rfl rfl (by decide) (fun _ => ?_) (fun c => absurd c (by decide))
                  refine h_run 1 (pc' := 135) (l' := [(0, .inr (.inr 1826)), (1, .inl (s : Int)), (2, .inl (i : Int)), (3, .inl (vn : Int)), (4, .inl 1)]) (st' := [.inl 0]) rfl ?_
                  refine h_retz (x := 0) rfl rfl (by decide) ?_
                  exact ⟨hf48, PF_v hSH13 hfH41 (by decide) (by decide) (by decide) horH41 hvvH41 hOH41.1.1 (Or.inr hOH41), Or.inl rfl⟩
                · refine h_rng (fun hrg49 => ?_)
                  have hf50 : fr [50, 51, 53, 76, 77, 89, 93, 95, 97, 99, 101] [1847, 1852, 1853, 1855, 1856, 1871, 1872, 1873, 1874, 1875, 1876, 1877, 1878, 1879, 1880, 1881, 1882, 1883, 1884, 1885, 1886, 1887, 1888] H H41 := fr_t hf15 hfH41 (by decide) (by decide)
                  have hbH41 : n2H41 ≤ 12 := by rcases hOH41 with q9 | q9; { rw [q9]; decide }; { exact q9.1.2.2.1 }
                  refine h_run 0 (pc' := 119) (l' := [(0, .inr (.inr 1826)), (1, .inl (s : Int)), (2, .inl (i : Int)), (3, .inl (vn : Int)), (4, .inl 1)]) (st' := [.inl (n2H41 : Int)]) rfl ?_
                  refine h_run 1 (pc' := 127) (l' := [(0, .inr (.inr 1826)), (1, .inl (s : Int)), (2, .inl (i : Int)), (3, .inl (vn : Int)), (4, .inl 1)]) (st' := [.inl (n2H41 : Int)]) rfl ?_
                  refine h_zlt (off := 7) (t := 134) rfl rfl (by omega) (fun c51 => ?_) (fun c51 => ?_)
                  · refine h_run 1 (pc' := 135) (l' := [(0, .inr (.inr 1826)), (1, .inl (s : Int)), (2, .inl (i : Int)), (3, .inl (vn : Int)), (4, .inl 1)]) (st' := [.inl 0]) rfl ?_
                    refine h_retz (x := 0) rfl rfl (by decide) ?_
                    exact ⟨hf50, PF_v hSH13 hfH41 (by decide) (by decide) (by decide) horH41 hvvH41 hnH41 hOH41, Or.inl rfl⟩
                  · refine h_run 2 (pc' := 135) (l' := [(0, .inr (.inr 1826)), (1, .inl (s : Int)), (2, .inl (i : Int)), (3, .inl (vn : Int)), (4, .inl 1)]) (st' := [.inl 1]) rfl ?_
                    refine h_retz (x := 1) rfl rfl (by decide) ?_
                    exact ⟨hf50, PF_v hSH13 hfH41 (by decide) (by decide) (by decide) horH41 hvvH41 hnH41 hOH41, Or.inr rfl⟩
        · refine h_run 0 (pc' := 37) (l' := [(0, .inr (.inr 1826)), (1, .inl (s : Int)), (2, .inl (i : Int))]) (st' := [.inl 0]) rfl ?_
          refine h_zeq (off := 99) (t := 136) rfl rfl (by decide) (fun _ => ?_) (fun c => absurd c (by decide))
          refine h_run 2 (pc' := 20) (l' := [(0, .inr (.inr 1826)), (1, .inl (s : Int)), (2, .inl ((i : Int) + 1))]) (st' := []) rfl ?_
          rw [show ((i : Int) + 1) = (((i + 1) : Nat) : Int) by omega]
          exact ih.2 _ s (i + 1) (N) (o) hf hS1 (by omega) hooH9 (by omega : (H1.1 1826 93) = ((N) : Int) ∧ (N) ≤ 60) hTn (by omega) (by omega : 10000 - 1000 * s - 10 - (i + 1) < w)
set_option maxRecDepth 100000 in
theorem m_isSplit {zC : Nat → Option zsh} {d : Nat} (hd : 6 ≤ d) {H : hp} {n : Nat} (hS : SI H n) : hG (zs zC) d mt_269 0 (zargs 0 [.inr (.inr 1826)]) [] H (fun r9 H2 => fr [50, 51, 53, 76, 77, 89, 93, 95, 97, 99, 101] [1847, 1852, 1853, 1855, 1856, 1871, 1872, 1873, 1874, 1875, 1876, 1877, 1878, 1879, 1880, 1881, 1882, 1883, 1884, 1885, 1886, 1887, 1888] H H2 ∧ PF2 H2 ∧ (r9 = some (.inl 0) ∨ r9 = some (.inl 1))) := by
  refine h_rng (fun hrg0 => ?_)
  refine h_run 0 (pc' := 0) (l' := [(0, .inr (.inr 1826))]) (st' := []) rfl ?_
  refine h_run 2 (pc' := 2) (l' := [(0, .inr (.inr 1826)), (1, .inl 0)]) (st' := []) rfl ?_
  exact (m_isSplit_cut hd hS _).1 _ 0 (fr_rf _ _ _) hS (by omega) (Nat.lt_succ_self _)

/-! hasStep -/
set_option maxRecDepth 100000 in
theorem m_hasStep_cut {zC : Nat → Option zsh} {d : Nat} (hd : 8 ≤ d) {H : hp} {n : Nat} (hS : SI H n) : ∀ w : Nat, (∀ (H1 : hp) (nn : Int) (k : Nat), (fr [50, 51, 53, 76, 77, 89, 93, 95, 97, 99, 101] [1847, 1852, 1853, 1855, 1856, 1871, 1872, 1873, 1874, 1875, 1876, 1877, 1878, 1879, 1880, 1881, 1882, 1883, 1884, 1885, 1886, 1887, 1888] H H1) → (SI H1 n) → (0 ≤ nn ∧ nn ≤ 8) → (k ≤ 8) → 10000 - k < w → hG (zs zC) d mt_267 32 [(0, .inr (.inr 1826)), (1, .inl nn), (2, .inl (k : Int))] [] H1 (fun r9 H2 => fr [50, 51, 53, 76, 77, 89, 93, 95, 97, 99, 101] [1847, 1852, 1853, 1855, 1856, 1871, 1872, 1873, 1874, 1875, 1876, 1877, 1878, 1879, 1880, 1881, 1882, 1883, 1884, 1885, 1886, 1887, 1888] H H2 ∧ PF2 H2 ∧ (r9 = some (.inl 0) ∨ r9 = some (.inl 1)))) ∧ (∀ (H1 : hp) (nn : Int) (k : Nat), (fr [50, 51, 53, 76, 77, 89, 93, 95, 97, 99, 101] [1847, 1852, 1853, 1855, 1856, 1871, 1872, 1873, 1874, 1875, 1876, 1877, 1878, 1879, 1880, 1881, 1882, 1883, 1884, 1885, 1886, 1887, 1888] H H1) → (SI H1 n) → (k ≤ 16) → 1000 - k < w → hG (zs zC) d mt_267 56 [(0, .inr (.inr 1826)), (1, .inl nn), (2, .inl (k : Int))] [] H1 (fun r9 H2 => fr [50, 51, 53, 76, 77, 89, 93, 95, 97, 99, 101] [1847, 1852, 1853, 1855, 1856, 1871, 1872, 1873, 1874, 1875, 1876, 1877, 1878, 1879, 1880, 1881, 1882, 1883, 1884, 1885, 1886, 1887, 1888] H H2 ∧ PF2 H2 ∧ (r9 = some (.inl 0) ∨ r9 = some (.inl 1)))) := by
  intro w
  induction w with
  | zero => exact ⟨fun _ _ _ _ _ _ _ h => absurd h (Nat.not_lt_zero _), fun _ _ _ _ _ _ h => absurd h (Nat.not_lt_zero _)⟩
  | succ w ih =>
    refine ⟨?_, ?_⟩
    · intro H1 nn k hf hS1 hn hk hw
      refine h_rng (fun hrg1 => ?_)
      obtain ⟨pb1, pb2, pb3, pb4, pb5⟩ := (id hS.1 : PW H (H.1 1826 1) (H.1 1826 3) (H.1 1826 8) (H.1 1826 13) (H.1 1826 19)).1
      refine h_run 2 (pc' := 34) (l' := [(0, .inr (.inr 1826)), (1, .inl nn), (2, .inl (k : Int))]) (st' := [.inl nn, .inl (k : Int)]) rfl ?_
      refine h_ige (off := 20) (t := 54) rfl rfl (by omega) (by omega) (fun c2 => ?_) (fun c2 => ?_)
      · refine h_run 2 (pc' := 56) (l' := [(0, .inr (.inr 1826)), (1, .inl nn), (2, .inl 0)]) (st' := []) rfl ?_
        exact ih.2 _ nn 0 hf hS1 (by omega) (by omega : 1000 - 0 < w)
      · refine h_run 3 (pc' := 40) (l' := [(0, .inr (.inr 1826)), (1, .inl nn), (2, .inl (k : Int))]) (st' := [.inl (k : Int), .inl 1, .inr (.inr 1826)]) rfl ?_
        refine h_cv (i := 681) (j := 268) (b := 1826) (M' := mt_268) (xs := [.inl (k : Int), .inl 1]) (rest := []) rfl rfl rfl rfl rfl rfl (Nat.le_of_ble_eq_true rfl) (Nat.le_of_ble_eq_true rfl) (by omega) (m_sweep1 (n := n) (by omega) hS1 (by omega)) ?_
        rintro _ H3 ⟨hfH3, hSH3, (rfl | rfl)⟩
        · refine h_rng (fun hrg4 => ?_)
          have hf5 : fr [50, 51, 53, 76, 77, 89, 93, 95, 97, 99, 101] [1847, 1852, 1853, 1855, 1856, 1871, 1872, 1873, 1874, 1875, 1876, 1877, 1878, 1879, 1880, 1881, 1882, 1883, 1884, 1885, 1886, 1887, 1888] H H3 := fr_t hf hfH3 (by decide) (by decide)
          refine h_run 0 (pc' := 43) (l' := [(0, .inr (.inr 1826)), (1, .inl nn), (2, .inl (k : Int))]) (st' := [.inl 0]) rfl ?_
          refine h_zeq (off := 5) (t := 48) rfl rfl (by decide) (fun _ => ?_) (fun c => absurd c (by decide))
          refine h_run 2 (pc' := 32) (l' := [(0, .inr (.inr 1826)), (1, .inl nn), (2, .inl ((k : Int) + 1))]) (st' := []) rfl ?_
          rw [show ((k : Int) + 1) = (((k + 1) : Nat) : Int) by omega]
          exact ih.1 _ nn (k + 1) hf5 hSH3 (by omega) (by omega) (by omega : 10000 - (k + 1) < w)
        · refine h_rng (fun hrg6 => ?_)
          have hf7 : fr [50, 51, 53, 76, 77, 89, 93, 95, 97, 99, 101] [1847, 1852, 1853, 1855, 1856, 1871, 1872, 1873, 1874, 1875, 1876, 1877, 1878, 1879, 1880, 1881, 1882, 1883, 1884, 1885, 1886, 1887, 1888] H H3 := fr_t hf hfH3 (by decide) (by decide)
          refine h_run 0 (pc' := 43) (l' := [(0, .inr (.inr 1826)), (1, .inl nn), (2, .inl (k : Int))]) (st' := [.inl 1]) rfl ?_
          refine h_zeq (off := 5) (t := 48) rfl rfl (by decide) (fun c => absurd c (by decide)) (fun _ => ?_)
          refine h_run 1 (pc' := 47) (l' := [(0, .inr (.inr 1826)), (1, .inl nn), (2, .inl (k : Int))]) (st' := [.inl 1]) rfl ?_
          refine h_retz (x := 1) rfl rfl (by decide) ?_
          exact ⟨hf7, SI_PF hSH3, Or.inr rfl⟩
    · intro H1 nn k hf hS1 hk hw
      refine h_rng (fun hrg8 => ?_)
      obtain ⟨pb1, pb2, pb3, pb4, pb5⟩ := (id hS.1 : PW H (H.1 1826 1) (H.1 1826 3) (H.1 1826 8) (H.1 1826 13) (H.1 1826 19)).1
      refine h_run 3 (pc' := 61) (l' := [(0, .inr (.inr 1826)), (1, .inl nn), (2, .inl (k : Int))]) (st' := [.inl (H1.1 1826 19), .inl (k : Int)]) rfl ?_
      have g9 : -2147483648 ≤ (H1.1 1826 19) ∧ (H1.1 1826 19) ≤ 2147483647 := hrg8.1 1826 13 19 _ .int rfl rfl
      have e10 : (H1.1 1826 19) = (H.1 1826 19) := hf.2.2 19 (by decide)
      refine h_ige (off := 37) (t := 98) rfl rfl (by omega) (by omega) (fun c11 => ?_) (fun c11 => ?_)
      · refine h_run 1 (pc' := 99) (l' := [(0, .inr (.inr 1826)), (1, .inl nn), (2, .inl (k : Int))]) (st' := [.inr (.inr 1826)]) rfl ?_
        obtain ⟨oH12, oaH12, olH12, -⟩ := hS1.2.1.2.1 0 (by have := hS1.2.1.1; omega)
        refine h_cv (i := 684) (j := 262) (b := 1826) (M' := mt_262) (xs := []) (rest := []) rfl rfl rfl rfl rfl rfl (Nat.le_of_ble_eq_true rfl) (Nat.le_of_ble_eq_true rfl) (by omega) (m_parts (n := n) (o := oH12) (by omega) hS1.1 hS1.2.1 hS1.2.2.1 hS1.2.2.2.1 oaH12) ?_
        rintro _ H12 ⟨hfH12, horH12, hvvH12, ((⟨rfl, hOH12⟩ | ⟨rfl, hOH12⟩) | ⟨n2H12, rfl, hnH12, hOH12⟩)⟩
        · refine h_rng (fun hrg13 => ?_)
          have hf14 : fr [50, 51, 53, 76, 77, 89, 93, 95, 97, 99, 101] [1847, 1852, 1853, 1855, 1856, 1871, 1872, 1873, 1874, 1875, 1876, 1877, 1878, 1879, 1880, 1881, 1882, 1883, 1884, 1885, 1886, 1887, 1888] H H12 := fr_t hf hfH12 (by decide) (by decide)
          have hSH12 : SI H12 n := SI_v hS1 hfH12 (by decide) (by decide) (by decide) hOH12 hvvH12
          refine h_run 0 (pc' := 102) (l' := [(0, .inr (.inr 1826)), (1, .inl nn), (2, .inl (k : Int))]) (st' := [.inl (-104)]) rfl ?_
          refine h_zge (off := 25) (t := 127) rfl rfl (by decide) (fun c => absurd c (by decide)) (fun _ => ?_)
          refine h_run 5 (pc' := 114) (l' := [(0, .inr (.inr 1826)), (1, .inl nn), (2, .inl (k : Int))]) (st' := [.inl 0, .inr (.inr 1871), .inr (.inr 1877)]) rfl ?_
          refine h_ild (c := 1871) (j := 0) (i := 0) rfl rfl (by decide) rfl (by omega) ?_
          have g15 : -2147483648 ≤ (H12.1 1871 0) ∧ (H12.1 1871 0) ≤ 2147483647 := hrg13.2 1871 0 13 .int rfl (by omega)
          refine h_run 0 (pc' := 115) (l' := [(0, .inr (.inr 1826)), (1, .inl nn), (2, .inl (k : Int))]) (st' := [.inl (H12.1 1871 0), .inr (.inr 1877)]) rfl ?_
          obtain ⟨oo16, oo16a, oo16l, oo16u, oo16g⟩ := hSH12.2.1.2.1 0 (by have := hSH12.2.1.1; omega)
          obtain ⟨hoo16, hoo161, hoo162, -⟩ := oo16g.2
          rw [show (H12.1 1871 0) = (oo16 : Int) by omega]
          refine h_ild (c := 1877) (j := oo16) (i := (oo16 : Int)) rfl rfl (by decide) rfl (by omega) ?_
          have g17 : -2147483648 ≤ (H12.1 1877 oo16) ∧ (H12.1 1877 oo16) ≤ 2147483647 := hrg13.2 1877 oo16 40 .int rfl (by omega)
          refine h_run 0 (pc' := 116) (l' := [(0, .inr (.inr 1826)), (1, .inl nn), (2, .inl (k : Int))]) (st' := [.inl (H12.1 1877 oo16)]) rfl ?_
          refine h_run 1 (pc' := 117) (l' := [(0, .inr (.inr 1826)), (1, .inl nn), (2, .inl (k : Int))]) (st' := [.inl 4, .inl (H12.1 1877 oo16)]) rfl ?_
          refine h_ige (off := 14) (t := 131) rfl rfl (by omega) (by decide) (fun c18 => ?_) (fun c18 => ?_)
          · refine h_run 1 (pc' := 132) (l' := [(0, .inr (.inr 1826)), (1, .inl nn), (2, .inl (k : Int))]) (st' := [.inl 0]) rfl ?_
            refine h_retz (x := 0) rfl rfl (by decide) ?_
            exact ⟨hf14, SI_PF hSH12, Or.inl rfl⟩
          · refine h_run 1 (pc' := 121) (l' := [(0, .inr (.inr 1826)), (1, .inl nn), (2, .inl (k : Int))]) (st' := [.inr (.inr 1826)]) rfl ?_
            refine h_cv (i := 687) (j := 269) (b := 1826) (M' := mt_269) (xs := []) (rest := []) rfl rfl rfl rfl rfl rfl (Nat.le_of_ble_eq_true rfl) (Nat.le_of_ble_eq_true rfl) (by omega) (m_isSplit (n := n) (by omega) hSH12) ?_
            rintro _ H19 ⟨hfH19, hPFH19, (rfl | rfl)⟩
            · refine h_rng (fun hrg20 => ?_)
              have hf21 : fr [50, 51, 53, 76, 77, 89, 93, 95, 97, 99, 101] [1847, 1852, 1853, 1855, 1856, 1871, 1872, 1873, 1874, 1875, 1876, 1877, 1878, 1879, 1880, 1881, 1882, 1883, 1884, 1885, 1886, 1887, 1888] H H19 := fr_t hf14 hfH19 (by decide) (by decide)
              refine h_run 0 (pc' := 124) (l' := [(0, .inr (.inr 1826)), (1, .inl nn), (2, .inl (k : Int))]) (st' := [.inl 0]) rfl ?_
              refine h_zeq (off := 7) (t := 131) rfl rfl (by decide) (fun _ => ?_) (fun c => absurd c (by decide))
              refine h_run 1 (pc' := 132) (l' := [(0, .inr (.inr 1826)), (1, .inl nn), (2, .inl (k : Int))]) (st' := [.inl 0]) rfl ?_
              refine h_retz (x := 0) rfl rfl (by decide) ?_
              exact ⟨hf21, hPFH19, Or.inl rfl⟩
            · refine h_rng (fun hrg22 => ?_)
              have hf23 : fr [50, 51, 53, 76, 77, 89, 93, 95, 97, 99, 101] [1847, 1852, 1853, 1855, 1856, 1871, 1872, 1873, 1874, 1875, 1876, 1877, 1878, 1879, 1880, 1881, 1882, 1883, 1884, 1885, 1886, 1887, 1888] H H19 := fr_t hf14 hfH19 (by decide) (by decide)
              refine h_run 0 (pc' := 124) (l' := [(0, .inr (.inr 1826)), (1, .inl nn), (2, .inl (k : Int))]) (st' := [.inl 1]) rfl ?_
              refine h_zeq (off := 7) (t := 131) rfl rfl (by decide) (fun c => absurd c (by decide)) (fun _ => ?_)
              refine h_run 2 (pc' := 132) (l' := [(0, .inr (.inr 1826)), (1, .inl nn), (2, .inl (k : Int))]) (st' := [.inl 1]) rfl ?_
              refine h_retz (x := 1) rfl rfl (by decide) ?_
              exact ⟨hf23, hPFH19, Or.inr rfl⟩
        · refine h_rng (fun hrg24 => ?_)
          have hf25 : fr [50, 51, 53, 76, 77, 89, 93, 95, 97, 99, 101] [1847, 1852, 1853, 1855, 1856, 1871, 1872, 1873, 1874, 1875, 1876, 1877, 1878, 1879, 1880, 1881, 1882, 1883, 1884, 1885, 1886, 1887, 1888] H H12 := fr_t hf hfH12 (by decide) (by decide)
          have hSH12 : SI H12 n := SI_v hS1 hfH12 (by decide) (by decide) (by decide) hOH12 hvvH12
          refine h_run 0 (pc' := 102) (l' := [(0, .inr (.inr 1826)), (1, .inl nn), (2, .inl (k : Int))]) (st' := [.inl (-105)]) rfl ?_
          refine h_zge (off := 25) (t := 127) rfl rfl (by decide) (fun c => absurd c (by decide)) (fun _ => ?_)
          refine h_run 5 (pc' := 114) (l' := [(0, .inr (.inr 1826)), (1, .inl nn), (2, .inl (k : Int))]) (st' := [.inl 0, .inr (.inr 1871), .inr (.inr 1877)]) rfl ?_
          refine h_ild (c := 1871) (j := 0) (i := 0) rfl rfl (by decide) rfl (by omega) ?_
          have g26 : -2147483648 ≤ (H12.1 1871 0) ∧ (H12.1 1871 0) ≤ 2147483647 := hrg24.2 1871 0 13 .int rfl (by omega)
          refine h_run 0 (pc' := 115) (l' := [(0, .inr (.inr 1826)), (1, .inl nn), (2, .inl (k : Int))]) (st' := [.inl (H12.1 1871 0), .inr (.inr 1877)]) rfl ?_
          obtain ⟨oo27, oo27a, oo27l, oo27u, oo27g⟩ := hSH12.2.1.2.1 0 (by have := hSH12.2.1.1; omega)
          obtain ⟨hoo27, hoo271, hoo272, -⟩ := oo27g.2
          rw [show (H12.1 1871 0) = (oo27 : Int) by omega]
          refine h_ild (c := 1877) (j := oo27) (i := (oo27 : Int)) rfl rfl (by decide) rfl (by omega) ?_
          have g28 : -2147483648 ≤ (H12.1 1877 oo27) ∧ (H12.1 1877 oo27) ≤ 2147483647 := hrg24.2 1877 oo27 40 .int rfl (by omega)
          refine h_run 0 (pc' := 116) (l' := [(0, .inr (.inr 1826)), (1, .inl nn), (2, .inl (k : Int))]) (st' := [.inl (H12.1 1877 oo27)]) rfl ?_
          refine h_run 1 (pc' := 117) (l' := [(0, .inr (.inr 1826)), (1, .inl nn), (2, .inl (k : Int))]) (st' := [.inl 4, .inl (H12.1 1877 oo27)]) rfl ?_
          refine h_ige (off := 14) (t := 131) rfl rfl (by omega) (by decide) (fun c29 => ?_) (fun c29 => ?_)
          · refine h_run 1 (pc' := 132) (l' := [(0, .inr (.inr 1826)), (1, .inl nn), (2, .inl (k : Int))]) (st' := [.inl 0]) rfl ?_
            refine h_retz (x := 0) rfl rfl (by decide) ?_
            exact ⟨hf25, SI_PF hSH12, Or.inl rfl⟩
          · refine h_run 1 (pc' := 121) (l' := [(0, .inr (.inr 1826)), (1, .inl nn), (2, .inl (k : Int))]) (st' := [.inr (.inr 1826)]) rfl ?_
            refine h_cv (i := 687) (j := 269) (b := 1826) (M' := mt_269) (xs := []) (rest := []) rfl rfl rfl rfl rfl rfl (Nat.le_of_ble_eq_true rfl) (Nat.le_of_ble_eq_true rfl) (by omega) (m_isSplit (n := n) (by omega) hSH12) ?_
            rintro _ H30 ⟨hfH30, hPFH30, (rfl | rfl)⟩
            · refine h_rng (fun hrg31 => ?_)
              have hf32 : fr [50, 51, 53, 76, 77, 89, 93, 95, 97, 99, 101] [1847, 1852, 1853, 1855, 1856, 1871, 1872, 1873, 1874, 1875, 1876, 1877, 1878, 1879, 1880, 1881, 1882, 1883, 1884, 1885, 1886, 1887, 1888] H H30 := fr_t hf25 hfH30 (by decide) (by decide)
              refine h_run 0 (pc' := 124) (l' := [(0, .inr (.inr 1826)), (1, .inl nn), (2, .inl (k : Int))]) (st' := [.inl 0]) rfl ?_
              refine h_zeq (off := 7) (t := 131) rfl rfl (by decide) (fun _ => ?_) (fun c => absurd c (by decide))
              refine h_run 1 (pc' := 132) (l' := [(0, .inr (.inr 1826)), (1, .inl nn), (2, .inl (k : Int))]) (st' := [.inl 0]) rfl ?_
              refine h_retz (x := 0) rfl rfl (by decide) ?_
              exact ⟨hf32, hPFH30, Or.inl rfl⟩
            · refine h_rng (fun hrg33 => ?_)
              have hf34 : fr [50, 51, 53, 76, 77, 89, 93, 95, 97, 99, 101] [1847, 1852, 1853, 1855, 1856, 1871, 1872, 1873, 1874, 1875, 1876, 1877, 1878, 1879, 1880, 1881, 1882, 1883, 1884, 1885, 1886, 1887, 1888] H H30 := fr_t hf25 hfH30 (by decide) (by decide)
              refine h_run 0 (pc' := 124) (l' := [(0, .inr (.inr 1826)), (1, .inl nn), (2, .inl (k : Int))]) (st' := [.inl 1]) rfl ?_
              refine h_zeq (off := 7) (t := 131) rfl rfl (by decide) (fun c => absurd c (by decide)) (fun _ => ?_)
              refine h_run 2 (pc' := 132) (l' := [(0, .inr (.inr 1826)), (1, .inl nn), (2, .inl (k : Int))]) (st' := [.inl 1]) rfl ?_
              refine h_retz (x := 1) rfl rfl (by decide) ?_
              exact ⟨hf34, hPFH30, Or.inr rfl⟩
        · refine h_rng (fun hrg35 => ?_)
          have hf36 : fr [50, 51, 53, 76, 77, 89, 93, 95, 97, 99, 101] [1847, 1852, 1853, 1855, 1856, 1871, 1872, 1873, 1874, 1875, 1876, 1877, 1878, 1879, 1880, 1881, 1882, 1883, 1884, 1885, 1886, 1887, 1888] H H12 := fr_t hf hfH12 (by decide) (by decide)
          have hbH12 : n2H12 ≤ 12 := by rcases hOH12 with q9 | q9; { rw [q9]; decide }; { exact q9.1.2.2.1 }
          have hPFH12 : PF2 H12 := PF_v hS1 hfH12 (by decide) (by decide) (by decide) horH12 hvvH12 hnH12 hOH12
          refine h_run 0 (pc' := 102) (l' := [(0, .inr (.inr 1826)), (1, .inl nn), (2, .inl (k : Int))]) (st' := [.inl (n2H12 : Int)]) rfl ?_
          refine h_zge (off := 25) (t := 127) rfl rfl (by omega) (fun c37 => ?_) (fun c37 => ?_)
          · refine h_run 2 (pc' := 132) (l' := [(0, .inr (.inr 1826)), (1, .inl nn), (2, .inl (k : Int))]) (st' := [.inl 1]) rfl ?_
            refine h_retz (x := 1) rfl rfl (by decide) ?_
            exact ⟨hf36, hPFH12, Or.inr rfl⟩
          · exfalso
            omega
      · refine h_run 3 (pc' := 69) (l' := [(0, .inr (.inr 1826)), (1, .inl nn), (2, .inl (k : Int))]) (st' := [.inl (H1.1 1826 74), .inl (k : Int)]) rfl ?_
        have g38 : -2147483648 ≤ (H1.1 1826 74) ∧ (H1.1 1826 74) ≤ 2147483647 := hrg8.1 1826 13 74 _ .int rfl rfl
        have e39 : (H1.1 1826 74) = (H.1 1826 74) := hf.2.2 74 (by decide)
        refine h_ieq (off := 23) (t := 92) rfl rfl (by omega) (by omega) (fun c40 => ?_) (fun c40 => ?_)
        · refine h_run 2 (pc' := 56) (l' := [(0, .inr (.inr 1826)), (1, .inl nn), (2, .inl ((k : Int) + 1))]) (st' := []) rfl ?_
          rw [show ((k : Int) + 1) = (((k + 1) : Nat) : Int) by omega]
          exact ih.2 _ nn (k + 1) hf hS1 (by omega) (by omega : 1000 - (k + 1) < w)
        · refine h_run 3 (pc' := 77) (l' := [(0, .inr (.inr 1826)), (1, .inl nn), (2, .inl (k : Int))]) (st' := [.inl (k : Int), .inr (.inr 1847)]) rfl ?_
          refine h_ild (c := 1847) (j := k) (i := (k : Int)) rfl rfl (by decide) rfl (by omega) ?_
          have g41 : -2147483648 ≤ (H1.1 1847 k) ∧ (H1.1 1847 k) ≤ 2147483647 := hrg8.2 1847 k 16 .int rfl (by omega)
          refine h_run 0 (pc' := 78) (l' := [(0, .inr (.inr 1826)), (1, .inl nn), (2, .inl (k : Int))]) (st' := [.inl (H1.1 1847 k)]) rfl ?_
          refine h_zle (off := 14) (t := 92) rfl rfl (by omega) (fun c42 => ?_) (fun c42 => ?_)
          · refine h_run 2 (pc' := 56) (l' := [(0, .inr (.inr 1826)), (1, .inl nn), (2, .inl ((k : Int) + 1))]) (st' := []) rfl ?_
            rw [show ((k : Int) + 1) = (((k + 1) : Nat) : Int) by omega]
            exact ih.2 _ nn (k + 1) hf hS1 (by omega) (by omega : 1000 - (k + 1) < w)
          · refine h_run 3 (pc' := 84) (l' := [(0, .inr (.inr 1826)), (1, .inl nn), (2, .inl (k : Int))]) (st' := [.inl (k : Int), .inl 2, .inr (.inr 1826)]) rfl ?_
            refine h_cv (i := 681) (j := 268) (b := 1826) (M' := mt_268) (xs := [.inl (k : Int), .inl 2]) (rest := []) rfl rfl rfl rfl rfl rfl (Nat.le_of_ble_eq_true rfl) (Nat.le_of_ble_eq_true rfl) (by omega) (m_sweep2 (n := n) (by omega) hS1 (by omega)) ?_
            rintro _ H43 ⟨hfH43, hSH43, (rfl | rfl)⟩
            · refine h_rng (fun hrg44 => ?_)
              have hf45 : fr [50, 51, 53, 76, 77, 89, 93, 95, 97, 99, 101] [1847, 1852, 1853, 1855, 1856, 1871, 1872, 1873, 1874, 1875, 1876, 1877, 1878, 1879, 1880, 1881, 1882, 1883, 1884, 1885, 1886, 1887, 1888] H H43 := fr_t hf hfH43 (by decide) (by decide)
              refine h_run 0 (pc' := 87) (l' := [(0, .inr (.inr 1826)), (1, .inl nn), (2, .inl (k : Int))]) (st' := [.inl 0]) rfl ?_
              refine h_zeq (off := 5) (t := 92) rfl rfl (by decide) (fun _ => ?_) (fun c => absurd c (by decide))
              refine h_run 2 (pc' := 56) (l' := [(0, .inr (.inr 1826)), (1, .inl nn), (2, .inl ((k : Int) + 1))]) (st' := []) rfl ?_
              rw [show ((k : Int) + 1) = (((k + 1) : Nat) : Int) by omega]
              exact ih.2 _ nn (k + 1) hf45 hSH43 (by omega) (by omega : 1000 - (k + 1) < w)
            · refine h_rng (fun hrg46 => ?_)
              have hf47 : fr [50, 51, 53, 76, 77, 89, 93, 95, 97, 99, 101] [1847, 1852, 1853, 1855, 1856, 1871, 1872, 1873, 1874, 1875, 1876, 1877, 1878, 1879, 1880, 1881, 1882, 1883, 1884, 1885, 1886, 1887, 1888] H H43 := fr_t hf hfH43 (by decide) (by decide)
              refine h_run 0 (pc' := 87) (l' := [(0, .inr (.inr 1826)), (1, .inl nn), (2, .inl (k : Int))]) (st' := [.inl 1]) rfl ?_
              refine h_zeq (off := 5) (t := 92) rfl rfl (by decide) (fun c => absurd c (by decide)) (fun _ => ?_)
              refine h_run 1 (pc' := 91) (l' := [(0, .inr (.inr 1826)), (1, .inl nn), (2, .inl (k : Int))]) (st' := [.inl 1]) rfl ?_
              refine h_retz (x := 1) rfl rfl (by decide) ?_
              exact ⟨hf47, SI_PF hSH43, Or.inr rfl⟩
set_option maxRecDepth 100000 in
theorem m_hasStep {zC : Nat → Option zsh} {d : Nat} (hd : 8 ≤ d) {H : hp} {n : Nat} (hS : SI H n) : hG (zs zC) d mt_267 0 (zargs 0 [.inr (.inr 1826)]) [] H (fun r9 H2 => fr [50, 51, 53, 76, 77, 89, 93, 95, 97, 99, 101] [1847, 1852, 1853, 1855, 1856, 1871, 1872, 1873, 1874, 1875, 1876, 1877, 1878, 1879, 1880, 1881, 1882, 1883, 1884, 1885, 1886, 1887, 1888] H H2 ∧ PF2 H2 ∧ (r9 = some (.inl 0) ∨ r9 = some (.inl 1))) := by
  refine h_rng (fun hrg0 => ?_)
  refine h_run 0 (pc' := 0) (l' := [(0, .inr (.inr 1826))]) (st' := []) rfl ?_
  obtain ⟨pb1, pb2, pb3, pb4, pb5⟩ := (id hS.1 : PW H (H.1 1826 1) (H.1 1826 3) (H.1 1826 8) (H.1 1826 13) (H.1 1826 19)).1
  refine h_run 1 (pc' := 1) (l' := [(0, .inr (.inr 1826))]) (st' := [.inr (.inr 1826)]) rfl ?_
  obtain ⟨oH48, oaH48, olH48, -⟩ := hS.2.1.2.1 0 (by have := hS.2.1.1; omega)
  refine h_cv (i := 678) (j := 261) (b := 1826) (M' := mt_261) (xs := []) (rest := []) rfl rfl rfl rfl rfl rfl (Nat.le_of_ble_eq_true rfl) (Nat.le_of_ble_eq_true rfl) (by omega) (m_same (n := n) (o := oH48) (by omega) hS.1 hS.2.1 hS.2.2.1 hS.2.2.2.1 oaH48) ?_
  rintro _ H48 ⟨hfH48, horH48, hvvH48, ((⟨rfl, hOH48⟩ | ⟨rfl, hOH48⟩) | ⟨n2H48, rfl, hnH48, hOH48⟩)⟩
  · refine h_rng (fun hrg49 => ?_)
    have hf50 : fr [50, 51, 53, 76, 77, 89, 93, 95, 97, 99, 101] [1847, 1852, 1853, 1855, 1856, 1871, 1872, 1873, 1874, 1875, 1876, 1877, 1878, 1879, 1880, 1881, 1882, 1883, 1884, 1885, 1886, 1887, 1888] H H48 := fr_t (fr_rf _ _ _) hfH48 (by decide) (by decide)
    have hSH48 : SI H48 n := SI_v hS hfH48 (by decide) (by decide) (by decide) hOH48 hvvH48
    refine h_run 0 (pc' := 4) (l' := [(0, .inr (.inr 1826))]) (st' := [.inl (-104)]) rfl ?_
    refine h_zge (off := 12) (t := 16) rfl rfl (by decide) (fun c => absurd c (by decide)) (fun _ => ?_)
    refine h_run 3 (pc' := 10) (l' := [(0, .inr (.inr 1826))]) (st' := [.inl 0, .inl 0, .inr (.inr 1826)]) rfl ?_
    refine h_cv (i := 681) (j := 268) (b := 1826) (M' := mt_268) (xs := [.inl 0, .inl 0]) (rest := []) rfl rfl rfl rfl rfl rfl (Nat.le_of_ble_eq_true rfl) (Nat.le_of_ble_eq_true rfl) (by omega) (m_sweep0 (n := n) (by omega) hSH48 ) ?_
    rintro _ H51 ⟨hfH51, hSH51, (rfl | rfl)⟩
    · refine h_rng (fun hrg52 => ?_)
      have hf53 : fr [50, 51, 53, 76, 77, 89, 93, 95, 97, 99, 101] [1847, 1852, 1853, 1855, 1856, 1871, 1872, 1873, 1874, 1875, 1876, 1877, 1878, 1879, 1880, 1881, 1882, 1883, 1884, 1885, 1886, 1887, 1888] H H51 := fr_t hf50 hfH51 (by decide) (by decide)
      refine h_run 0 (pc' := 13) (l' := [(0, .inr (.inr 1826))]) (st' := [.inl 0]) rfl ?_
      refine h_zeq (off := 5) (t := 18) rfl rfl (by decide) (fun _ => ?_) (fun c => absurd c (by decide))
      refine h_run 5 (pc' := 27) (l' := [(0, .inr (.inr 1826))]) (st' := [.inl 0, .inr (.inr 1871), .inr (.inr 1879)]) rfl ?_
      refine h_ild (c := 1871) (j := 0) (i := 0) rfl rfl (by decide) rfl (by omega) ?_
      have g54 : -2147483648 ≤ (H51.1 1871 0) ∧ (H51.1 1871 0) ≤ 2147483647 := hrg52.2 1871 0 13 .int rfl (by omega)
      have e55 : (H51.1 1871 0) = (H48.1 1871 0) := congrFun (hfH51.2.1 1871 (by decide) (by decide)) 0
      refine h_run 0 (pc' := 28) (l' := [(0, .inr (.inr 1826))]) (st' := [.inl (H51.1 1871 0), .inr (.inr 1879)]) rfl ?_
      obtain ⟨oo56, oo56a, oo56l, oo56u, oo56g⟩ := hSH51.2.1.2.1 0 (by have := hSH51.2.1.1; omega)
      obtain ⟨hoo56, hoo561, hoo562, -⟩ := oo56g.2
      rw [show (H51.1 1871 0) = (oo56 : Int) by omega]
      refine h_ild (c := 1879) (j := oo56) (i := (oo56 : Int)) rfl rfl (by decide) rfl (by omega) ?_
      have g57 : -2147483648 ≤ (H51.1 1879 oo56) ∧ (H51.1 1879 oo56) ≤ 2147483647 := hrg52.2 1879 oo56 40 .int rfl (by omega)
      have e58 : (H51.1 1879 oo56) = (H48.1 1879 oo56) := congrFun (hfH51.2.1 1879 (by decide) (by decide)) oo56
      refine h_run 0 (pc' := 29) (l' := [(0, .inr (.inr 1826))]) (st' := [.inl (H51.1 1879 oo56)]) rfl ?_
      refine h_run 3 (pc' := 32) (l' := [(0, .inr (.inr 1826)), (1, .inl (H51.1 1879 oo56)), (2, .inl 0)]) (st' := []) rfl ?_
      exact (m_hasStep_cut hd hS _).1 _ (H51.1 1879 oo56) 0 hf53 hSH51 (by omega) (by omega) (Nat.lt_succ_self _)
    · refine h_rng (fun hrg59 => ?_)
      have hf60 : fr [50, 51, 53, 76, 77, 89, 93, 95, 97, 99, 101] [1847, 1852, 1853, 1855, 1856, 1871, 1872, 1873, 1874, 1875, 1876, 1877, 1878, 1879, 1880, 1881, 1882, 1883, 1884, 1885, 1886, 1887, 1888] H H51 := fr_t hf50 hfH51 (by decide) (by decide)
      refine h_run 0 (pc' := 13) (l' := [(0, .inr (.inr 1826))]) (st' := [.inl 1]) rfl ?_
      refine h_zeq (off := 5) (t := 18) rfl rfl (by decide) (fun c => absurd c (by decide)) (fun _ => ?_)
      refine h_run 1 (pc' := 17) (l' := [(0, .inr (.inr 1826))]) (st' := [.inl 1]) rfl ?_
      refine h_retz (x := 1) rfl rfl (by decide) ?_
      exact ⟨hf60, SI_PF hSH51, Or.inr rfl⟩
  · refine h_rng (fun hrg61 => ?_)
    have hf62 : fr [50, 51, 53, 76, 77, 89, 93, 95, 97, 99, 101] [1847, 1852, 1853, 1855, 1856, 1871, 1872, 1873, 1874, 1875, 1876, 1877, 1878, 1879, 1880, 1881, 1882, 1883, 1884, 1885, 1886, 1887, 1888] H H48 := fr_t (fr_rf _ _ _) hfH48 (by decide) (by decide)
    have hSH48 : SI H48 n := SI_v hS hfH48 (by decide) (by decide) (by decide) hOH48 hvvH48
    refine h_run 0 (pc' := 4) (l' := [(0, .inr (.inr 1826))]) (st' := [.inl (-105)]) rfl ?_
    refine h_zge (off := 12) (t := 16) rfl rfl (by decide) (fun c => absurd c (by decide)) (fun _ => ?_)
    refine h_run 3 (pc' := 10) (l' := [(0, .inr (.inr 1826))]) (st' := [.inl 0, .inl 0, .inr (.inr 1826)]) rfl ?_
    refine h_cv (i := 681) (j := 268) (b := 1826) (M' := mt_268) (xs := [.inl 0, .inl 0]) (rest := []) rfl rfl rfl rfl rfl rfl (Nat.le_of_ble_eq_true rfl) (Nat.le_of_ble_eq_true rfl) (by omega) (m_sweep0 (n := n) (by omega) hSH48 ) ?_
    rintro _ H63 ⟨hfH63, hSH63, (rfl | rfl)⟩
    · refine h_rng (fun hrg64 => ?_)
      have hf65 : fr [50, 51, 53, 76, 77, 89, 93, 95, 97, 99, 101] [1847, 1852, 1853, 1855, 1856, 1871, 1872, 1873, 1874, 1875, 1876, 1877, 1878, 1879, 1880, 1881, 1882, 1883, 1884, 1885, 1886, 1887, 1888] H H63 := fr_t hf62 hfH63 (by decide) (by decide)
      refine h_run 0 (pc' := 13) (l' := [(0, .inr (.inr 1826))]) (st' := [.inl 0]) rfl ?_
      refine h_zeq (off := 5) (t := 18) rfl rfl (by decide) (fun _ => ?_) (fun c => absurd c (by decide))
      refine h_run 5 (pc' := 27) (l' := [(0, .inr (.inr 1826))]) (st' := [.inl 0, .inr (.inr 1871), .inr (.inr 1879)]) rfl ?_
      refine h_ild (c := 1871) (j := 0) (i := 0) rfl rfl (by decide) rfl (by omega) ?_
      have g66 : -2147483648 ≤ (H63.1 1871 0) ∧ (H63.1 1871 0) ≤ 2147483647 := hrg64.2 1871 0 13 .int rfl (by omega)
      have e67 : (H63.1 1871 0) = (H48.1 1871 0) := congrFun (hfH63.2.1 1871 (by decide) (by decide)) 0
      refine h_run 0 (pc' := 28) (l' := [(0, .inr (.inr 1826))]) (st' := [.inl (H63.1 1871 0), .inr (.inr 1879)]) rfl ?_
      obtain ⟨oo68, oo68a, oo68l, oo68u, oo68g⟩ := hSH63.2.1.2.1 0 (by have := hSH63.2.1.1; omega)
      obtain ⟨hoo68, hoo681, hoo682, -⟩ := oo68g.2
      rw [show (H63.1 1871 0) = (oo68 : Int) by omega]
      refine h_ild (c := 1879) (j := oo68) (i := (oo68 : Int)) rfl rfl (by decide) rfl (by omega) ?_
      have g69 : -2147483648 ≤ (H63.1 1879 oo68) ∧ (H63.1 1879 oo68) ≤ 2147483647 := hrg64.2 1879 oo68 40 .int rfl (by omega)
      have e70 : (H63.1 1879 oo68) = (H48.1 1879 oo68) := congrFun (hfH63.2.1 1879 (by decide) (by decide)) oo68
      refine h_run 0 (pc' := 29) (l' := [(0, .inr (.inr 1826))]) (st' := [.inl (H63.1 1879 oo68)]) rfl ?_
      refine h_run 3 (pc' := 32) (l' := [(0, .inr (.inr 1826)), (1, .inl (H63.1 1879 oo68)), (2, .inl 0)]) (st' := []) rfl ?_
      exact (m_hasStep_cut hd hS _).1 _ (H63.1 1879 oo68) 0 hf65 hSH63 (by omega) (by omega) (Nat.lt_succ_self _)
    · refine h_rng (fun hrg71 => ?_)
      have hf72 : fr [50, 51, 53, 76, 77, 89, 93, 95, 97, 99, 101] [1847, 1852, 1853, 1855, 1856, 1871, 1872, 1873, 1874, 1875, 1876, 1877, 1878, 1879, 1880, 1881, 1882, 1883, 1884, 1885, 1886, 1887, 1888] H H63 := fr_t hf62 hfH63 (by decide) (by decide)
      refine h_run 0 (pc' := 13) (l' := [(0, .inr (.inr 1826))]) (st' := [.inl 1]) rfl ?_
      refine h_zeq (off := 5) (t := 18) rfl rfl (by decide) (fun c => absurd c (by decide)) (fun _ => ?_)
      refine h_run 1 (pc' := 17) (l' := [(0, .inr (.inr 1826))]) (st' := [.inl 1]) rfl ?_
      refine h_retz (x := 1) rfl rfl (by decide) ?_
      exact ⟨hf72, SI_PF hSH63, Or.inr rfl⟩
  · refine h_rng (fun hrg73 => ?_)
    have hf74 : fr [50, 51, 53, 76, 77, 89, 93, 95, 97, 99, 101] [1847, 1852, 1853, 1855, 1856, 1871, 1872, 1873, 1874, 1875, 1876, 1877, 1878, 1879, 1880, 1881, 1882, 1883, 1884, 1885, 1886, 1887, 1888] H H48 := fr_t (fr_rf _ _ _) hfH48 (by decide) (by decide)
    have hbH48 : n2H48 ≤ 12 := by rcases hOH48 with q9 | q9; { rw [q9]; decide }; { exact q9.1.2.2.1 }
    have hPFH48 : PF2 H48 := PF_v hS hfH48 (by decide) (by decide) (by decide) horH48 hvvH48 hnH48 hOH48
    refine h_run 0 (pc' := 4) (l' := [(0, .inr (.inr 1826))]) (st' := [.inl (n2H48 : Int)]) rfl ?_
    refine h_zge (off := 12) (t := 16) rfl rfl (by omega) (fun c75 => ?_) (fun c75 => ?_)
    · refine h_run 1 (pc' := 17) (l' := [(0, .inr (.inr 1826))]) (st' := [.inl 1]) rfl ?_
      refine h_retz (x := 1) rfl rfl (by decide) ?_
      exact ⟨hf74, hPFH48, Or.inr rfl⟩
    · exfalso
      omega
