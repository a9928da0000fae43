/-! the reference: same, parts -/
theorem m_isKept1 {zC : Nat → Option zsh} {d : Nat} (hd : 2 ≤ d) {H : hp} {g s M : Nat} (hg : g < 40 ∧ s < 2) (hm : (H.1 1826 53) = (M : Int) ∧ M ≤ 60) : hG (zs zC) d mt_229 0 (zargs 0 [.inr (.inr 1826), .inl (g : Int), .inl (s : Int)]) [] H (fun r9 H2 => (∃ r0 : Int, r9 = some (.inl r0)) ∧ fr [] [1873, 1874] H H2 ∧ (H2.1 1874) = up (H.1 1874) (2 * g + s) (M : Int) ∧ (∀ x, x < M → (H2.1 1873) (64 * (2 * g + s) + x) = (H.1 1856) x) ∧ ∀ x, (x < 64 * (2 * g + s) ∨ 64 * (2 * g + s) + 64 ≤ x) → (H2.1 1873) x = (H.1 1873) x) := by
  refine h_mono (m_isKept hd hg ⟨hm.1, by omega⟩) ?_
  rintro r H2 (⟨-, h, -⟩ | ⟨h1, -, h2, h3, h4, h5⟩)
  · omega
  · exact ⟨⟨1, h1⟩, h2, h3, h4, h5⟩

/-! same -/
set_option maxRecDepth 100000 in
theorem m_same {zC : Nat → Option zsh} {d : Nat} (hd : 4 ≤ d) {H : hp} {n o : Nat} (hP : PWc H) (hO : OS H H n) (hvv : 0 ≤ (H.1 1826 89) ∧ (H.1 1826 89) ≤ 60) (hpr : 0 ≤ (H.1 1826 74) ∧ (H.1 1826 74) < 16) (ho1 : (H.1 1871) 0 = (o : Int)) : hG (zs zC) d mt_261 0 (zargs 0 [.inr (.inr 1826)]) [] H (fun r9 H2 => fr [53, 76, 77, 89, 93, 95, 99, 101] [1847, 1856, 1871, 1872, 1873, 1874, 1875, 1876, 1877, 1878, 1879, 1880, 1881, 1882, 1883, 1884, 1885, 1887, 1888] H H2 ∧ (0 ≤ (H2.1 1871) 0 ∧ (H2.1 1871) 0 < 40) ∧ (0 ≤ (H2.1 1826 89) ∧ (H2.1 1826 89) ≤ 60) ∧ (((r9 = some (.inl (-104)) ∧ OS H H2 n) ∨ (r9 = some (.inl (-105)) ∧ OS H H2 n)) ∨ ∃ n2 : Nat, r9 = some (.inl (n2 : Int)) ∧ (H2.1 1826 77) = (n2 : Int) ∧ (n2 = 0 ∨ OS H H2 n2))) := by
  refine h_rng (fun hrg0 => ?_)
  refine h_run 0 (pc' := 0) (l' := [(0, .inr (.inr 1826))]) (st' := []) rfl ?_
  obtain ⟨⟨pb1, pb2, pb3, pb4, pb5⟩, pw1, pw2, pw3, pw4⟩ := (id hP : PW H (H.1 1826 1) (H.1 1826 3) (H.1 1826 8) (H.1 1826 13) (H.1 1826 19))
  obtain ⟨ol, ou, og⟩ := RS_o hO ho1
  obtain ⟨N0, a1, a2, a3⟩ := og.1 0 (by omega)
  obtain ⟨N1, b1, b2, b3⟩ := og.1 1 (by omega)
  rw [Nat.add_zero] at a1 a3
  have hnn := hO.1
  have hN0 : 1 ≤ N0 := tm_le a3
  have hN1 : 1 ≤ N1 := tm_le b3
  refine h_run 1 (pc' := 1) (l' := [(0, .inr (.inr 1826))]) (st' := [.inr (.inr 1826)]) rfl ?_
  have g1 : -2147483648 ≤ (H.1 1826 77) ∧ (H.1 1826 77) ≤ 2147483647 := hrg0.1 1826 13 77 _ .int rfl rfl
  refine h_cv (i := 563) (j := 235) (b := 1826) (M' := mt_235) (xs := []) (rest := []) rfl rfl rfl rfl rfl rfl (Nat.le_of_ble_eq_true rfl) (Nat.le_of_ble_eq_true rfl) (by omega) (m_idle (by omega)) ?_
  rintro _ _ ⟨⟨rfl, b2⟩ | ⟨rfl, b2⟩, rfl⟩
  · have b2x : (H.1 1826 77) = 0 := b2
    refine h_run 0 (pc' := 4) (l' := [(0, .inr (.inr 1826))]) (st' := [.inl 1]) rfl ?_
    refine h_zeq (off := 6) (t := 10) rfl rfl (by decide) (fun c => absurd c (by decide)) (fun _ => ?_)
    refine h_run 1 (pc' := 9) (l' := [(0, .inr (.inr 1826))]) (st' := [.inl (-103)]) rfl ?_
    refine h_reti (x := (-103)) rfl rfl ?_
    exfalso
    omega
  · have b2x : (H.1 1826 77) ≠ 0 := b2
    refine h_run 0 (pc' := 4) (l' := [(0, .inr (.inr 1826))]) (st' := [.inl 0]) rfl ?_
    refine h_zeq (off := 6) (t := 10) rfl rfl (by decide) (fun _ => ?_) (fun c => absurd c (by decide))
    refine h_run 3 (pc' := 15) (l' := [(0, .inr (.inr 1826))]) (st' := [.inl 0, .inr (.inr 1871)]) rfl ?_
    refine h_ild (c := 1871) (j := 0) (i := 0) rfl rfl (by decide) rfl (by omega) ?_
    have g3 : -2147483648 ≤ (H.1 1871 0) ∧ (H.1 1871 0) ≤ 2147483647 := hrg0.2 1871 0 13 .int rfl (by omega)
    refine h_run 0 (pc' := 16) (l' := [(0, .inr (.inr 1826))]) (st' := [.inl (H.1 1871 0)]) rfl ?_
    rw [show (H.1 1871 0) = (o : Int) by omega]
    refine h_run 6 (pc' := 24) (l' := [(0, .inr (.inr 1826)), (1, .inl (o : Int))]) (st' := [.inl 0, .inl (o : Int), .inr (.inr 1826), .inr (.inr 1873)]) rfl ?_
    refine h_cv (i := 528) (j := 221) (b := 1826) (M' := mt_221) (xs := [.inl 0, .inl (o : Int)]) (rest := [.inr (.inr 1873)]) rfl rfl rfl rfl rfl rfl (Nat.le_of_ble_eq_true rfl) (Nat.le_of_ble_eq_true rfl) (by omega) (m_sideAt (by omega)) ?_
    rintro _ _ ⟨rfl, rfl⟩
    refine h_run 0 (pc' := 27) (l' := [(0, .inr (.inr 1826)), (1, .inl (o : Int))]) (st' := [.inl (64 * ((2 * (o : Int)) + 0)), .inr (.inr 1873)]) rfl ?_
    obtain ⟨x1, hx1⟩ : ∃ x9 : Nat, x9 = 64 * (2 * o) := ⟨_, rfl⟩
    rw [show (64 * ((2 * (o : Int)) + 0)) = ((x1 : Nat) : Int) from (by omega)]
    refine h_run 3 (pc' := 30) (l' := [(0, .inr (.inr 1826)), (1, .inl (o : Int))]) (st' := [.inl 0, .inl (o : Int), .inr (.inr 1826), .inl (x1 : Int), .inr (.inr 1873)]) rfl ?_
    refine h_cv (i := 528) (j := 221) (b := 1826) (M' := mt_221) (xs := [.inl 0, .inl (o : Int)]) (rest := [.inl (x1 : Int), .inr (.inr 1873)]) rfl rfl rfl rfl rfl rfl (Nat.le_of_ble_eq_true rfl) (Nat.le_of_ble_eq_true rfl) (by omega) (m_sideAt (by omega)) ?_
    rintro _ _ ⟨rfl, rfl⟩
    refine h_run 0 (pc' := 33) (l' := [(0, .inr (.inr 1826)), (1, .inl (o : Int))]) (st' := [.inl (64 * ((2 * (o : Int)) + 0)), .inl (x1 : Int), .inr (.inr 1873)]) rfl ?_
    refine h_run 5 (pc' := 40) (l' := [(0, .inr (.inr 1826)), (1, .inl (o : Int))]) (st' := [.inl (2 * (o : Int)), .inr (.inr 1874), .inl (64 * ((2 * (o : Int)) + 0)), .inl (x1 : Int), .inr (.inr 1873)]) rfl ?_
    refine h_ild (c := 1874) (j := (2 * o)) (i := (2 * (o : Int))) rfl rfl (by decide) (by omega) (by omega) ?_
    have g4 : -2147483648 ≤ (H.1 1874 (2 * o)) ∧ (H.1 1874 (2 * o)) ≤ 2147483647 := hrg0.2 1874 (2 * o) 80 .int rfl (by omega)
    refine h_run 0 (pc' := 41) (l' := [(0, .inr (.inr 1826)), (1, .inl (o : Int))]) (st' := [.inl (H.1 1874 (2 * o)), .inl (64 * ((2 * (o : Int)) + 0)), .inl (x1 : Int), .inr (.inr 1873)]) rfl ?_
    refine h_run 1 (pc' := 42) (l' := [(0, .inr (.inr 1826)), (1, .inl (o : Int))]) (st' := [.inl ((64 * ((2 * (o : Int)) + 0)) + (H.1 1874 (2 * o))), .inl (x1 : Int), .inr (.inr 1873)]) rfl ?_
    obtain ⟨x2, hx2⟩ : ∃ x9 : Nat, x9 = 64 * (2 * o) + N0 := ⟨_, rfl⟩
    rw [show ((64 * ((2 * (o : Int)) + 0)) + (H.1 1874 (2 * o))) = ((x2 : Nat) : Int) from (by omega)]
    refine h_run 5 (pc' := 49) (l' := [(0, .inr (.inr 1826)), (1, .inl (o : Int))]) (st' := [.inl 1, .inl (o : Int), .inr (.inr 1826), .inr (.inr 1873), .inl (x2 : Int), .inl (x1 : Int), .inr (.inr 1873)]) rfl ?_
    refine h_cv (i := 528) (j := 221) (b := 1826) (M' := mt_221) (xs := [.inl 1, .inl (o : Int)]) (rest := [.inr (.inr 1873), .inl (x2 : Int), .inl (x1 : Int), .inr (.inr 1873)]) rfl rfl rfl rfl rfl rfl (Nat.le_of_ble_eq_true rfl) (Nat.le_of_ble_eq_true rfl) (by omega) (m_sideAt (by omega)) ?_
    rintro _ _ ⟨rfl, rfl⟩
    refine h_run 0 (pc' := 52) (l' := [(0, .inr (.inr 1826)), (1, .inl (o : Int))]) (st' := [.inl (64 * ((2 * (o : Int)) + 1)), .inr (.inr 1873), .inl (x2 : Int), .inl (x1 : Int), .inr (.inr 1873)]) rfl ?_
    obtain ⟨x3, hx3⟩ : ∃ x9 : Nat, x9 = 64 * (2 * o + 1) := ⟨_, rfl⟩
    rw [show (64 * ((2 * (o : Int)) + 1)) = ((x3 : Nat) : Int) from (by omega)]
    refine h_run 3 (pc' := 55) (l' := [(0, .inr (.inr 1826)), (1, .inl (o : Int))]) (st' := [.inl 1, .inl (o : Int), .inr (.inr 1826), .inl (x3 : Int), .inr (.inr 1873), .inl (x2 : Int), .inl (x1 : Int), .inr (.inr 1873)]) rfl ?_
    refine h_cv (i := 528) (j := 221) (b := 1826) (M' := mt_221) (xs := [.inl 1, .inl (o : Int)]) (rest := [.inl (x3 : Int), .inr (.inr 1873), .inl (x2 : Int), .inl (x1 : Int), .inr (.inr 1873)]) rfl rfl rfl rfl rfl rfl (Nat.le_of_ble_eq_true rfl) (Nat.le_of_ble_eq_true rfl) (by omega) (m_sideAt (by omega)) ?_
    rintro _ _ ⟨rfl, rfl⟩
    refine h_run 0 (pc' := 58) (l' := [(0, .inr (.inr 1826)), (1, .inl (o : Int))]) (st' := [.inl (64 * ((2 * (o : Int)) + 1)), .inl (x3 : Int), .inr (.inr 1873), .inl (x2 : Int), .inl (x1 : Int), .inr (.inr 1873)]) rfl ?_
    refine h_run 7 (pc' := 67) (l' := [(0, .inr (.inr 1826)), (1, .inl (o : Int))]) (st' := [.inl ((2 * (o : Int)) + 1), .inr (.inr 1874), .inl (64 * ((2 * (o : Int)) + 1)), .inl (x3 : Int), .inr (.inr 1873), .inl (x2 : Int), .inl (x1 : Int), .inr (.inr 1873)]) rfl ?_
    refine h_ild (c := 1874) (j := ((2 * o) + 1)) (i := ((2 * (o : Int)) + 1)) rfl rfl (by decide) (by omega) (by omega) ?_
    have g5 : -2147483648 ≤ (H.1 1874 ((2 * o) + 1)) ∧ (H.1 1874 ((2 * o) + 1)) ≤ 2147483647 := hrg0.2 1874 ((2 * o) + 1) 80 .int rfl (by omega)
    refine h_run 0 (pc' := 68) (l' := [(0, .inr (.inr 1826)), (1, .inl (o : Int))]) (st' := [.inl (H.1 1874 ((2 * o) + 1)), .inl (64 * ((2 * (o : Int)) + 1)), .inl (x3 : Int), .inr (.inr 1873), .inl (x2 : Int), .inl (x1 : Int), .inr (.inr 1873)]) rfl ?_
    refine h_run 1 (pc' := 69) (l' := [(0, .inr (.inr 1826)), (1, .inl (o : Int))]) (st' := [.inl ((64 * ((2 * (o : Int)) + 1)) + (H.1 1874 ((2 * o) + 1))), .inl (x3 : Int), .inr (.inr 1873), .inl (x2 : Int), .inl (x1 : Int), .inr (.inr 1873)]) rfl ?_
    obtain ⟨x4, hx4⟩ : ∃ x9 : Nat, x9 = 64 * (2 * o + 1) + N1 := ⟨_, rfl⟩
    rw [show ((64 * ((2 * (o : Int)) + 1)) + (H.1 1874 ((2 * o) + 1))) = ((x4 : Nat) : Int) from (by omega)]
    refine h_cs (i := 582) (j := 241) (M' := mt_241) (xs := [.inl (x4 : Int), .inl (x3 : Int), .inr (.inr 1873), .inl (x2 : Int), .inl (x1 : Int), .inr (.inr 1873)]) (rest := []) rfl rfl rfl rfl rfl (Nat.le_of_ble_eq_true rfl) (Nat.le_of_ble_eq_true rfl) (by omega) (m_isSame  (by omega) rfl rfl (by decide) (by omega) (by omega)) ?_
    rintro _ _ ⟨(⟨rfl, hsl, hsx⟩ | rfl), rfl⟩
    · refine h_run 0 (pc' := 72) (l' := [(0, .inr (.inr 1826)), (1, .inl (o : Int))]) (st' := [.inl 1]) rfl ?_
      refine h_zne (off := 6) (t := 78) rfl rfl (by decide) (fun _ => ?_) (fun c => absurd c (by decide))
      refine h_run 2 (pc' := 80) (l' := [(0, .inr (.inr 1826)), (1, .inl (o : Int))]) (st' := [.inl 0, .inr (.inr 1826)]) rfl ?_
      refine h_puti (i := 553) (ci := 13) (k := 95) (a := 1826) (x := 0) rfl rfl rfl rfl rfl rfl (by decide) (by decide) ?_
      have hW9 : RW H (zu H 1826 (up (H.1 1826) 95 0)) n 0 1 := RW_begin hO (show fr [95] [] H (zu H 1826 (up (H.1 1826) 95 0)) from (fr_o (fr_rf _ _ _) (by decide))) (by decide) (by decide) (by decide) rfl 1
      refine h_run 2 (pc' := 85) (l' := [(0, .inr (.inr 1826)), (1, .inl (o : Int))]) (st' := [.inl 1, .inr (.inr 1826)]) rfl ?_
      have g7 : -2147483648 ≤ (H.1 1826 74) ∧ (H.1 1826 74) ≤ 2147483647 := hrg0.1 1826 13 74 _ .int rfl rfl
      refine h_cv (i := 631) (j := 234) (b := 1826) (M' := mt_234) (xs := [.inl 1]) (rest := []) rfl rfl rfl rfl rfl rfl (Nat.le_of_ble_eq_true rfl) (Nat.le_of_ble_eq_true rfl) (by omega) (m_replace (P := H) (n := n) (m := 0) (by omega) (by omega) hW9.1 hW9.2.1 hW9.2.2 (show 0 ≤ (H.1 1826 74) ∧ (H.1 1826 74) < 16 by omega)) ?_
      rintro _ H6 ⟨hfH6, horH6, (⟨rfl, hOH6⟩ | ⟨n2H6, rfl, hnH6, hOH6⟩)⟩
      · refine h_rng (fun hrg8 => ?_)
        have hf9 : fr [53, 76, 77, 89, 93, 95, 99, 101] [1847, 1856, 1871, 1872, 1873, 1874, 1875, 1876, 1877, 1878, 1879, 1880, 1881, 1882, 1883, 1884, 1885, 1887, 1888] H H6 := fr_t (fr_o (fr_rf _ _ _) (by decide)) hfH6 (by decide) (by decide)
        refine h_run 0 (pc' := 88) (l' := [(0, .inr (.inr 1826)), (1, .inl (o : Int))]) (st' := [.inl (-105)]) rfl ?_
        refine h_reti (x := (-105)) rfl rfl ?_
        have g10 : -2147483648 ≤ (H6.1 1826 89) ∧ (H6.1 1826 89) ≤ 2147483647 := hrg8.1 1826 13 89 _ .int rfl rfl
        have e11 : (H6.1 1826 89) = (H.1 1826 89) := hfH6.2.2 89 (by decide)
        exact ⟨hf9, horH6, (show 0 ≤ (H6.1 1826 89) ∧ (H6.1 1826 89) ≤ 60 by omega), Or.inl (Or.inr ⟨rfl, hOH6⟩)⟩
      · refine h_rng (fun hrg12 => ?_)
        have hf13 : fr [53, 76, 77, 89, 93, 95, 99, 101] [1847, 1856, 1871, 1872, 1873, 1874, 1875, 1876, 1877, 1878, 1879, 1880, 1881, 1882, 1883, 1884, 1885, 1887, 1888] H H6 := fr_t (fr_o (fr_rf _ _ _) (by decide)) hfH6 (by decide) (by decide)
        have hbH6 : n2H6 ≤ 12 := by rcases hOH6 with q9 | q9; { rw [q9]; decide }; { exact q9.1.2.2.1 }
        refine h_run 0 (pc' := 88) (l' := [(0, .inr (.inr 1826)), (1, .inl (o : Int))]) (st' := [.inl (n2H6 : Int)]) rfl ?_
        refine h_reti (x := (n2H6 : Int)) rfl rfl ?_
        have g14 : -2147483648 ≤ (H6.1 1826 89) ∧ (H6.1 1826 89) ≤ 2147483647 := hrg12.1 1826 13 89 _ .int rfl rfl
        have e15 : (H6.1 1826 89) = (H.1 1826 89) := hfH6.2.2 89 (by decide)
        exact ⟨hf13, horH6, (show 0 ≤ (H6.1 1826 89) ∧ (H6.1 1826 89) ≤ 60 by omega), Or.inr ⟨n2H6, rfl, hnH6, hOH6⟩⟩
    · refine h_run 0 (pc' := 72) (l' := [(0, .inr (.inr 1826)), (1, .inl (o : Int))]) (st' := [.inl 0]) rfl ?_
      refine h_zne (off := 6) (t := 78) rfl rfl (by decide) (fun c => absurd c (by decide)) (fun _ => ?_)
      refine h_run 1 (pc' := 77) (l' := [(0, .inr (.inr 1826)), (1, .inl (o : Int))]) (st' := [.inl (-104)]) rfl ?_
      refine h_reti (x := (-104)) rfl rfl ?_
      exact ⟨(fr_rf _ _ _), (by rw [ho1]; omega), hvv, Or.inl (Or.inl ⟨rfl, hO⟩)⟩

/-! parts -/
set_option maxRecDepth 100000 in
theorem m_parts_cut {zC : Nat → Option zsh} {d : Nat} (hd : 4 ≤ d) {H : hp} {n o : Nat} (hP : PWc H) (hO : OS H H n) (hvv : 0 ≤ (H.1 1826 89) ∧ (H.1 1826 89) ≤ 60) (hpr : 0 ≤ (H.1 1826 74) ∧ (H.1 1826 74) < 16) (ho1 : (H.1 1871) 0 = (o : Int)) : ∀ w : Nat, (∀ (H1 : hp) (sg : Int) (k : Nat) (a : Nat) (m : Nat), (fr [53, 76, 77, 89, 93, 95, 99, 101] [1847, 1856, 1871, 1872, 1873, 1874, 1875, 1876, 1877, 1878, 1879, 1880, 1881, 1882, 1883, 1884, 1885, 1887, 1888] H H1) → ((1 ≤ sg ∧ sg ≤ (H.1 1826 3)) ∧ sg < 100) → (ma (H.1 1833) (H.1 1830) sg = (a : Int) ∧ a ≤ 3) → (∀ s, s < 2 → (H.1 1873) (64 * (2 * o + s)) = sg) → (k ≤ a ∧ m ≤ k) → (RW H H1 n m 1) → ((H1.1 1871) 0 = (o : Int)) → (sS H H1 o) → ((H1.1 1826 89) = (H.1 1826 89)) → 100000 - 10000 * k < w → hG (zs zC) d mt_262 61 [(0, .inr (.inr 1826)), (1, .inl (o : Int)), (2, .inl sg), (3, .inl (k : Int))] [] H1 (fun r9 H2 => fr [53, 76, 77, 89, 93, 95, 99, 101] [1847, 1856, 1871, 1872, 1873, 1874, 1875, 1876, 1877, 1878, 1879, 1880, 1881, 1882, 1883, 1884, 1885, 1887, 1888] H H2 ∧ (0 ≤ (H2.1 1871) 0 ∧ (H2.1 1871) 0 < 40) ∧ (0 ≤ (H2.1 1826 89) ∧ (H2.1 1826 89) ≤ 60) ∧ (((r9 = some (.inl (-104)) ∧ OS H H2 n) ∨ (r9 = some (.inl (-105)) ∧ OS H H2 n)) ∨ ∃ n2 : Nat, r9 = some (.inl (n2 : Int)) ∧ (H2.1 1826 77) = (n2 : Int) ∧ (n2 = 0 ∨ OS H H2 n2)))) ∧ (∀ (H1 : hp) (sg : Int) (k : Nat) (g : Nat) (s : Nat) (a : Nat) (m : Nat), (fr [53, 76, 77, 89, 93, 95, 99, 101] [1847, 1856, 1871, 1872, 1873, 1874, 1875, 1876, 1877, 1878, 1879, 1880, 1881, 1882, 1883, 1884, 1885, 1887, 1888] H H1) → ((1 ≤ sg ∧ sg ≤ (H.1 1826 3)) ∧ sg < 100) → (ma (H.1 1833) (H.1 1830) sg = (a : Int) ∧ a ≤ 3) → (∀ s, s < 2 → (H.1 1873) (64 * (2 * o + s)) = sg) → (k < a ∧ m ≤ k + 1 ∧ s ≤ 2) → (RG H H1 n m g 1) → ((H1.1 1871) 0 = (o : Int)) → (sS H H1 o) → ((H1.1 1826 89) = (H.1 1826 89)) → 100000 - 10000 * k - 1000 * s - 100 < w → hG (zs zC) d mt_262 99 [(0, .inr (.inr 1826)), (1, .inl (o : Int)), (2, .inl sg), (3, .inl (k : Int)), (4, .inl (g : Int)), (5, .inl (s : Int))] [] H1 (fun r9 H2 => fr [53, 76, 77, 89, 93, 95, 99, 101] [1847, 1856, 1871, 1872, 1873, 1874, 1875, 1876, 1877, 1878, 1879, 1880, 1881, 1882, 1883, 1884, 1885, 1887, 1888] H H2 ∧ (0 ≤ (H2.1 1871) 0 ∧ (H2.1 1871) 0 < 40) ∧ (0 ≤ (H2.1 1826 89) ∧ (H2.1 1826 89) ≤ 60) ∧ (((r9 = some (.inl (-104)) ∧ OS H H2 n) ∨ (r9 = some (.inl (-105)) ∧ OS H H2 n)) ∨ ∃ n2 : Nat, r9 = some (.inl (n2 : Int)) ∧ (H2.1 1826 77) = (n2 : Int) ∧ (n2 = 0 ∨ OS H H2 n2)))) ∧ (∀ (H1 : hp) (sg : Int) (k : Nat) (g : Nat) (s : Nat) (fm : Nat) (j : Nat) (a : Nat) (m : Nat) (N : Nat), (fr [53, 76, 77, 89, 93, 95, 99, 101] [1847, 1856, 1871, 1872, 1873, 1874, 1875, 1876, 1877, 1878, 1879, 1880, 1881, 1882, 1883, 1884, 1885, 1887, 1888] H H1) → ((1 ≤ sg ∧ sg ≤ (H.1 1826 3)) ∧ sg < 100) → (ma (H.1 1833) (H.1 1830) sg = (a : Int) ∧ a ≤ 3) → (∀ s, s < 2 → (H.1 1873) (64 * (2 * o + s)) = sg) → (k < a ∧ m ≤ k + 1 ∧ s < 2 ∧ j ≤ k) → (RG H H1 n m g 1) → ((H1.1 1871) 0 = (o : Int)) → (sS H H1 o) → ((H1.1 1826 89) = (H.1 1826 89)) → (N ≤ 60 ∧ fm ≤ N) → (tm (ma (H.1 1833) (H.1 1830)) (m_sg (H.1 1826 3) (H.1 1826 8) 60) (H1.1 1884) (N - fm) fm (a - j)) → 100000 - 10000 * k - 1000 * s - 200 - j < w → hG (zs zC) d mt_262 118 [(0, .inr (.inr 1826)), (1, .inl (o : Int)), (2, .inl sg), (3, .inl (k : Int)), (4, .inl (g : Int)), (5, .inl (s : Int)), (6, .inl (fm : Int)), (7, .inl (j : Int))] [] H1 (fun r9 H2 => fr [53, 76, 77, 89, 93, 95, 99, 101] [1847, 1856, 1871, 1872, 1873, 1874, 1875, 1876, 1877, 1878, 1879, 1880, 1881, 1882, 1883, 1884, 1885, 1887, 1888] H H2 ∧ (0 ≤ (H2.1 1871) 0 ∧ (H2.1 1871) 0 < 40) ∧ (0 ≤ (H2.1 1826 89) ∧ (H2.1 1826 89) ≤ 60) ∧ (((r9 = some (.inl (-104)) ∧ OS H H2 n) ∨ (r9 = some (.inl (-105)) ∧ OS H H2 n)) ∨ ∃ n2 : Nat, r9 = some (.inl (n2 : Int)) ∧ (H2.1 1826 77) = (n2 : Int) ∧ (n2 = 0 ∨ OS H H2 n2)))) := by
  intro w
  induction w with
  | zero => exact ⟨fun _ _ _ _ _ _ _ _ _ _ _ _ _ _ h => absurd h (Nat.not_lt_zero _), fun _ _ _ _ _ _ _ _ _ _ _ _ _ _ _ _ h => absurd h (Nat.not_lt_zero _), fun _ _ _ _ _ _ _ _ _ _ _ _ _ _ _ _ _ _ _ _ _ h => absurd h (Nat.not_lt_zero _)⟩
  | succ w ih =>
    refine ⟨?_, ?_, ?_⟩
    · intro H1 sg k a m hf hsg har hsi hk hW hoo hso hvv1 hw
      refine h_rng (fun hrg1 => ?_)
      have hQ1 : sP H H1 := sP_fr (sP_rf H) hf (by decide) (by decide)
      have hP1 : PWc H1 := PWc_fr hP hf (by decide) (by decide)
      obtain ⟨⟨pb1, pb2, pb3, pb4, pb5⟩, pw1, pw2, pw3, pw4⟩ := (id hP : PW H (H.1 1826 1) (H.1 1826 3) (H.1 1826 8) (H.1 1826 13) (H.1 1826 19))
      obtain ⟨ol, ou, og⟩ := RS_o hO ho1
      have ear : ma (H1.1 1833) (H1.1 1830) sg = (a : Int) := by rw [hQ1.1, hQ1.2.1]; exact har.1
      refine h_run 3 (pc' := 64) (l' := [(0, .inr (.inr 1826)), (1, .inl (o : Int)), (2, .inl sg), (3, .inl (k : Int))]) (st' := [.inl sg, .inr (.inr 1826), .inl (k : Int)]) rfl ?_
      refine h_cv (i := 244) (j := 154) (b := 1826) (M' := mt_154) (xs := [.inl sg]) (rest := [.inl (k : Int)]) rfl rfl rfl rfl rfl rfl (Nat.le_of_ble_eq_true rfl) (Nat.le_of_ble_eq_true rfl) (by omega) (m_arity (by omega) (by unfold sg0; omega)) ?_
      rintro _ _ ⟨rfl, rfl⟩
      refine h_run 0 (pc' := 67) (l' := [(0, .inr (.inr 1826)), (1, .inl (o : Int)), (2, .inl sg), (3, .inl (k : Int))]) (st' := [.inl (ma (H1.1 1833) (H1.1 1830) sg), .inl (k : Int)]) rfl ?_
      refine h_ige (off := 121) (t := 188) rfl rfl (by omega) (by omega) (fun c2 => ?_) (fun c2 => ?_)
      · refine h_run 2 (pc' := 190) (l' := [(0, .inr (.inr 1826)), (1, .inl (o : Int)), (2, .inl sg), (3, .inl (k : Int))]) (st' := [.inl 1, .inr (.inr 1826)]) rfl ?_
        have g4 : -2147483648 ≤ (H1.1 1826 74) ∧ (H1.1 1826 74) ≤ 2147483647 := hrg1.1 1826 13 74 _ .int rfl rfl
        have e5 : (H1.1 1826 74) = (H.1 1826 74) := hf.2.2 74 (by decide)
        refine h_cv (i := 631) (j := 234) (b := 1826) (M' := mt_234) (xs := [.inl 1]) (rest := []) rfl rfl rfl rfl rfl rfl (Nat.le_of_ble_eq_true rfl) (Nat.le_of_ble_eq_true rfl) (by omega) (m_replace (P := H) (n := n) (m := m) (by omega) (by omega) hW.1 hW.2.1 hW.2.2 (show 0 ≤ (H1.1 1826 74) ∧ (H1.1 1826 74) < 16 by omega)) ?_
        rintro _ H3 ⟨hfH3, horH3, (⟨rfl, hOH3⟩ | ⟨n2H3, rfl, hnH3, hOH3⟩)⟩
        · refine h_rng (fun hrg6 => ?_)
          have hf7 : fr [53, 76, 77, 89, 93, 95, 99, 101] [1847, 1856, 1871, 1872, 1873, 1874, 1875, 1876, 1877, 1878, 1879, 1880, 1881, 1882, 1883, 1884, 1885, 1887, 1888] H H3 := fr_t hf hfH3 (by decide) (by decide)
          refine h_run 0 (pc' := 193) (l' := [(0, .inr (.inr 1826)), (1, .inl (o : Int)), (2, .inl sg), (3, .inl (k : Int))]) (st' := [.inl (-105)]) rfl ?_
          refine h_reti (x := (-105)) rfl rfl ?_
          have g8 : -2147483648 ≤ (H3.1 1826 89) ∧ (H3.1 1826 89) ≤ 2147483647 := hrg6.1 1826 13 89 _ .int rfl rfl
          have e9 : (H3.1 1826 89) = (H1.1 1826 89) := hfH3.2.2 89 (by decide)
          exact ⟨hf7, horH3, (show 0 ≤ (H3.1 1826 89) ∧ (H3.1 1826 89) ≤ 60 by omega), Or.inl (Or.inr ⟨rfl, hOH3⟩)⟩
        · refine h_rng (fun hrg10 => ?_)
          have hf11 : fr [53, 76, 77, 89, 93, 95, 99, 101] [1847, 1856, 1871, 1872, 1873, 1874, 1875, 1876, 1877, 1878, 1879, 1880, 1881, 1882, 1883, 1884, 1885, 1887, 1888] H H3 := fr_t hf hfH3 (by decide) (by decide)
          have hbH3 : n2H3 ≤ 12 := by rcases hOH3 with q9 | q9; { rw [q9]; decide }; { exact q9.1.2.2.1 }
          refine h_run 0 (pc' := 193) (l' := [(0, .inr (.inr 1826)), (1, .inl (o : Int)), (2, .inl sg), (3, .inl (k : Int))]) (st' := [.inl (n2H3 : Int)]) rfl ?_
          refine h_reti (x := (n2H3 : Int)) rfl rfl ?_
          have g12 : -2147483648 ≤ (H3.1 1826 89) ∧ (H3.1 1826 89) ≤ 2147483647 := hrg10.1 1826 13 89 _ .int rfl rfl
          have e13 : (H3.1 1826 89) = (H1.1 1826 89) := hfH3.2.2 89 (by decide)
          exact ⟨hf11, horH3, (show 0 ≤ (H3.1 1826 89) ∧ (H3.1 1826 89) ≤ 60 by omega), Or.inr ⟨n2H3, rfl, hnH3, hOH3⟩⟩
      · refine h_run 2 (pc' := 72) (l' := [(0, .inr (.inr 1826)), (1, .inl (o : Int)), (2, .inl sg), (3, .inl (k : Int))]) (st' := [.inl (o : Int), .inr (.inr 1826)]) rfl ?_
        have hWg15 : RW H H1 n m 1 := (RW_fr hW (show fr [] [] H1 H1 from (fr_rf _ _ _)) (by decide) (by decide) (by decide))
        obtain ⟨zg15, hzg15⟩ := RS_free hWg15.1
        obtain ⟨o1g15, o2g15, o3g15⟩ := RS_o hWg15.1 (show (H1.1 1871) 0 = (o : Int) from hoo)
        refine h_cv (i := 616) (j := 233) (b := 1826) (M' := mt_233) (xs := [.inl (o : Int)]) (rest := []) rfl rfl rfl rfl rfl rfl (Nat.le_of_ble_eq_true rfl) (Nat.le_of_ble_eq_true rfl) (by omega) (m_newGoal (P := H) (m := m) (by omega) hzg15 ⟨o1g15, o2g15⟩ o3g15 ⟨hWg15.2.1, by omega⟩) ?_
        rintro _ H14 ⟨g15, rfl, lg15, ug15, hfH14, e3g15, e5g15, e6g15, kg15, e4g15⟩
        refine h_rng (fun hrg16 => ?_)
        have hf17 : fr [53, 76, 77, 89, 93, 95, 99, 101] [1847, 1856, 1871, 1872, 1873, 1874, 1875, 1876, 1877, 1878, 1879, 1880, 1881, 1882, 1883, 1884, 1885, 1887, 1888] H H14 := fr_t hf hfH14 (by decide) (by decide)
        have hRGH14 : RG H H14 n (m + 1) g15 1 := RW_new hWg15 rfl (by omega) lg15 ug15 hfH14 (by decide) (by decide) e3g15 e5g15 e6g15 kg15 e4g15
        have hooH14 : (H14.1 1871) 0 = (o : Int) := (congrFun (hfH14.2.1 1871 (by decide) (by decide)) 0).trans hoo
        refine h_run 0 (pc' := 75) (l' := [(0, .inr (.inr 1826)), (1, .inl (o : Int)), (2, .inl sg), (3, .inl (k : Int))]) (st' := [.inl (g15 : Int)]) rfl ?_
        refine h_run 1 (pc' := 77) (l' := [(0, .inr (.inr 1826)), (1, .inl (o : Int)), (2, .inl sg), (3, .inl (k : Int)), (4, .inl (g15 : Int))]) (st' := []) rfl ?_
        refine h_run 12 (pc' := 94) (l' := [(0, .inr (.inr 1826)), (1, .inl (o : Int)), (2, .inl sg), (3, .inl (k : Int)), (4, .inl (g15 : Int))]) (st' := [.inl ((3 * (sg - 1)) + (k : Int)), .inr (.inr 1831), .inl (g15 : Int), .inr (.inr 1875)]) rfl ?_
        refine h_ild (c := 1831) (j := (((3 * (sg - 1)) + (k : Int))).toNat) (i := ((3 * (sg - 1)) + (k : Int))) rfl rfl (by decide) (by omega) (by omega) ?_
        have g18 : -2147483648 ≤ (H14.1 1831 (((3 * (sg - 1)) + (k : Int))).toNat) ∧ (H14.1 1831 (((3 * (sg - 1)) + (k : Int))).toNat) ≤ 2147483647 := hrg16.2 1831 (((3 * (sg - 1)) + (k : Int))).toNat 48 .int rfl (by omega)
        have e19 : (H14.1 1831 (((3 * (sg - 1)) + (k : Int))).toNat) = (H1.1 1831 (((3 * (sg - 1)) + (k : Int))).toNat) := congrFun (hfH14.2.1 1831 (by decide) (by decide)) (((3 * (sg - 1)) + (k : Int))).toNat
        have e20 : (H1.1 1831 (((3 * (sg - 1)) + (k : Int))).toNat) = (H.1 1831 (((3 * (sg - 1)) + (k : Int))).toNat) := congrFun (hf.2.1 1831 (by decide) (by decide)) (((3 * (sg - 1)) + (k : Int))).toNat
        refine h_run 0 (pc' := 95) (l' := [(0, .inr (.inr 1826)), (1, .inl (o : Int)), (2, .inl sg), (3, .inl (k : Int)), (4, .inl (g15 : Int))]) (st' := [.inl (H14.1 1831 (((3 * (sg - 1)) + (k : Int))).toNat), .inl (g15 : Int), .inr (.inr 1875)]) rfl ?_
        refine h_ist (c := 1875) (j := g15) (i := (g15 : Int)) (x := (H14.1 1831 (((3 * (sg - 1)) + (k : Int))).toNat)) rfl rfl (by decide) (by decide) rfl (by omega) (by omega) ?_
        refine h_run 2 (pc' := 99) (l' := [(0, .inr (.inr 1826)), (1, .inl (o : Int)), (2, .inl sg), (3, .inl (k : Int)), (4, .inl (g15 : Int)), (5, .inl 0)]) (st' := []) rfl ?_
        have g21 : -2147483648 ≤ (H14.1 1826 89) ∧ (H14.1 1826 89) ≤ 2147483647 := hrg16.1 1826 13 89 _ .int rfl rfl
        have e22 : (H14.1 1826 89) = (H1.1 1826 89) := hfH14.2.2 89 (by decide)
        exact ih.2.1 _ sg k g15 0 (a) (m + 1) (fr_a hf17 (by decide)) (by omega) har hsi (by omega) (RG_fr0 hRGH14 (show fr [] [1875] H14 (zu H14 1875 (up (H14.1 1875) g15 (H14.1 1831 (((3 * (sg - 1)) + (k : Int))).toNat))) from (fr_a (fr_rf _ _ _) (by decide))) (by decide) (by decide) (by decide)) hooH14 (sS_tr hso (e4g15 o (fun q9 => RG_ne hRGH14 hooH14 q9.symm)).1) (by omega : (H14.1 1826 89) = (H.1 1826 89)) (by omega : 100000 - 10000 * k - 1000 * 0 - 100 < w)
    · intro H1 sg k g s a m hf hsg har hsi hk hR hoo hso hvv1 hw
      refine h_rng (fun hrg23 => ?_)
      have hQ1 : sP H H1 := sP_fr (sP_rf H) hf (by decide) (by decide)
      have hP1 : PWc H1 := PWc_fr hP hf (by decide) (by decide)
      obtain ⟨⟨pb1, pb2, pb3, pb4, pb5⟩, pw1, pw2, pw3, pw4⟩ := (id hP : PW H (H.1 1826 1) (H.1 1826 3) (H.1 1826 8) (H.1 1826 13) (H.1 1826 19))
      obtain ⟨ol, ou, og⟩ := RS_o hO ho1
      have hgl := RG_lt hR
      have hgo9 := RG_ne hR hoo
      refine h_run 2 (pc' := 102) (l' := [(0, .inr (.inr 1826)), (1, .inl (o : Int)), (2, .inl sg), (3, .inl (k : Int)), (4, .inl (g : Int)), (5, .inl (s : Int))]) (st' := [.inl 2, .inl (s : Int)]) rfl ?_
      refine h_ige (off := 80) (t := 182) rfl rfl (by omega) (by decide) (fun c24 => ?_) (fun c24 => ?_)
      · refine h_run 2 (pc' := 61) (l' := [(0, .inr (.inr 1826)), (1, .inl (o : Int)), (2, .inl sg), (3, .inl ((k : Int) + 1)), (4, .inl (g : Int)), (5, .inl (s : Int))]) (st' := []) rfl ?_
        have g25 : -2147483648 ≤ (H1.1 1826 89) ∧ (H1.1 1826 89) ≤ 2147483647 := hrg23.1 1826 13 89 _ .int rfl rfl
        refine h_loc [0, 1, 2, 3] rfl ?_
        rw [show ((k : Int) + 1) = (((k + 1) : Nat) : Int) by omega]
        exact ih.1 _ sg (k + 1) (a) (m) hf (by omega) har hsi (by omega) (RG_RW hR) hoo hso (by omega : (H1.1 1826 89) = (H.1 1826 89)) (by omega : 100000 - 10000 * (k + 1) < w)
      · obtain ⟨-, -, og1⟩ := RS_o hR.1 hoo
        obtain ⟨N, hN1, hN2, hN3⟩ := og1.1 s (by omega)
        have hN0 : 1 ≤ N := tm_le hN3
        have hs0 : (H1.1 1873) (64 * (2 * o + s)) = sg := by have h9 := hso.2 (64 * s) (by omega); rw [show 128 * o + 64 * s = 64 * (2 * o + s) by omega] at h9; rw [h9]; exact hsi s (by omega)
        have hx9 : ∀ nw : Nat → Int, (∀ x, x < N → nw x = (H1.1 1873) (64 * (2 * o + s) + x)) → tm (ma (H.1 1833) (H.1 1830)) (m_sg (H.1 1826 3) (H.1 1826 8) 60) nw (N - 1) 1 a := by intro nw hnw; obtain ⟨N9, rfl⟩ : ∃ N9, N = N9 + 1 := ⟨N - 1, by omega⟩; obtain ⟨-, -, m9, y1, -, y2⟩ := hN3; rw [hs0, har.1] at y1; rw [show 1 - 1 + m9 = a by omega] at y2; exact tm_at y2 (fun x hx => by rw [show 1 + x = x + 1 by omega, hnw (x + 1) (by omega), show 64 * (2 * o + s) + 1 + x = 64 * (2 * o + s) + (x + 1) by omega])
        refine h_run 3 (pc' := 109) (l' := [(0, .inr (.inr 1826)), (1, .inl (o : Int)), (2, .inl sg), (3, .inl (k : Int)), (4, .inl (g : Int)), (5, .inl (s : Int))]) (st' := [.inl (s : Int), .inl (o : Int), .inr (.inr 1826)]) rfl ?_
        refine h_cv (i := 569) (j := 228) (b := 1826) (M' := mt_228) (xs := [.inl (s : Int), .inl (o : Int)]) (rest := []) rfl rfl rfl rfl rfl rfl (Nat.le_of_ble_eq_true rfl) (Nat.le_of_ble_eq_true rfl) (by omega) (m_bring (k := N) (by omega) (by omega) ⟨hN1, by omega⟩) ?_
        rintro _ H26 ⟨rfl, hfH26, hzH26, hcH26⟩
        refine h_rng (fun hrg27 => ?_)
        have hf28 : fr [53, 76, 77, 89, 93, 95, 99, 101] [1847, 1856, 1871, 1872, 1873, 1874, 1875, 1876, 1877, 1878, 1879, 1880, 1881, 1882, 1883, 1884, 1885, 1887, 1888] H H26 := fr_t hf hfH26 (by decide) (by decide)
        refine h_run 0 (pc' := 112) (l' := [(0, .inr (.inr 1826)), (1, .inl (o : Int)), (2, .inl sg), (3, .inl (k : Int)), (4, .inl (g : Int)), (5, .inl (s : Int))]) (st' := []) rfl ?_
        refine h_run 4 (pc' := 118) (l' := [(0, .inr (.inr 1826)), (1, .inl (o : Int)), (2, .inl sg), (3, .inl (k : Int)), (4, .inl (g : Int)), (5, .inl (s : Int)), (6, .inl 1), (7, .inl 0)]) (st' := []) rfl ?_
        have g29 : -2147483648 ≤ (H26.1 1826 89) ∧ (H26.1 1826 89) ≤ 2147483647 := hrg27.1 1826 13 89 _ .int rfl rfl
        have e30 : (H26.1 1826 89) = (H1.1 1826 89) := hfH26.2.2 89 (by decide)
        exact ih.2.2 _ sg k g s 1 0 (a) (m) (N) hf28 (by omega) har hsi (by omega) (RG_fr0 hR hfH26 (by decide) (by decide) (by decide)) ((congrFun (hfH26.2.1 1871 (by decide) (by decide)) 0).trans hoo) (sS_tr hso (sS_fr hfH26 (by decide) o)) (by omega : (H26.1 1826 89) = (H.1 1826 89)) (by omega) (by rw [Nat.sub_zero]; exact hx9 _ (fun x hx => hcH26 x hx)) (by omega : 100000 - 10000 * k - 1000 * s - 200 - 0 < w)
    · intro H1 sg k g s fm j a m N hf hsg har hsi hk hR hoo hso hvv1 hN htn hw
      refine h_rng (fun hrg31 => ?_)
      have hQ1 : sP H H1 := sP_fr (sP_rf H) hf (by decide) (by decide)
      have hP1 : PWc H1 := PWc_fr hP hf (by decide) (by decide)
      obtain ⟨⟨pb1, pb2, pb3, pb4, pb5⟩, pw1, pw2, pw3, pw4⟩ := (id hP : PW H (H.1 1826 1) (H.1 1826 3) (H.1 1826 8) (H.1 1826 13) (H.1 1826 19))
      obtain ⟨ol, ou, og⟩ := RS_o hO ho1
      have hgl := RG_lt hR
      have hgo9 := RG_ne hR hoo
      obtain ⟨kt, k2, ke, hkt, hrest9⟩ := tm_split (n := 1) (n2 := a - j - 1) (by rw [show 1 + (a - j - 1) = a - j by omega]; exact htn)
      have hrest : tm (ma (H.1 1833) (H.1 1830)) (m_sg (H.1 1826 3) (H.1 1826 8) 60) (H1.1 1884) (N - (fm + kt)) (fm + kt) (a - (j + 1)) := by rw [show N - (fm + kt) = k2 by omega, show a - (j + 1) = a - j - 1 by omega]; exact hrest9
      have hkt1 : 1 ≤ kt := tm_le hkt
      refine h_run 2 (pc' := 121) (l' := [(0, .inr (.inr 1826)), (1, .inl (o : Int)), (2, .inl sg), (3, .inl (k : Int)), (4, .inl (g : Int)), (5, .inl (s : Int)), (6, .inl (fm : Int)), (7, .inl (j : Int))]) (st' := [.inl (k : Int), .inl (j : Int)]) rfl ?_
      refine h_ige (off := 21) (t := 142) rfl rfl (by omega) (by omega) (fun c32 => ?_) (fun c32 => ?_)
      · refine h_run 2 (pc' := 144) (l' := [(0, .inr (.inr 1826)), (1, .inl (o : Int)), (2, .inl sg), (3, .inl (k : Int)), (4, .inl (g : Int)), (5, .inl (s : Int)), (6, .inl (fm : Int)), (7, .inl (j : Int))]) (st' := [.inl 0, .inr (.inr 1826)]) rfl ?_
        refine h_puti (i := 437) (ci := 13) (k := 53) (a := 1826) (x := 0) rfl rfl rfl rfl rfl rfl (by decide) (by decide) ?_
        refine h_run 8 (pc' := 161) (l' := [(0, .inr (.inr 1826)), (1, .inl (o : Int)), (2, .inl sg), (3, .inl (k : Int)), (4, .inl (g : Int)), (5, .inl (s : Int)), (6, .inl (fm : Int)), (7, .inl (j : Int))]) (st' := [.inl (fm : Int), .inr (.inr 1884), .inr (.inr 1826), .inl (fm : Int), .inr (.inr 1884), .inr (.inr 1826)]) rfl ?_
        refine h_cv (i := 427) (j := 155) (b := 1826) (M' := mt_155) (xs := [.inl (fm : Int), .inr (.inr 1884)]) (rest := [.inl (fm : Int), .inr (.inr 1884), .inr (.inr 1826)]) rfl rfl rfl rfl rfl rfl (Nat.le_of_ble_eq_true rfl) (Nat.le_of_ble_eq_true rfl) (by omega) (m_behind (by omega) (n := 128) (a := fm) (k := kt) rfl (by decide) (show tm (ma (H1.1 1833) (H1.1 1830)) sg0 (H1.1 1884) kt fm 1 by rw [hQ1.1, hQ1.2.1]; exact tm_sg0 hkt (fun s9 h9 => by unfold m_sg at h9; unfold sg0; omega)) (by omega)) ?_
        rintro _ _ ⟨rfl, rfl⟩
        refine h_run 0 (pc' := 164) (l' := [(0, .inr (.inr 1826)), (1, .inl (o : Int)), (2, .inl sg), (3, .inl (k : Int)), (4, .inl (g : Int)), (5, .inl (s : Int)), (6, .inl (fm : Int)), (7, .inl (j : Int))]) (st' := [.inl ((fm + kt : Nat) : Int), .inl (fm : Int), .inr (.inr 1884), .inr (.inr 1826)]) rfl ?_
        refine h_cv (i := 440) (j := 198) (b := 1826) (M' := mt_198) (xs := [.inl ((fm + kt : Nat) : Int), .inl (fm : Int), .inr (.inr 1884)]) (rest := []) rfl rfl rfl rfl rfl rfl (Nat.le_of_ble_eq_true rfl) (Nat.le_of_ble_eq_true rfl) (by omega) (m_copy (c := 1884) (n := 128) (a := fm) (e := fm + kt) (ms := 0) (by omega) rfl (by decide) (by decide) (by omega) ⟨(show (0 : Int) = ((0 : Nat) : Int) by rfl), by omega⟩) ?_
        rintro _ H33 ⟨rfl, hfH33, hzH33, hkH33, hcH33⟩
        refine h_rng (fun hrg34 => ?_)
        have hf35 : fr [53, 76, 77, 89, 93, 95, 99, 101] [1847, 1856, 1871, 1872, 1873, 1874, 1875, 1876, 1877, 1878, 1879, 1880, 1881, 1882, 1883, 1884, 1885, 1887, 1888] H H33 := fr_t (fr_o hf (by decide)) hfH33 (by decide) (by decide)
        have tdH33 : tm (ma (H.1 1833) (H.1 1830)) (m_sg (H.1 1826 3) (H.1 1826 8) 60) (H33.1 1856) kt 0 1 := tm_at hkt (fun x hx => by have h9 := hcH33 x (by omega); rw [Nat.zero_add] at h9 ⊢; exact h9)
        refine h_run 0 (pc' := 167) (l' := [(0, .inr (.inr 1826)), (1, .inl (o : Int)), (2, .inl sg), (3, .inl (k : Int)), (4, .inl (g : Int)), (5, .inl (s : Int)), (6, .inl (fm : Int)), (7, .inl (j : Int))]) (st' := []) rfl ?_
        refine h_run 3 (pc' := 172) (l' := [(0, .inr (.inr 1826)), (1, .inl (o : Int)), (2, .inl sg), (3, .inl (k : Int)), (4, .inl (g : Int)), (5, .inl (s : Int)), (6, .inl (fm : Int)), (7, .inl (j : Int))]) (st' := [.inl (s : Int), .inl (g : Int), .inr (.inr 1826)]) rfl ?_
        refine h_cv (i := 575) (j := 229) (b := 1826) (M' := mt_229) (xs := [.inl (s : Int), .inl (g : Int)]) (rest := []) rfl rfl rfl rfl rfl rfl (Nat.le_of_ble_eq_true rfl) (Nat.le_of_ble_eq_true rfl) (by omega) (m_isKept1 (M := kt) (by omega) (by omega) ⟨by have h9 := hzH33; omega, by omega⟩) ?_
        rintro _ H36 ⟨⟨rH36, rfl⟩, hfH36, hzH36, hcH36, hoH36⟩
        refine h_rng (fun hrg37 => ?_)
        have hf38 : fr [53, 76, 77, 89, 93, 95, 99, 101] [1847, 1856, 1871, 1872, 1873, 1874, 1875, 1876, 1877, 1878, 1879, 1880, 1881, 1882, 1883, 1884, 1885, 1887, 1888] H H36 := fr_t hf35 hfH36 (by decide) (by decide)
        have xH36 : RG H H33 n m g 1 := (RG_fr0 (RG_fr0 hR (show fr [53] [] H1 (zu H1 1826 (up (H1.1 1826) 53 0)) from (fr_o (fr_rf _ _ _) (by decide))) (by decide) (by decide) (by decide)) hfH33 (by decide) (by decide) (by decide))
        have hRGH36 : RG H H36 n m g 1 := RG_fr xH36 hfH36 (by decide) (by decide) (fun x hx => ⟨sS_kept (by omega) hzH36 hoH36 x hx, sH_fr hfH36 (by decide) x⟩) (fun _ => ⟨fun t ht => by by_cases e9 : t = s; { rw [e9]; exact sOK_kept (by omega) hzH36 hcH36 (tdH33) }; { exact sOK_oth ((xH36.2.2.2.2 rfl).1 t ht) e9 hzH36 hoH36 }, hys_s (xH36.2.2.2.2 rfl).2 (sH_fr hfH36 (by decide) g)⟩)
        have hooH36 : (H36.1 1871) 0 = (o : Int) := by have yH33 : (H33.1 1871) 0 = (H1.1 1871) 0 := congrFun (hfH33.2.1 1871 (by decide) (by decide)) 0; have yH36 : (H36.1 1871) 0 = (H33.1 1871) 0 := congrFun (hfH36.2.1 1871 (by decide) (by decide)) 0; omega
        refine h_run 0 (pc' := 175) (l' := [(0, .inr (.inr 1826)), (1, .inl (o : Int)), (2, .inl sg), (3, .inl (k : Int)), (4, .inl (g : Int)), (5, .inl (s : Int)), (6, .inl (fm : Int)), (7, .inl (j : Int))]) (st' := [.inl rH36]) rfl ?_
        refine h_run 3 (pc' := 99) (l' := [(0, .inr (.inr 1826)), (1, .inl (o : Int)), (2, .inl sg), (3, .inl (k : Int)), (4, .inl (g : Int)), (5, .inl ((s : Int) + 1)), (6, .inl (fm : Int)), (7, .inl (j : Int))]) (st' := []) rfl ?_
        have g39 : -2147483648 ≤ (H36.1 1826 89) ∧ (H36.1 1826 89) ≤ 2147483647 := hrg37.1 1826 13 89 _ .int rfl rfl
        have e40 : (H36.1 1826 89) = (H33.1 1826 89) := hfH36.2.2 89 (by decide)
        have e41 : (H33.1 1826 89) = (H1.1 1826 89) := hfH33.2.2 89 (by decide)
        refine h_loc [0, 1, 2, 3, 4, 5] rfl ?_
        rw [show ((s : Int) + 1) = (((s + 1) : Nat) : Int) by omega]
        exact ih.2.1 _ sg k g (s + 1) (a) (m) hf38 (by omega) har hsi (by omega) hRGH36 hooH36 (sS_tr (sS_tr hso (sS_fr hfH33 (by decide) o)) (sS_kept (by omega) hzH36 hoH36 o (fun q9 => hgo9 q9.symm))) (by omega : (H36.1 1826 89) = (H.1 1826 89)) (by omega : 100000 - 10000 * k - 1000 * (s + 1) - 100 < w)
      · refine h_run 4 (pc' := 131) (l' := [(0, .inr (.inr 1826)), (1, .inl (o : Int)), (2, .inl sg), (3, .inl (k : Int)), (4, .inl (g : Int)), (5, .inl (s : Int)), (6, .inl (fm : Int)), (7, .inl (j : Int))]) (st' := [.inl (fm : Int), .inr (.inr 1884), .inr (.inr 1826)]) rfl ?_
        refine h_cv (i := 427) (j := 155) (b := 1826) (M' := mt_155) (xs := [.inl (fm : Int), .inr (.inr 1884)]) (rest := []) rfl rfl rfl rfl rfl rfl (Nat.le_of_ble_eq_true rfl) (Nat.le_of_ble_eq_true rfl) (by omega) (m_behind (by omega) (n := 128) (a := fm) (k := kt) rfl (by decide) (by rw [hQ1.1, hQ1.2.1]; exact tm_sg0 hkt (fun s9 h9 => by unfold m_sg at h9; unfold sg0; omega)) (by omega)) ?_
        rintro _ _ ⟨rfl, rfl⟩
        refine h_run 0 (pc' := 134) (l' := [(0, .inr (.inr 1826)), (1, .inl (o : Int)), (2, .inl sg), (3, .inl (k : Int)), (4, .inl (g : Int)), (5, .inl (s : Int)), (6, .inl (fm : Int)), (7, .inl (j : Int))]) (st' := [.inl ((fm + kt : Nat) : Int)]) rfl ?_
        refine h_run 3 (pc' := 118) (l' := [(0, .inr (.inr 1826)), (1, .inl (o : Int)), (2, .inl sg), (3, .inl (k : Int)), (4, .inl (g : Int)), (5, .inl (s : Int)), (6, .inl ((fm + kt : Nat) : Int)), (7, .inl ((j : Int) + 1))]) (st' := []) rfl ?_
        have g42 : -2147483648 ≤ (H1.1 1826 89) ∧ (H1.1 1826 89) ≤ 2147483647 := hrg31.1 1826 13 89 _ .int rfl rfl
        rw [show ((j : Int) + 1) = (((j + 1) : Nat) : Int) by omega]
        exact ih.2.2 _ sg k g s (fm + kt) (j + 1) (a) (m) (N) hf (by omega) har hsi (by omega) hR hoo hso (by omega : (H1.1 1826 89) = (H.1 1826 89)) (by omega) hrest (by omega : 100000 - 10000 * k - 1000 * s - 200 - (j + 1) < w)
set_option maxRecDepth 100000 in
theorem m_parts {zC : Nat → Option zsh} {d : Nat} (hd : 4 ≤ d) {H : hp} {n o : Nat} (hP : PWc H) (hO : OS H H n) (hvv : 0 ≤ (H.1 1826 89) ∧ (H.1 1826 89) ≤ 60) (hpr : 0 ≤ (H.1 1826 74) ∧ (H.1 1826 74) < 16) (ho1 : (H.1 1871) 0 = (o : Int)) : hG (zs zC) d mt_262 0 (zargs 0 [.inr (.inr 1826)]) [] H (fun r9 H2 => fr [53, 76, 77, 89, 93, 95, 99, 101] [1847, 1856, 1871, 1872, 1873, 1874, 1875, 1876, 1877, 1878, 1879, 1880, 1881, 1882, 1883, 1884, 1885, 1887, 1888] H H2 ∧ (0 ≤ (H2.1 1871) 0 ∧ (H2.1 1871) 0 < 40) ∧ (0 ≤ (H2.1 1826 89) ∧ (H2.1 1826 89) ≤ 60) ∧ (((r9 = some (.inl (-104)) ∧ OS H H2 n) ∨ (r9 = some (.inl (-105)) ∧ OS H H2 n)) ∨ ∃ n2 : Nat, r9 = some (.inl (n2 : Int)) ∧ (H2.1 1826 77) = (n2 : Int) ∧ (n2 = 0 ∨ OS H H2 n2))) := by
  refine h_rng (fun hrg0 => ?_)
  refine h_run 0 (pc' := 0) (l' := [(0, .inr (.inr 1826))]) (st' := []) rfl ?_
  obtain ⟨⟨pb1, pb2, pb3, pb4, pb5⟩, pw1, pw2, pw3, pw4⟩ := (id hP : PW H (H.1 1826 1) (H.1 1826 3) (H.1 1826 8) (H.1 1826 13) (H.1 1826 19))
  obtain ⟨ol, ou, og⟩ := RS_o hO ho1
  obtain ⟨N0, a1, a2, a3⟩ := og.1 0 (by omega)
  obtain ⟨N1, b1, b2, b3⟩ := og.1 1 (by omega)
  rw [Nat.add_zero] at a1 a3
  have hnn := hO.1
  have hN0 : 1 ≤ N0 := tm_le a3
  have hN1 : 1 ≤ N1 := tm_le b3
  have z1 := tm_ok a3 0 (by omega)
  rw [Nat.add_zero] at z1
  unfold m_sg at z1
  refine h_run 1 (pc' := 1) (l' := [(0, .inr (.inr 1826))]) (st' := [.inr (.inr 1826)]) rfl ?_
  have g43 : -2147483648 ≤ (H.1 1826 77) ∧ (H.1 1826 77) ≤ 2147483647 := hrg0.1 1826 13 77 _ .int rfl rfl
  refine h_cv (i := 563) (j := 235) (b := 1826) (M' := mt_235) (xs := []) (rest := []) rfl rfl rfl rfl rfl rfl (Nat.le_of_ble_eq_true rfl) (Nat.le_of_ble_eq_true rfl) (by omega) (m_idle (by omega)) ?_
  rintro _ _ ⟨⟨rfl, b44⟩ | ⟨rfl, b44⟩, rfl⟩
  · have b44x : (H.1 1826 77) = 0 := b44
    refine h_run 0 (pc' := 4) (l' := [(0, .inr (.inr 1826))]) (st' := [.inl 1]) rfl ?_
    refine h_zeq (off := 6) (t := 10) rfl rfl (by decide) (fun c => absurd c (by decide)) (fun _ => ?_)
    refine h_run 1 (pc' := 9) (l' := [(0, .inr (.inr 1826))]) (st' := [.inl (-103)]) rfl ?_
    refine h_reti (x := (-103)) rfl rfl ?_
    exfalso
    omega
  · have b44x : (H.1 1826 77) ≠ 0 := b44
    refine h_run 0 (pc' := 4) (l' := [(0, .inr (.inr 1826))]) (st' := [.inl 0]) rfl ?_
    refine h_zeq (off := 6) (t := 10) rfl rfl (by decide) (fun _ => ?_) (fun c => absurd c (by decide))
    refine h_run 3 (pc' := 15) (l' := [(0, .inr (.inr 1826))]) (st' := [.inl 0, .inr (.inr 1871)]) rfl ?_
    refine h_ild (c := 1871) (j := 0) (i := 0) rfl rfl (by decide) rfl (by omega) ?_
    have g45 : -2147483648 ≤ (H.1 1871 0) ∧ (H.1 1871 0) ≤ 2147483647 := hrg0.2 1871 0 13 .int rfl (by omega)
    refine h_run 0 (pc' := 16) (l' := [(0, .inr (.inr 1826))]) (st' := [.inl (H.1 1871 0)]) rfl ?_
    rw [show (H.1 1871 0) = (o : Int) by omega]
    refine h_run 6 (pc' := 24) (l' := [(0, .inr (.inr 1826)), (1, .inl (o : Int))]) (st' := [.inl 0, .inl (o : Int), .inr (.inr 1826), .inr (.inr 1873)]) rfl ?_
    refine h_cv (i := 528) (j := 221) (b := 1826) (M' := mt_221) (xs := [.inl 0, .inl (o : Int)]) (rest := [.inr (.inr 1873)]) rfl rfl rfl rfl rfl rfl (Nat.le_of_ble_eq_true rfl) (Nat.le_of_ble_eq_true rfl) (by omega) (m_sideAt (by omega)) ?_
    rintro _ _ ⟨rfl, rfl⟩
    refine h_run 0 (pc' := 27) (l' := [(0, .inr (.inr 1826)), (1, .inl (o : Int))]) (st' := [.inl (64 * ((2 * (o : Int)) + 0)), .inr (.inr 1873)]) rfl ?_
    obtain ⟨x1, hx1⟩ : ∃ x9 : Nat, x9 = 64 * (2 * o) := ⟨_, rfl⟩
    rw [show (64 * ((2 * (o : Int)) + 0)) = ((x1 : Nat) : Int) from (by omega)]
    refine h_ild (c := 1873) (j := x1) (i := (x1 : Int)) rfl rfl (by decide) rfl (by omega) ?_
    have g46 : -2147483648 ≤ (H.1 1873 x1) ∧ (H.1 1873 x1) ≤ 2147483647 := hrg0.2 1873 x1 5120 .int rfl (by omega)
    refine h_run 0 (pc' := 28) (l' := [(0, .inr (.inr 1826)), (1, .inl (o : Int))]) (st' := [.inl (H.1 1873 x1)]) rfl ?_
    refine h_run 2 (pc' := 30) (l' := [(0, .inr (.inr 1826)), (1, .inl (o : Int)), (2, .inl (H.1 1873 x1))]) (st' := [.inl (H.1 1873 x1)]) rfl ?_
    refine h_cs (i := 431) (j := 157) (M' := mt_157) (xs := [.inl (H.1 1873 x1)]) (rest := []) rfl rfl rfl rfl rfl (Nat.le_of_ble_eq_true rfl) (Nat.le_of_ble_eq_true rfl) (by omega) (m_isCon (by omega) (by omega)) ?_
    rintro _ _ ⟨⟨rfl, b47⟩ | ⟨rfl, b47⟩, rfl⟩
    · refine h_run 0 (pc' := 33) (l' := [(0, .inr (.inr 1826)), (1, .inl (o : Int)), (2, .inl (H.1 1873 x1))]) (st' := [.inl 1]) rfl ?_
      refine h_zeq (off := 18) (t := 51) rfl rfl (by decide) (fun c => absurd c (by decide)) (fun _ => ?_)
      refine h_run 5 (pc' := 43) (l' := [(0, .inr (.inr 1826)), (1, .inl (o : Int)), (2, .inl (H.1 1873 x1))]) (st' := [.inl 1, .inl (o : Int), .inr (.inr 1826), .inr (.inr 1873)]) rfl ?_
      refine h_cv (i := 528) (j := 221) (b := 1826) (M' := mt_221) (xs := [.inl 1, .inl (o : Int)]) (rest := [.inr (.inr 1873)]) rfl rfl rfl rfl rfl rfl (Nat.le_of_ble_eq_true rfl) (Nat.le_of_ble_eq_true rfl) (by omega) (m_sideAt (by omega)) ?_
      rintro _ _ ⟨rfl, rfl⟩
      refine h_run 0 (pc' := 46) (l' := [(0, .inr (.inr 1826)), (1, .inl (o : Int)), (2, .inl (H.1 1873 x1))]) (st' := [.inl (64 * ((2 * (o : Int)) + 1)), .inr (.inr 1873)]) rfl ?_
      obtain ⟨x2, hx2⟩ : ∃ x9 : Nat, x9 = 64 * (2 * o + 1) := ⟨_, rfl⟩
      rw [show (64 * ((2 * (o : Int)) + 1)) = ((x2 : Nat) : Int) from (by omega)]
      refine h_ild (c := 1873) (j := x2) (i := (x2 : Int)) rfl rfl (by decide) rfl (by omega) ?_
      have g48 : -2147483648 ≤ (H.1 1873 x2) ∧ (H.1 1873 x2) ≤ 2147483647 := hrg0.2 1873 x2 5120 .int rfl (by omega)
      refine h_run 0 (pc' := 47) (l' := [(0, .inr (.inr 1826)), (1, .inl (o : Int)), (2, .inl (H.1 1873 x1))]) (st' := [.inl (H.1 1873 x2)]) rfl ?_
      refine h_run 1 (pc' := 48) (l' := [(0, .inr (.inr 1826)), (1, .inl (o : Int)), (2, .inl (H.1 1873 x1))]) (st' := [.inl (H.1 1873 x1), .inl (H.1 1873 x2)]) rfl ?_
      refine h_ieq (off := 6) (t := 54) rfl rfl (by omega) (by omega) (fun c49 => ?_) (fun c49 => ?_)
      · refine h_run 2 (pc' := 56) (l' := [(0, .inr (.inr 1826)), (1, .inl (o : Int)), (2, .inl (H.1 1873 x1))]) (st' := [.inl 0, .inr (.inr 1826)]) rfl ?_
        refine h_puti (i := 553) (ci := 13) (k := 95) (a := 1826) (x := 0) rfl rfl rfl rfl rfl rfl (by decide) (by decide) ?_
        have z2 := z1
        rw [← hx1] at z2
        obtain ⟨ar, har1⟩ : ∃ ar : Nat, ma (H.1 1833) (H.1 1830) (H.1 1873 x1) = (ar : Int) := ⟨(ma (H.1 1833) (H.1 1830) (H.1 1873 x1)).toNat, by have h9 := ma_nn hP (s := (H.1 1873 x1)) (Or.inr (Or.inl ⟨by omega, by omega⟩)); omega⟩
        have hmx := har1
        have ha3 : ar ≤ 3 := by have h9 := (pw1 ((H.1 1873 x1) - 1).toNat (by omega)).1; rw [ma_c (by omega)] at har1; omega
        have hsi9 : ∀ s, s < 2 → (H.1 1873) (64 * (2 * o + s)) = (H.1 1873 x1) := by intro s hs; rcases (show s = 0 ∨ s = 1 by omega) with rfl | rfl; { rw [Nat.add_zero, ← hx1] }; { rw [← hx2]; omega }
        refine h_run 2 (pc' := 61) (l' := [(0, .inr (.inr 1826)), (1, .inl (o : Int)), (2, .inl (H.1 1873 x1)), (3, .inl 0)]) (st' := []) rfl ?_
        have g50 : -2147483648 ≤ (H.1 1826 89) ∧ (H.1 1826 89) ≤ 2147483647 := hrg0.1 1826 13 89 _ .int rfl rfl
        exact (m_parts_cut hd hP hO hvv hpr ho1 _).1 _ (H.1 1873 x1) 0 (ar) (0) (fr_o (fr_rf _ _ _) (by decide)) (by omega) ⟨hmx, ha3⟩ hsi9 (by omega) (RW_begin hO (show fr [95] [] H (zu H 1826 (up (H.1 1826) 95 0)) from (fr_o (fr_rf _ _ _) (by decide))) (by decide) (by decide) (by decide) rfl 1) ho1 (sS_rf H o) (by omega : (H.1 1826 89) = (H.1 1826 89)) (Nat.lt_succ_self _)
      · refine h_run 1 (pc' := 53) (l' := [(0, .inr (.inr 1826)), (1, .inl (o : Int)), (2, .inl (H.1 1873 x1))]) (st' := [.inl (-104)]) rfl ?_
        refine h_reti (x := (-104)) rfl rfl ?_
        exact ⟨(fr_rf _ _ _), (by rw [ho1]; omega), hvv, Or.inl (Or.inl ⟨rfl, hO⟩)⟩
    · refine h_run 0 (pc' := 33) (l' := [(0, .inr (.inr 1826)), (1, .inl (o : Int)), (2, .inl (H.1 1873 x1))]) (st' := [.inl 0]) rfl ?_
      refine h_zeq (off := 18) (t := 51) rfl rfl (by decide) (fun _ => ?_) (fun c => absurd c (by decide))
      refine h_run 1 (pc' := 53) (l' := [(0, .inr (.inr 1826)), (1, .inl (o : Int)), (2, .inl (H.1 1873 x1))]) (st' := [.inl (-104)]) rfl ?_
      refine h_reti (x := (-104)) rfl rfl ?_
      exact ⟨(fr_rf _ _ _), (by rw [ho1]; omega), hvv, Or.inl (Or.inl ⟨rfl, hO⟩)⟩
