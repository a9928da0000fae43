/-! the reference works out what the tape has -/
/-! work -/
set_option maxRecDepth 100000 in
theorem m_work_cut {zC : Nat → Option zsh} {d : Nat} (hd : 9 ≤ d) {H : hp} {x : Int} (hx : -2147483648 ≤ x ∧ x ≤ 2147483647) (ht : 0 ≤ (H.1 1826 28) ∧ (H.1 1826 28) ≤ 1000) (hst : 0 ≤ (H.1 1826 32) ∧ (H.1 1826 32) ≤ 1000) (hP : PWc H) : ∀ w : Nat, (∀ (H1 : hp) (k : Nat) (i : Nat), (fr [28, 29, 30, 31, 32, 33, 34, 35, 36, 39, 40, 41, 43, 44, 47, 50, 51, 53, 55, 56, 57, 59] [1849, 1850, 1851, 1852, 1853, 1854, 1855, 1856, 1857, 1858, 1859, 1860] H H1) → ((H1.1 1826 55) = ((k : Nat) : Int) ∧ (H1.1 1826 43) = ((k : Nat) : Int) ∧ k ≤ 40) → ((H1.1 1826 28) = 0) → (0 ≤ (H1.1 1826 32) ∧ (H1.1 1826 32) ≤ 1000) → (0 ≤ x ∧ x ≤ 2000) → (i ≤ k) → (tm (ma (H.1 1833) (H.1 1830)) (m_sg (H.1 1826 3) (H.1 1826 8) 0) (H1.1 1851) k 0 1) → (∀ x, x < i → (H1.1 1857) (0 + x) = (H1.1 1851) x) → k - i < w → hG (zs zC) d mt_201 98 [(0, .inr (.inr 1826)), (1, .inl x), (2, .inl (i : Int))] [] H1 (fun r9 H2 => (∃ r0 : Int, r9 = some (.inl r0)) ∧ fr [28, 29, 30, 31, 32, 33, 34, 35, 36, 39, 40, 41, 43, 44, 47, 50, 51, 53, 55, 56, 57, 59] [1849, 1850, 1851, 1852, 1853, 1854, 1855, 1856, 1857, 1858, 1859, 1860] H H2 ∧ (H2.1 1826 28) = 0 ∧ (0 ≤ (H2.1 1826 32) ∧ (H2.1 1826 32) ≤ 1000))) := by
  intro w
  induction w with
  | zero => exact fun _ _ _ _ _ _ _ _ _ _ _ h => absurd h (Nat.not_lt_zero _)
  | succ w ih =>
    intro H1 k i hf hz htp hst1 hxr hi hrt hcp hw
    refine h_rng (fun hrg1 => ?_)
    obtain ⟨⟨pb1, pb2, pb3, pb4, pb5⟩, pw1, pw2, pw3, pw4⟩ := (id hP : PW H (H.1 1826 1) (H.1 1826 3) (H.1 1826 8) (H.1 1826 13) (H.1 1826 19))
    have e_funArity : (H1.1 1833) = (H.1 1833) := hf.2.1 1833 (by decide) (by decide)
    have e_conArity : (H1.1 1830) = (H.1 1830) := hf.2.1 1830 (by decide) (by decide)
    have f_cons : (H1.1 1826 3) = (H.1 1826 3) := hf.2.2 3 (by decide)
    have f_funs : (H1.1 1826 8) = (H.1 1826 8) := hf.2.2 8 (by decide)
    have hP1 := PWc_fr hP hf (by decide) (by decide)
    refine h_run 3 (pc' := 103) (l' := [(0, .inr (.inr 1826)), (1, .inl x), (2, .inl (i : Int))]) (st' := [.inl (H1.1 1826 43), .inl (i : Int)]) rfl ?_
    have g2 : -2147483648 ≤ (H1.1 1826 43) ∧ (H1.1 1826 43) ≤ 2147483647 := hrg1.1 1826 13 43 _ .int rfl rfl
    refine h_ige (off := 21) (t := 124) rfl rfl (by omega) (by omega) (fun c3 => ?_) (fun c3 => ?_)
    · refine h_run 2 (pc' := 126) (l' := [(0, .inr (.inr 1826)), (1, .inl x), (2, .inl (i : Int))]) (st' := [.inl x, .inr (.inr 1826)]) rfl ?_
      refine h_cv (i := 460) (j := 200) (b := 1826) (M' := mt_200) (xs := [.inl x]) (rest := []) rfl rfl rfl rfl rfl rfl (Nat.le_of_ble_eq_true rfl) (Nat.le_of_ble_eq_true rfl) (by omega) (m_run (by omega) (N := k) (by omega) hP1 (by omega : (H1.1 1826 55) = ((k : Nat) : Int) ∧ k ≤ 240) (by rw [e_funArity, e_conArity, f_cons, f_funs]; exact tm_at hrt (fun x hx => by rw [hcp x (by omega), Nat.zero_add]))) ?_
      rintro _ H4 ⟨hx4f, hx4r, rfl, hx4b, ⟨hx4M, hx4z, hx4m, hx4t⟩, hx4k⟩
      refine h_rng (fun hrg5 => ?_)
      have hf6 : fr [28, 29, 30, 31, 32, 33, 34, 35, 36, 39, 40, 41, 43, 44, 47, 50, 51, 53, 55, 56, 57, 59] [1849, 1850, 1851, 1852, 1853, 1854, 1855, 1856, 1857, 1858, 1859, 1860] H H4 := fr_t hf hx4f (by decide) (by decide)
      refine h_run 0 (pc' := 129) (l' := [(0, .inr (.inr 1826)), (1, .inl x), (2, .inl (i : Int))]) (st' := [.inl hx4r]) rfl ?_
      refine h_run 4 (pc' := 135) (l' := [(0, .inr (.inr 1826)), (1, .inl x), (2, .inl hx4r)]) (st' := [.inl (H4.1 1826 56), .inr (.inr 1826)]) rfl ?_
      have g7 : -2147483648 ≤ (H4.1 1826 56) ∧ (H4.1 1826 56) ≤ 2147483647 := hrg5.1 1826 13 56 _ .int rfl rfl
      refine h_puti (i := 463) (ci := 13) (k := 57) (a := 1826) (x := (H4.1 1826 56)) rfl rfl rfl rfl rfl rfl (by decide) (by omega) ?_
      refine h_run 4 (pc' := 144) (l' := [(0, .inr (.inr 1826)), (1, .inl x), (2, .inl hx4r)]) (st' := [.inl 0, .inr (.inr 1857), .inr (.inr 1826)]) rfl ?_
      refine h_cv (i := 466) (j := 206) (b := 1826) (M' := mt_206) (xs := [.inl 0, .inr (.inr 1857)]) (rest := []) rfl rfl rfl rfl rfl rfl (Nat.le_of_ble_eq_true rfl) (Nat.le_of_ble_eq_true rfl) (by omega) (m_print (by omega) (c := 1857) (n := 400) (k := hx4M) (ok := m_sg (H1.1 1826 3) (H1.1 1826 8) 0) rfl (by decide) (by decide) (fun s9 h9 => by unfold m_sg at h9; unfold sg0; omega) (PWc_o (PWc_fr hP1 hx4f (by decide) (by decide)) (by decide)) (by show tm (ma (H4.1 1833) (H4.1 1830)) (m_sg (H1.1 1826 3) (H1.1 1826 8) 0) (H4.1 1857) hx4M 0 1; rw [show (H4.1 1833) = (H1.1 1833) from hx4f.2.1 1833 (by decide) (by decide), show (H4.1 1830) = (H1.1 1830) from hx4f.2.1 1830 (by decide) (by decide)]; exact hx4t) (by omega)) ?_
      rintro _ H8 ⟨rfl, hx8f⟩
      refine h_rng (fun hrg9 => ?_)
      have hf10 : fr [28, 29, 30, 31, 32, 33, 34, 35, 36, 39, 40, 41, 43, 44, 47, 50, 51, 53, 55, 56, 57, 59] [1849, 1850, 1851, 1852, 1853, 1854, 1855, 1856, 1857, 1858, 1859, 1860] H H8 := fr_t (fr_o hf6 (by decide)) hx8f (by decide) (by decide)
      refine h_run 0 (pc' := 147) (l' := [(0, .inr (.inr 1826)), (1, .inl x), (2, .inl hx4r)]) (st' := []) rfl ?_
      refine h_run 1 (pc' := 148) (l' := [(0, .inr (.inr 1826)), (1, .inl x), (2, .inl hx4r)]) (st' := [.inl hx4r]) rfl ?_
      refine h_reti (x := hx4r) rfl rfl ?_
      have g11 : -2147483648 ≤ (H8.1 1826 28) ∧ (H8.1 1826 28) ≤ 2147483647 := hrg9.1 1826 13 28 _ .int rfl rfl
      have e12 : (H8.1 1826 28) = (H4.1 1826 28) := hx8f.2.2 28 (by decide)
      have e13 : (H4.1 1826 28) = (H1.1 1826 28) := hx4f.2.2 28 (by decide)
      have g14 : -2147483648 ≤ (H8.1 1826 32) ∧ (H8.1 1826 32) ≤ 2147483647 := hrg9.1 1826 13 32 _ .int rfl rfl
      have e15 : (H8.1 1826 32) = (H4.1 1826 32) := hx8f.2.2 32 (by decide)
      have e16 : (H4.1 1826 32) = (H1.1 1826 32) := hx4f.2.2 32 (by decide)
      exact ⟨⟨_, rfl⟩, hf10, (by omega : (H8.1 1826 28) = 0), (by omega : 0 ≤ (H8.1 1826 32) ∧ (H8.1 1826 32) ≤ 1000)⟩
    · refine h_run 6 (pc' := 116) (l' := [(0, .inr (.inr 1826)), (1, .inl x), (2, .inl (i : Int))]) (st' := [.inl (i : Int), .inr (.inr 1851), .inl (i : Int), .inr (.inr 1857)]) rfl ?_
      refine h_ild (c := 1851) (j := i) (i := (i : Int)) rfl rfl (by decide) rfl (by omega) ?_
      have g17 : -2147483648 ≤ (H1.1 1851 i) ∧ (H1.1 1851 i) ≤ 2147483647 := hrg1.2 1851 i 48 .int rfl (by omega)
      refine h_run 0 (pc' := 117) (l' := [(0, .inr (.inr 1826)), (1, .inl x), (2, .inl (i : Int))]) (st' := [.inl (H1.1 1851 i), .inl (i : Int), .inr (.inr 1857)]) rfl ?_
      refine h_ist (c := 1857) (j := i) (i := (i : Int)) (x := (H1.1 1851 i)) rfl rfl (by decide) (by decide) rfl (by omega) (by omega) ?_
      refine h_run 2 (pc' := 98) (l' := [(0, .inr (.inr 1826)), (1, .inl x), (2, .inl ((i : Int) + 1))]) (st' := []) rfl ?_
      have g18 : -2147483648 ≤ (H1.1 1826 55) ∧ (H1.1 1826 55) ≤ 2147483647 := hrg1.1 1826 13 55 _ .int rfl rfl
      have g19 : -2147483648 ≤ (H1.1 1826 28) ∧ (H1.1 1826 28) ≤ 2147483647 := hrg1.1 1826 13 28 _ .int rfl rfl
      have g20 : -2147483648 ≤ (H1.1 1826 32) ∧ (H1.1 1826 32) ≤ 2147483647 := hrg1.1 1826 13 32 _ .int rfl rfl
      rw [show ((i : Int) + 1) = (((i + 1) : Nat) : Int) by omega]
      exact ih _ (k) (i + 1) (fr_a hf (by decide)) (by omega : (H1.1 1826 55) = (((k) : Nat) : Int) ∧ (H1.1 1826 43) = (((k) : Nat) : Int) ∧ (k) ≤ 40) (by omega : (H1.1 1826 28) = 0) (by omega : 0 ≤ (H1.1 1826 32) ∧ (H1.1 1826 32) ≤ 1000) (by omega) (by omega) hrt (by have h9 := cp_up hcp; rw [Nat.zero_add] at h9; exact h9) (by omega : (k) - (i + 1) < w)
set_option maxRecDepth 100000 in
theorem m_work {zC : Nat → Option zsh} {d : Nat} (hd : 9 ≤ d) {H : hp} {x : Int} (hx : -2147483648 ≤ x ∧ x ≤ 2147483647) (ht : 0 ≤ (H.1 1826 28) ∧ (H.1 1826 28) ≤ 1000) (hst : 0 ≤ (H.1 1826 32) ∧ (H.1 1826 32) ≤ 1000) (hP : PWc H) : hG (zs zC) d mt_201 0 (zargs 0 [.inr (.inr 1826), .inl x]) [] H (fun r9 H2 => (∃ r0 : Int, r9 = some (.inl r0)) ∧ fr [28, 29, 30, 31, 32, 33, 34, 35, 36, 39, 40, 41, 43, 44, 47, 50, 51, 53, 55, 56, 57, 59] [1849, 1850, 1851, 1852, 1853, 1854, 1855, 1856, 1857, 1858, 1859, 1860] H H2 ∧ (H2.1 1826 28) = 0 ∧ (0 ≤ (H2.1 1826 32) ∧ (H2.1 1826 32) ≤ 1000)) := by
  refine h_rng (fun hrg0 => ?_)
  refine h_run 0 (pc' := 0) (l' := [(0, .inr (.inr 1826)), (1, .inl x)]) (st' := []) rfl ?_
  obtain ⟨⟨pb1, pb2, pb3, pb4, pb5⟩, pw1, pw2, pw3, pw4⟩ := (id hP : PW H (H.1 1826 1) (H.1 1826 3) (H.1 1826 8) (H.1 1826 13) (H.1 1826 19))
  refine h_run 1 (pc' := 1) (l' := [(0, .inr (.inr 1826)), (1, .inl x)]) (st' := [.inl x]) rfl ?_
  refine h_zlt (off := 10) (t := 11) rfl rfl (by omega) (fun c21 => ?_) (fun c21 => ?_)
  · refine h_run 2 (pc' := 13) (l' := [(0, .inr (.inr 1826)), (1, .inl x)]) (st' := [.inl 0, .inr (.inr 1826)]) rfl ?_
    refine h_puti (i := 393) (ci := 13) (k := 28) (a := 1826) (x := 0) rfl rfl rfl rfl rfl rfl (by decide) (by decide) ?_
    refine h_run 1 (pc' := 18) (l' := [(0, .inr (.inr 1826)), (1, .inl x)]) (st' := [.inl (-102)]) rfl ?_
    refine h_reti (x := (-102)) rfl rfl ?_
    have g22 : -2147483648 ≤ (H.1 1826 32) ∧ (H.1 1826 32) ≤ 2147483647 := hrg0.1 1826 13 32 _ .int rfl rfl
    exact ⟨⟨_, rfl⟩, (fr_o (fr_rf _ _ _) (by decide)), (by omega : (0 : Int) = 0), (by omega : 0 ≤ (H.1 1826 32) ∧ (H.1 1826 32) ≤ 1000)⟩
  · refine h_run 2 (pc' := 8) (l' := [(0, .inr (.inr 1826)), (1, .inl x)]) (st' := [.inl 2000, .inl x]) rfl ?_
    refine h_ile (off := 11) (t := 19) rfl rfl (by omega) (by decide) (fun c23 => ?_) (fun c23 => ?_)
    · refine h_run 1 (pc' := 20) (l' := [(0, .inr (.inr 1826)), (1, .inl x)]) (st' := [.inr (.inr 1826)]) rfl ?_
      have g24 : -2147483648 ≤ (H.1 1826 28) ∧ (H.1 1826 28) ≤ 2147483647 := hrg0.1 1826 13 28 _ .int rfl rfl
      have g25 : -2147483648 ≤ (H.1 1826 32) ∧ (H.1 1826 32) ≤ 2147483647 := hrg0.1 1826 13 32 _ .int rfl rfl
      refine h_cv (i := 396) (j := 191) (b := 1826) (M' := mt_191) (xs := []) (rest := []) rfl rfl rfl rfl rfl rfl (Nat.le_of_ble_eq_true rfl) (Nat.le_of_ble_eq_true rfl) (by omega) (m_openTape (by omega) (by omega : 0 ≤ (H.1 1826 28) ∧ (H.1 1826 28) ≤ 1000) (by omega : 0 ≤ (H.1 1826 32) ∧ (H.1 1826 32) ≤ 1000)) ?_
      rintro _ H26 ⟨rfl, hx26f, hx26t, hx26a, hx26c, hx26e⟩
      refine h_rng (fun hrg27 => ?_)
      have hf28 : fr [28, 29, 30, 31, 32, 33, 34, 35, 36, 39, 40, 41, 43, 44, 47, 50, 51, 53, 55, 56, 57, 59] [1849, 1850, 1851, 1852, 1853, 1854, 1855, 1856, 1857, 1858, 1859, 1860] H H26 := fr_t (fr_rf _ _ _) hx26f (by decide) (by decide)
      replace hx26t : (H26.1 1826 28) = 0 ∧ (H26.1 1826 29) = (H.1 1826 28) := hx26t
      refine h_run 0 (pc' := 23) (l' := [(0, .inr (.inr 1826)), (1, .inl x)]) (st' := []) rfl ?_
      refine h_run 1 (pc' := 24) (l' := [(0, .inr (.inr 1826)), (1, .inl x)]) (st' := [.inr (.inr 1826)]) rfl ?_
      refine h_cv (i := 379) (j := 185) (b := 1826) (M' := mt_185) (xs := []) (rest := []) rfl rfl rfl rfl rfl rfl (Nat.le_of_ble_eq_true rfl) (Nat.le_of_ble_eq_true rfl) (by omega) (m_beginTerm (by omega)) ?_
      rintro _ _ ⟨rfl, rfl⟩
      refine h_run 0 (pc' := 27) (l' := [(0, .inr (.inr 1826)), (1, .inl x)]) (st' := []) rfl ?_
      refine h_run 2 (pc' := 29) (l' := [(0, .inr (.inr 1826)), (1, .inl x)]) (st' := [.inl 3, .inr (.inr 1826)]) rfl ?_
      refine h_puti (i := 367) (ci := 13) (k := 44) (a := 1826) (x := 3) rfl rfl rfl rfl rfl rfl (by decide) (by decide) ?_
      refine h_run 1 (pc' := 33) (l' := [(0, .inr (.inr 1826)), (1, .inl x)]) (st' := [.inr (.inr 1826)]) rfl ?_
      have g29 : -2147483648 ≤ (H26.1 1826 35) ∧ (H26.1 1826 35) ≤ 2147483647 := hrg27.1 1826 13 35 _ .int rfl rfl
      refine h_cv (i := 293) (j := 158) (b := 1826) (M' := mt_158) (xs := []) (rest := []) rfl rfl rfl rfl rfl rfl (Nat.le_of_ble_eq_true rfl) (Nat.le_of_ble_eq_true rfl) (by omega) (m_good (by omega)) ?_
      rintro _ _ ⟨⟨rfl, b30⟩ | ⟨rfl, b30⟩, rfl⟩
      · have b30x : (H26.1 1826 35) = 0 := b30
        refine h_run 0 (pc' := 36) (l' := [(0, .inr (.inr 1826)), (1, .inl x)]) (st' := [.inl 1]) rfl ?_
        refine h_zeq (off := 9) (t := 45) rfl rfl (by decide) (fun c => absurd c (by decide)) (fun _ => ?_)
        refine h_run 2 (pc' := 41) (l' := [(0, .inr (.inr 1826)), (1, .inl x)]) (st' := [.inl (-1), .inr (.inr 1826)]) rfl ?_
        have g31 : -2147483648 ≤ (H26.1 1826 30) ∧ (H26.1 1826 30) ≤ 2147483647 := hrg27.1 1826 13 30 _ .int rfl rfl
        have g32 : -2147483648 ≤ (H26.1 1826 29) ∧ (H26.1 1826 29) ≤ 2147483647 := hrg27.1 1826 13 29 _ .int rfl rfl
        have g33 : -2147483648 ≤ (H26.1 1826 1) ∧ (H26.1 1826 1) ≤ 2147483647 := hrg27.1 1826 13 1 _ .int rfl rfl
        have e34 : (H26.1 1826 1) = (H.1 1826 1) := hx26f.2.2 1 (by decide)
        have g36 : -2147483648 ≤ (H26.1 1826 32) ∧ (H26.1 1826 32) ≤ 2147483647 := hrg27.1 1826 13 32 _ .int rfl rfl
        refine h_cv (i := 385) (j := 180) (b := 1826) (M' := mt_180) (xs := [.inl (-1)]) (rest := []) rfl rfl rfl rfl rfl rfl (Nat.le_of_ble_eq_true rfl) (Nat.le_of_ble_eq_true rfl) (by omega) (m_term (by omega) (by omega : 0 ≤ (H26.1 1826 30) ∧ (H26.1 1826 30) ≤ (H26.1 1826 29) ∧ (H26.1 1826 29) ≤ 1000) (by omega : 0 ≤ (H26.1 1826 35) ∧ (H26.1 1826 35) ≤ 5) (by omega : 0 ≤ (H26.1 1826 32) ∧ (H26.1 1826 32) ≤ 1000) (PWc_o (PWc_o (PWc_o (PWc_o (PWc_o (PWc_fr hP hf28 (by decide) (by decide)) (by decide)) (by decide)) (by decide)) (by decide)) (by decide)) (by omega : 1 ≤ (3 : Int) ∧ (3 : Int) ≤ 3) (by omega : -1 ≤ (-1 : Int) ∧ (-1 : Int) < (H26.1 1826 1)) (by omega : 0 ≤ (0 : Int) ∧ (0 : Int) ≤ 10) (fun _ => ⟨rfl, rfl, rfl, (by omega : 0 ≤ (0 : Int) ∧ (0 : Int) ≤ 39 ∧ ((3 : Int) = 2 → (0 : Int) ≤ 6)), fun (q9 : (3 : Int) = 2) => absurd q9 (by decide)⟩)) ?_
        rintro _ H35 ⟨⟨hx35r, rfl, hx35x, hx35y⟩, hx35f, hx35a, hx35c, -, hx35e, hx35v, hx35p⟩
        refine h_rng (fun hrg37 => ?_)
        have hf38 : fr [28, 29, 30, 31, 32, 33, 34, 35, 36, 39, 40, 41, 43, 44, 47, 50, 51, 53, 55, 56, 57, 59] [1849, 1850, 1851, 1852, 1853, 1854, 1855, 1856, 1857, 1858, 1859, 1860] H H35 := fr_t (fr_o (fr_o (fr_o (fr_o (fr_o hf28 (by decide)) (by decide)) (by decide)) (by decide)) (by decide)) hx35f (by decide) (by decide)
        replace hx35y : hx35r < (H26.1 1826 1) := hx35y
        replace hx35a : (H26.1 1826 30) ≤ (H35.1 1826 30) ∧ (H35.1 1826 30) ≤ (H26.1 1826 29) := hx35a
        replace hx35v : ((3 : Int) ≠ 2 → (H35.1 1826 39) = (0 : Int)) ∧ (0 : Int) ≤ (H35.1 1826 39) := hx35v
        have hx35k : (H35.1 1826 35) = 0 → 0 ≤ (H35.1 1826 43) ∧ (H35.1 1826 43) ≤ 40 := fun q9 => by obtain ⟨⟨k9, h9, h8, -⟩, -⟩ := hx35p q9; omega
        have hx35w : (H35.1 1826 35) = 0 → 0 ≤ (H35.1 1826 39) ∧ (H35.1 1826 39) ≤ 39 ∧ ((H35.1 1826 44) = 2 → (H35.1 1826 39) ≤ 6) := fun q9 => (TT_vars (hx35p q9).2).1
        refine h_run 0 (pc' := 44) (l' := [(0, .inr (.inr 1826)), (1, .inl x)]) (st' := [.inl hx35r]) rfl ?_
        refine h_run 2 (pc' := 46) (l' := [(0, .inr (.inr 1826)), (1, .inl x)]) (st' := [.inr (.inr 1826)]) rfl ?_
        have g39 : -2147483648 ≤ (H35.1 1826 35) ∧ (H35.1 1826 35) ≤ 2147483647 := hrg37.1 1826 13 35 _ .int rfl rfl
        refine h_cv (i := 293) (j := 158) (b := 1826) (M' := mt_158) (xs := []) (rest := []) rfl rfl rfl rfl rfl rfl (Nat.le_of_ble_eq_true rfl) (Nat.le_of_ble_eq_true rfl) (by omega) (m_good (by omega)) ?_
        rintro _ _ ⟨⟨rfl, b40⟩ | ⟨rfl, b40⟩, rfl⟩
        · have b40x : (H35.1 1826 35) = 0 := b40
          replace hx35k := hx35k b40x
          replace hx35w := hx35w b40x
          refine h_run 0 (pc' := 49) (l' := [(0, .inr (.inr 1826)), (1, .inl x)]) (st' := [.inl 1]) rfl ?_
          refine h_zeq (off := 15) (t := 64) rfl rfl (by decide) (fun c => absurd c (by decide)) (fun _ => ?_)
          refine h_run 2 (pc' := 56) (l' := [(0, .inr (.inr 1826)), (1, .inl x)]) (st' := [.inl (H35.1 1826 31)]) rfl ?_
          have g41 : -2147483648 ≤ (H35.1 1826 31) ∧ (H35.1 1826 31) ≤ 2147483647 := hrg37.1 1826 13 31 _ .int rfl rfl
          refine h_zeq (off := 8) (t := 64) rfl rfl (by omega) (fun c42 => ?_) (fun c42 => ?_)
          · refine h_run 1 (pc' := 65) (l' := [(0, .inr (.inr 1826)), (1, .inl x)]) (st' := [.inr (.inr 1826)]) rfl ?_
            refine h_cv (i := 293) (j := 158) (b := 1826) (M' := mt_158) (xs := []) (rest := []) rfl rfl rfl rfl rfl rfl (Nat.le_of_ble_eq_true rfl) (Nat.le_of_ble_eq_true rfl) (by omega) (m_good1 (by omega) (by omega : (H35.1 1826 35) = 0)) ?_
            rintro _ _ ⟨rfl, rfl⟩
            refine h_run 0 (pc' := 68) (l' := [(0, .inr (.inr 1826)), (1, .inl x)]) (st' := [.inl 1]) rfl ?_
            refine h_zne (off := 20) (t := 88) rfl rfl (by decide) (fun _ => ?_) (fun c => absurd c (by decide))
            have g43 : -2147483648 ≤ (H35.1 1826 39) ∧ (H35.1 1826 39) ≤ 2147483647 := hrg37.1 1826 13 39 _ .int rfl rfl
            have g44 : -2147483648 ≤ (H35.1 1826 43) ∧ (H35.1 1826 43) ≤ 2147483647 := hrg37.1 1826 13 43 _ .int rfl rfl
            have g45 : -2147483648 ≤ (H35.1 1826 3) ∧ (H35.1 1826 3) ≤ 2147483647 := hrg37.1 1826 13 3 _ .int rfl rfl
            have e46 : (H35.1 1826 3) = (H26.1 1826 3) := hx35f.2.2 3 (by decide)
            have e47 : (H26.1 1826 3) = (H.1 1826 3) := hx26f.2.2 3 (by decide)
            have g48 : -2147483648 ≤ (H35.1 1826 8) ∧ (H35.1 1826 8) ≤ 2147483647 := hrg37.1 1826 13 8 _ .int rfl rfl
            have e49 : (H35.1 1826 8) = (H26.1 1826 8) := hx35f.2.2 8 (by decide)
            have e50 : (H26.1 1826 8) = (H.1 1826 8) := hx26f.2.2 8 (by decide)
            obtain ⟨⟨k, hk1, hk2, hk3⟩, -⟩ := hx35p (by omega)
            have hv0 : (H35.1 1826 39) = 0 := hx35v.1 (by decide)
            rw [hv0, show (H35.1 1833) = (H.1 1833) from hf38.2.1 1833 (by decide) (by decide), show (H35.1 1830) = (H.1 1830) from hf38.2.1 1830 (by decide) (by decide), show (H35.1 1826 3) = (H.1 1826 3) from hf38.2.2 3 (by decide), show (H35.1 1826 8) = (H.1 1826 8) from hf38.2.2 8 (by decide)] at hk3
            refine h_run 3 (pc' := 93) (l' := [(0, .inr (.inr 1826)), (1, .inl x)]) (st' := [.inl (H35.1 1826 43), .inr (.inr 1826)]) rfl ?_
            refine h_puti (i := 447) (ci := 13) (k := 55) (a := 1826) (x := (H35.1 1826 43)) rfl rfl rfl rfl rfl rfl (by decide) (by omega) ?_
            refine h_run 2 (pc' := 98) (l' := [(0, .inr (.inr 1826)), (1, .inl x), (2, .inl 0)]) (st' := []) rfl ?_
            have g51 : -2147483648 ≤ (H35.1 1826 28) ∧ (H35.1 1826 28) ≤ 2147483647 := hrg37.1 1826 13 28 _ .int rfl rfl
            have e52 : (H35.1 1826 28) = (H26.1 1826 28) := hx35f.2.2 28 (by decide)
            have g53 : -2147483648 ≤ (H35.1 1826 32) ∧ (H35.1 1826 32) ≤ 2147483647 := hrg37.1 1826 13 32 _ .int rfl rfl
            exact (m_work_cut hd hx ht hst hP _) _ (k) 0 (fr_o hf38 (by decide)) (by omega : (H35.1 1826 43) = (((k) : Nat) : Int) ∧ (H35.1 1826 43) = (((k) : Nat) : Int) ∧ (k) ≤ 40) (by omega : (H35.1 1826 28) = 0) (by omega : 0 ≤ (H35.1 1826 32) ∧ (H35.1 1826 32) ≤ 1000) (by omega) (by omega) hk3 (fun x hx => absurd hx (Nat.not_lt_zero _)) (Nat.lt_succ_self _)
          · refine h_run 2 (pc' := 61) (l' := [(0, .inr (.inr 1826)), (1, .inl x)]) (st' := [.inl 2, .inr (.inr 1826)]) rfl ?_
            refine h_cv (i := 278) (j := 159) (b := 1826) (M' := mt_159) (xs := [.inl 2]) (rest := []) rfl rfl rfl rfl rfl rfl (Nat.le_of_ble_eq_true rfl) (Nat.le_of_ble_eq_true rfl) (by omega) (m_bad0 (by omega) (by omega) (by omega : (H35.1 1826 35) = 0)) ?_
            rintro _ _ ⟨rfl, rfl⟩
            refine h_run 0 (pc' := 64) (l' := [(0, .inr (.inr 1826)), (1, .inl x)]) (st' := []) rfl ?_
            refine h_run 1 (pc' := 65) (l' := [(0, .inr (.inr 1826)), (1, .inl x)]) (st' := [.inr (.inr 1826)]) rfl ?_
            refine h_cv (i := 293) (j := 158) (b := 1826) (M' := mt_158) (xs := []) (rest := []) rfl rfl rfl rfl rfl rfl (Nat.le_of_ble_eq_true rfl) (Nat.le_of_ble_eq_true rfl) (by omega) (m_good0 (by omega) (by omega : (2 : Int) ≠ 0)) ?_
            rintro _ _ ⟨rfl, rfl⟩
            refine h_run 0 (pc' := 68) (l' := [(0, .inr (.inr 1826)), (1, .inl x)]) (st' := [.inl 0]) rfl ?_
            refine h_zne (off := 20) (t := 88) rfl rfl (by decide) (fun c => absurd c (by decide)) (fun _ => ?_)
            refine h_run 3 (pc' := 76) (l' := [(0, .inr (.inr 1826)), (1, .inl x)]) (st' := [.inl 2, .inr (.inr 1826)]) rfl ?_
            refine h_puti (i := 411) (ci := 13) (k := 34) (a := 1826) (x := 2) rfl rfl rfl rfl rfl rfl (by decide) (by decide) ?_
            refine h_run 4 (pc' := 87) (l' := [(0, .inr (.inr 1826)), (1, .inl x)]) (st' := [.inl ((-1000) - (H35.1 1826 32))]) rfl ?_
            refine h_reti (x := ((-1000) - (H35.1 1826 32))) rfl rfl ?_
            have g54 : -2147483648 ≤ (H35.1 1826 28) ∧ (H35.1 1826 28) ≤ 2147483647 := hrg37.1 1826 13 28 _ .int rfl rfl
            have e55 : (H35.1 1826 28) = (H26.1 1826 28) := hx35f.2.2 28 (by decide)
            have g56 : -2147483648 ≤ (H35.1 1826 32) ∧ (H35.1 1826 32) ≤ 2147483647 := hrg37.1 1826 13 32 _ .int rfl rfl
            exact ⟨⟨_, rfl⟩, (fr_o (fr_o (fr_o hf38 (by decide)) (by decide)) (by decide)), (by omega : (H35.1 1826 28) = 0), (by omega : 0 ≤ (H35.1 1826 32) ∧ (H35.1 1826 32) ≤ 1000)⟩
        · have b40x : (H35.1 1826 35) ≠ 0 := b40
          clear hx35k
          clear hx35w
          refine h_run 0 (pc' := 49) (l' := [(0, .inr (.inr 1826)), (1, .inl x)]) (st' := [.inl 0]) rfl ?_
          refine h_zeq (off := 15) (t := 64) rfl rfl (by decide) (fun _ => ?_) (fun c => absurd c (by decide))
          refine h_run 1 (pc' := 65) (l' := [(0, .inr (.inr 1826)), (1, .inl x)]) (st' := [.inr (.inr 1826)]) rfl ?_
          refine h_cv (i := 293) (j := 158) (b := 1826) (M' := mt_158) (xs := []) (rest := []) rfl rfl rfl rfl rfl rfl (Nat.le_of_ble_eq_true rfl) (Nat.le_of_ble_eq_true rfl) (by omega) (m_good0 (by omega) (by omega : (H35.1 1826 35) ≠ 0)) ?_
          rintro _ _ ⟨rfl, rfl⟩
          refine h_run 0 (pc' := 68) (l' := [(0, .inr (.inr 1826)), (1, .inl x)]) (st' := [.inl 0]) rfl ?_
          refine h_zne (off := 20) (t := 88) rfl rfl (by decide) (fun c => absurd c (by decide)) (fun _ => ?_)
          refine h_run 3 (pc' := 76) (l' := [(0, .inr (.inr 1826)), (1, .inl x)]) (st' := [.inl (H35.1 1826 35), .inr (.inr 1826)]) rfl ?_
          refine h_puti (i := 411) (ci := 13) (k := 34) (a := 1826) (x := (H35.1 1826 35)) rfl rfl rfl rfl rfl rfl (by decide) (by omega) ?_
          refine h_run 3 (pc' := 86) (l' := [(0, .inr (.inr 1826)), (1, .inl x)]) (st' := [.inl (H35.1 1826 36), .inl (-1000)]) rfl ?_
          have g57 : -2147483648 ≤ (H35.1 1826 36) ∧ (H35.1 1826 36) ≤ 2147483647 := hrg37.1 1826 13 36 _ .int rfl rfl
          refine h_run 1 (pc' := 87) (l' := [(0, .inr (.inr 1826)), (1, .inl x)]) (st' := [.inl ((-1000) - (H35.1 1826 36))]) rfl ?_
          refine h_reti (x := ((-1000) - (H35.1 1826 36))) rfl rfl ?_
          have g58 : -2147483648 ≤ (H35.1 1826 28) ∧ (H35.1 1826 28) ≤ 2147483647 := hrg37.1 1826 13 28 _ .int rfl rfl
          have e59 : (H35.1 1826 28) = (H26.1 1826 28) := hx35f.2.2 28 (by decide)
          have g60 : -2147483648 ≤ (H35.1 1826 32) ∧ (H35.1 1826 32) ≤ 2147483647 := hrg37.1 1826 13 32 _ .int rfl rfl
          exact ⟨⟨_, rfl⟩, (fr_o hf38 (by decide)), (by omega : (H35.1 1826 28) = 0), (by omega : 0 ≤ (H35.1 1826 32) ∧ (H35.1 1826 32) ≤ 1000)⟩
      · have b30x : (H26.1 1826 35) ≠ 0 := b30
        refine h_run 0 (pc' := 36) (l' := [(0, .inr (.inr 1826)), (1, .inl x)]) (st' := [.inl 0]) rfl ?_
        refine h_zeq (off := 9) (t := 45) rfl rfl (by decide) (fun _ => ?_) (fun c => absurd c (by decide))
        refine h_run 1 (pc' := 46) (l' := [(0, .inr (.inr 1826)), (1, .inl x)]) (st' := [.inr (.inr 1826)]) rfl ?_
        refine h_cv (i := 293) (j := 158) (b := 1826) (M' := mt_158) (xs := []) (rest := []) rfl rfl rfl rfl rfl rfl (Nat.le_of_ble_eq_true rfl) (Nat.le_of_ble_eq_true rfl) (by omega) (m_good0 (by omega) (by omega : (H26.1 1826 35) ≠ 0)) ?_
        rintro _ _ ⟨rfl, rfl⟩
        refine h_run 0 (pc' := 49) (l' := [(0, .inr (.inr 1826)), (1, .inl x)]) (st' := [.inl 0]) rfl ?_
        refine h_zeq (off := 15) (t := 64) rfl rfl (by decide) (fun _ => ?_) (fun c => absurd c (by decide))
        refine h_run 1 (pc' := 65) (l' := [(0, .inr (.inr 1826)), (1, .inl x)]) (st' := [.inr (.inr 1826)]) rfl ?_
        refine h_cv (i := 293) (j := 158) (b := 1826) (M' := mt_158) (xs := []) (rest := []) rfl rfl rfl rfl rfl rfl (Nat.le_of_ble_eq_true rfl) (Nat.le_of_ble_eq_true rfl) (by omega) (m_good0 (by omega) (by omega : (H26.1 1826 35) ≠ 0)) ?_
        rintro _ _ ⟨rfl, rfl⟩
        refine h_run 0 (pc' := 68) (l' := [(0, .inr (.inr 1826)), (1, .inl x)]) (st' := [.inl 0]) rfl ?_
        refine h_zne (off := 20) (t := 88) rfl rfl (by decide) (fun c => absurd c (by decide)) (fun _ => ?_)
        refine h_run 3 (pc' := 76) (l' := [(0, .inr (.inr 1826)), (1, .inl x)]) (st' := [.inl (H26.1 1826 35), .inr (.inr 1826)]) rfl ?_
        refine h_puti (i := 411) (ci := 13) (k := 34) (a := 1826) (x := (H26.1 1826 35)) rfl rfl rfl rfl rfl rfl (by decide) (by omega) ?_
        refine h_run 3 (pc' := 86) (l' := [(0, .inr (.inr 1826)), (1, .inl x)]) (st' := [.inl (H26.1 1826 36), .inl (-1000)]) rfl ?_
        have g61 : -2147483648 ≤ (H26.1 1826 36) ∧ (H26.1 1826 36) ≤ 2147483647 := hrg27.1 1826 13 36 _ .int rfl rfl
        refine h_run 1 (pc' := 87) (l' := [(0, .inr (.inr 1826)), (1, .inl x)]) (st' := [.inl ((-1000) - (H26.1 1826 36))]) rfl ?_
        refine h_reti (x := ((-1000) - (H26.1 1826 36))) rfl rfl ?_
        have g62 : -2147483648 ≤ (H26.1 1826 28) ∧ (H26.1 1826 28) ≤ 2147483647 := hrg27.1 1826 13 28 _ .int rfl rfl
        have g63 : -2147483648 ≤ (H26.1 1826 32) ∧ (H26.1 1826 32) ≤ 2147483647 := hrg27.1 1826 13 32 _ .int rfl rfl
        exact ⟨⟨_, rfl⟩, (fr_o (fr_o (fr_o (fr_o (fr_o (fr_o hf28 (by decide)) (by decide)) (by decide)) (by decide)) (by decide)) (by decide)), (by omega : (H26.1 1826 28) = 0), (by omega : 0 ≤ (H26.1 1826 32) ∧ (H26.1 1826 32) ≤ 1000)⟩
    · refine h_run 2 (pc' := 13) (l' := [(0, .inr (.inr 1826)), (1, .inl x)]) (st' := [.inl 0, .inr (.inr 1826)]) rfl ?_
      refine h_puti (i := 393) (ci := 13) (k := 28) (a := 1826) (x := 0) rfl rfl rfl rfl rfl rfl (by decide) (by decide) ?_
      refine h_run 1 (pc' := 18) (l' := [(0, .inr (.inr 1826)), (1, .inl x)]) (st' := [.inl (-102)]) rfl ?_
      refine h_reti (x := (-102)) rfl rfl ?_
      have g64 : -2147483648 ≤ (H.1 1826 32) ∧ (H.1 1826 32) ≤ 2147483647 := hrg0.1 1826 13 32 _ .int rfl rfl
      exact ⟨⟨_, rfl⟩, (fr_o (fr_rf _ _ _) (by decide)), (by omega : (0 : Int) = 0), (by omega : 0 ≤ (H.1 1826 32) ∧ (H.1 1826 32) ≤ 1000)⟩
