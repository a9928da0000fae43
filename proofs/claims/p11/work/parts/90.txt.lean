/-! the reference reads a text -/
theorem mu_lt2 {wk tok a sz wk' tok' a' sz' : Int} {w : Nat} (hw : mu wk tok a sz + 1000 < w + 1) (h0 : wk = 0) (hs : sz' = sz) (h : wk' ≠ 0 ∨ (a ≤ a' ∧ a' ≤ sz ∧ ((tok' = 0 ∧ tok ≠ 0) ∨ a < a'))) : mu wk' tok' a' sz' + 1000 < w := by
  subst hs
  have h2 : mu wk' tok' a' sz' < mu wk tok a sz' := mu_lt (Nat.lt_succ_self _) h0 h
  omega

/-! openTape -/
set_option maxRecDepth 100000 in
theorem m_openTape {zC : Nat → Option zsh} {d : Nat} (hd : 4 ≤ d) {H : hp}  (ht : 0 ≤ (H.1 1826 28) ∧ (H.1 1826 28) ≤ 1000) (hst : 0 ≤ (H.1 1826 32) ∧ (H.1 1826 32) ≤ 1000) : hG (zs zC) d mt_191 0 (zargs 0 [.inr (.inr 1826)]) [] H (fun r H2 => r = none ∧ fr [30, 31, 32, 33, 35, 36, 28, 29] [] H H2 ∧ ((H2.1 1826 28) = 0 ∧ (H2.1 1826 29) = (H.1 1826 28)) ∧ (0 ≤ (H2.1 1826 30) ∧ (H2.1 1826 30) ≤ (H2.1 1826 29)) ∧ (0 ≤ (H2.1 1826 35) ∧ (H2.1 1826 35) ≤ 5) ∧ (0 ≤ (H2.1 1826 32) ∧ (H2.1 1826 32) ≤ 1000)) := by
  refine h_rng (fun hrg0 => ?_)
  refine h_run 0 (pc' := 0) (l' := [(0, .inr (.inr 1826))]) (st' := []) rfl ?_
  refine h_run 3 (pc' := 5) (l' := [(0, .inr (.inr 1826))]) (st' := [.inl (H.1 1826 28), .inr (.inr 1826)]) rfl ?_
  have g1 : -2147483648 ≤ (H.1 1826 28) ∧ (H.1 1826 28) ≤ 2147483647 := hrg0.1 1826 13 28 _ .int rfl rfl
  refine h_puti (i := 264) (ci := 13) (k := 29) (a := 1826) (x := (H.1 1826 28)) rfl rfl rfl rfl rfl rfl (by decide) (by omega) ?_
  refine h_run 2 (pc' := 10) (l' := [(0, .inr (.inr 1826))]) (st' := [.inl 0, .inr (.inr 1826)]) rfl ?_
  refine h_puti (i := 393) (ci := 13) (k := 28) (a := 1826) (x := 0) rfl rfl rfl rfl rfl rfl (by decide) (by decide) ?_
  refine h_run 2 (pc' := 15) (l' := [(0, .inr (.inr 1826))]) (st' := [.inl 0, .inr (.inr 1826)]) rfl ?_
  refine h_puti (i := 261) (ci := 13) (k := 30) (a := 1826) (x := 0) rfl rfl rfl rfl rfl rfl (by decide) (by decide) ?_
  refine h_run 2 (pc' := 20) (l' := [(0, .inr (.inr 1826))]) (st' := [.inl 0, .inr (.inr 1826)]) rfl ?_
  refine h_puti (i := 248) (ci := 13) (k := 35) (a := 1826) (x := 0) rfl rfl rfl rfl rfl rfl (by decide) (by decide) ?_
  refine h_run 1 (pc' := 24) (l' := [(0, .inr (.inr 1826))]) (st' := [.inr (.inr 1826)]) rfl ?_
  have g2 : -2147483648 ≤ (H.1 1826 32) ∧ (H.1 1826 32) ≤ 2147483647 := hrg0.1 1826 13 32 _ .int rfl rfl
  refine h_cv (i := 297) (j := 165) (b := 1826) (M' := mt_165) (xs := []) (rest := []) rfl rfl rfl rfl rfl rfl (Nat.le_of_ble_eq_true rfl) (Nat.le_of_ble_eq_true rfl) (by omega) (m_next (by omega) (by omega : 0 ≤ (0 : Int) ∧ (0 : Int) ≤ (H.1 1826 28) ∧ (H.1 1826 28) ≤ 1000) (by omega : 0 ≤ (0 : Int) ∧ (0 : Int) ≤ 5) (by omega : 0 ≤ (H.1 1826 32) ∧ (H.1 1826 32) ≤ 1000)) ?_
  rintro _ H3 ⟨rfl, hx3f, hx3a, hx3b, hx3c, -, hx3e, hx3g⟩
  refine h_rng (fun hrg4 => ?_)
  have hf5 : fr [30, 31, 32, 33, 35, 36, 28, 29] [] H H3 := fr_t (fr_o (fr_o (fr_o (fr_o (fr_rf _ _ _) (by decide)) (by decide)) (by decide)) (by decide)) hx3f (by decide) (by decide)
  replace hx3a : (0 : Int) ≤ (H3.1 1826 30) := hx3a
  replace hx3b : (H3.1 1826 30) ≤ (H.1 1826 28) := hx3b
  replace hx3g : (H3.1 1826 35) = 0 → ((H3.1 1826 31) = 0 ∨ (0 : Int) < (H3.1 1826 30)) := hx3g
  refine h_run 0 (pc' := 27) (l' := [(0, .inr (.inr 1826))]) (st' := []) rfl ?_
  refine h_ret rfl rfl ?_
  have g6 : -2147483648 ≤ (H3.1 1826 28) ∧ (H3.1 1826 28) ≤ 2147483647 := hrg4.1 1826 13 28 _ .int rfl rfl
  have e7 : (H3.1 1826 28) = 0 := hx3f.2.2 28 (by decide)
  have g8 : -2147483648 ≤ (H3.1 1826 29) ∧ (H3.1 1826 29) ≤ 2147483647 := hrg4.1 1826 13 29 _ .int rfl rfl
  have e9 : (H3.1 1826 29) = (H.1 1826 28) := hx3f.2.2 29 (by decide)
  have g10 : -2147483648 ≤ (H3.1 1826 30) ∧ (H3.1 1826 30) ≤ 2147483647 := hrg4.1 1826 13 30 _ .int rfl rfl
  have g11 : -2147483648 ≤ (H3.1 1826 35) ∧ (H3.1 1826 35) ≤ 2147483647 := hrg4.1 1826 13 35 _ .int rfl rfl
  have g12 : -2147483648 ≤ (H3.1 1826 32) ∧ (H3.1 1826 32) ≤ 2147483647 := hrg4.1 1826 13 32 _ .int rfl rfl
  exact ⟨rfl, hf5, (by omega : (H3.1 1826 28) = 0 ∧ (H3.1 1826 29) = (H.1 1826 28)), (by omega : 0 ≤ (H3.1 1826 30) ∧ (H3.1 1826 30) ≤ (H3.1 1826 29)), (by omega : 0 ≤ (H3.1 1826 35) ∧ (H3.1 1826 35) ≤ 5), (by omega : 0 ≤ (H3.1 1826 32) ∧ (H3.1 1826 32) ≤ 1000)⟩

/-! read -/
set_option maxRecDepth 100000 in
theorem m_read_cut {zC : Nat → Option zsh} {d : Nat} (hd : 10 ≤ d) {H : hp}  (ht : 0 ≤ (H.1 1826 28) ∧ (H.1 1826 28) ≤ 1000) (hst : 0 ≤ (H.1 1826 32) ∧ (H.1 1826 32) ≤ 1000) (hP : PWc H) : ∀ w : Nat, (∀ (H1 : hp) (dc : Int), (fr [1, 3, 8, 13, 19, 28, 29, 30, 31, 32, 33, 34, 35, 36, 39, 40, 41, 43, 44, 47, 74, 76, 77] [1827, 1828, 1829, 1830, 1831, 1832, 1833, 1834, 1835, 1836, 1837, 1838, 1839, 1840, 1841, 1842, 1843, 1844, 1845, 1846, 1847, 1849, 1850, 1851, 1852, 1853, 1854] H H1) → (0 ≤ (H1.1 1826 30) ∧ (H1.1 1826 30) ≤ (H1.1 1826 29) ∧ (H1.1 1826 29) ≤ 1000) → (0 ≤ (H1.1 1826 35) ∧ (H1.1 1826 35) ≤ 5) → (0 ≤ (H1.1 1826 32) ∧ (H1.1 1826 32) ≤ 1000) → ((H1.1 1826 28) = 0) → ((H1.1 1826 77) = (H.1 1826 77) ∧ (H1.1 1826 74) = (H.1 1826 74) ∧ (H1.1 1826 67) = (H.1 1826 67)) → (agp H H1) → ((H1.1 1826 35) = 0 → PWc H1) → mu (H1.1 1826 35) (H1.1 1826 31) (H1.1 1826 30) (H1.1 1826 29) + 1000 < w → hG (zs zC) d mt_192 34 [(0, .inr (.inr 1826)), (1, .inl (H.1 1826 1)), (2, .inl (H.1 1826 3)), (3, .inl (H.1 1826 8)), (4, .inl (H.1 1826 13)), (5, .inl (H.1 1826 19)), (6, .inl dc)] [] H1 (fun r H2 => (∃ r0 : Int, r = some (.inl r0)) ∧ fr [1, 3, 8, 13, 19, 28, 29, 30, 31, 32, 33, 34, 35, 36, 39, 40, 41, 43, 44, 47, 74, 76, 77] [1827, 1828, 1829, 1830, 1831, 1832, 1833, 1834, 1835, 1836, 1837, 1838, 1839, 1840, 1841, 1842, 1843, 1844, 1845, 1846, 1847, 1849, 1850, 1851, 1852, 1853, 1854] H H2 ∧ (H2.1 1826 28) = 0 ∧ (0 ≤ (H2.1 1826 32) ∧ (H2.1 1826 32) ≤ 1000) ∧ agp H H2 ∧ PWc H2 ∧ ((H2.1 1826 77) = 0 ∨ ((H2.1 1826 77) = (H.1 1826 77) ∧ (H2.1 1826 74) = (H.1 1826 74) ∧ (H2.1 1826 19) = (H.1 1826 19) ∧ (H2.1 1826 3) = (H.1 1826 3) ∧ (H2.1 1826 8) = (H.1 1826 8))))) ∧ (∀ (H1 : hp) (dc : Int) (i : Nat), (fr [1, 3, 8, 13, 19, 28, 29, 30, 31, 32, 33, 34, 35, 36, 39, 40, 41, 43, 44, 47, 74, 76, 77] [1827, 1828, 1829, 1830, 1831, 1832, 1833, 1834, 1835, 1836, 1837, 1838, 1839, 1840, 1841, 1842, 1843, 1844, 1845, 1846, 1847, 1849, 1850, 1851, 1852, 1853, 1854] H H1) → (0 ≤ (H1.1 1826 30) ∧ (H1.1 1826 30) ≤ (H1.1 1826 29) ∧ (H1.1 1826 29) ≤ 1000) → (0 ≤ (H1.1 1826 35) ∧ (H1.1 1826 35) ≤ 5) → (0 ≤ (H1.1 1826 32) ∧ (H1.1 1826 32) ≤ 1000) → ((H1.1 1826 28) = 0) → ((H1.1 1826 77) = (H.1 1826 77) ∧ (H1.1 1826 74) = (H.1 1826 74) ∧ (H1.1 1826 67) = (H.1 1826 67)) → (agp H H1) → (PWc H1) → (i ≤ 16) → 16 - i < w → hG (zs zC) d mt_192 206 [(0, .inr (.inr 1826)), (4, .inl (H.1 1826 13)), (6, .inl dc), (7, .inl (i : Int))] [] H1 (fun r H2 => (∃ r0 : Int, r = some (.inl r0)) ∧ fr [1, 3, 8, 13, 19, 28, 29, 30, 31, 32, 33, 34, 35, 36, 39, 40, 41, 43, 44, 47, 74, 76, 77] [1827, 1828, 1829, 1830, 1831, 1832, 1833, 1834, 1835, 1836, 1837, 1838, 1839, 1840, 1841, 1842, 1843, 1844, 1845, 1846, 1847, 1849, 1850, 1851, 1852, 1853, 1854] H H2 ∧ (H2.1 1826 28) = 0 ∧ (0 ≤ (H2.1 1826 32) ∧ (H2.1 1826 32) ≤ 1000) ∧ agp H H2 ∧ PWc H2 ∧ ((H2.1 1826 77) = 0 ∨ ((H2.1 1826 77) = (H.1 1826 77) ∧ (H2.1 1826 74) = (H.1 1826 74) ∧ (H2.1 1826 19) = (H.1 1826 19) ∧ (H2.1 1826 3) = (H.1 1826 3) ∧ (H2.1 1826 8) = (H.1 1826 8))))) := by
  intro w
  induction w with
  | zero => exact ⟨fun _ _ _ _ _ _ _ _ _ _ h => absurd h (Nat.not_lt_zero _), fun _ _ _ _ _ _ _ _ _ _ _ _ h => absurd h (Nat.not_lt_zero _)⟩
  | succ w ih =>
    refine ⟨?_, ?_⟩
    · intro H1 dc hf ha hk hst1 htp hgl hag hP1 hw
      refine h_rng (fun hrg1 => ?_)
      obtain ⟨⟨pb1, pb2, pb3, pb4, pb5⟩, pw1, pw2, pw3, pw4⟩ := (id hP : PW H (H.1 1826 1) (H.1 1826 3) (H.1 1826 8) (H.1 1826 13) (H.1 1826 19))
      refine h_run 1 (pc' := 35) (l' := [(0, .inr (.inr 1826)), (1, .inl (H.1 1826 1)), (2, .inl (H.1 1826 3)), (3, .inl (H.1 1826 8)), (4, .inl (H.1 1826 13)), (5, .inl (H.1 1826 19)), (6, .inl dc)]) (st' := [.inr (.inr 1826)]) rfl ?_
      have g2 : -2147483648 ≤ (H1.1 1826 35) ∧ (H1.1 1826 35) ≤ 2147483647 := hrg1.1 1826 13 35 _ .int rfl rfl
      refine h_cv (i := 293) (j := 158) (b := 1826) (M' := mt_158) (xs := []) (rest := []) rfl rfl rfl rfl rfl rfl (Nat.le_of_ble_eq_true rfl) (Nat.le_of_ble_eq_true rfl) (by omega) (m_good (by omega)) ?_
      rintro _ _ ⟨⟨rfl, b3⟩ | ⟨rfl, b3⟩, rfl⟩
      · have b3x : (H1.1 1826 35) = 0 := b3
        refine h_run 0 (pc' := 38) (l' := [(0, .inr (.inr 1826)), (1, .inl (H.1 1826 1)), (2, .inl (H.1 1826 3)), (3, .inl (H.1 1826 8)), (4, .inl (H.1 1826 13)), (5, .inl (H.1 1826 19)), (6, .inl dc)]) (st' := [.inl 1]) rfl ?_
        refine h_zeq (off := 114) (t := 152) rfl rfl (by decide) (fun c => absurd c (by decide)) (fun _ => ?_)
        refine h_run 2 (pc' := 45) (l' := [(0, .inr (.inr 1826)), (1, .inl (H.1 1826 1)), (2, .inl (H.1 1826 3)), (3, .inl (H.1 1826 8)), (4, .inl (H.1 1826 13)), (5, .inl (H.1 1826 19)), (6, .inl dc)]) (st' := [.inl (H1.1 1826 31)]) rfl ?_
        have g4 : -2147483648 ≤ (H1.1 1826 31) ∧ (H1.1 1826 31) ≤ 2147483647 := hrg1.1 1826 13 31 _ .int rfl rfl
        refine h_zeq (off := 107) (t := 152) rfl rfl (by omega) (fun c5 => ?_) (fun c5 => ?_)
        · refine h_run 1 (pc' := 153) (l' := [(0, .inr (.inr 1826)), (1, .inl (H.1 1826 1)), (2, .inl (H.1 1826 3)), (3, .inl (H.1 1826 8)), (4, .inl (H.1 1826 13)), (5, .inl (H.1 1826 19)), (6, .inl dc)]) (st' := [.inr (.inr 1826)]) rfl ?_
          refine h_cv (i := 293) (j := 158) (b := 1826) (M' := mt_158) (xs := []) (rest := []) rfl rfl rfl rfl rfl rfl (Nat.le_of_ble_eq_true rfl) (Nat.le_of_ble_eq_true rfl) (by omega) (m_good1 (by omega) (by omega : (H1.1 1826 35) = 0)) ?_
          rintro _ _ ⟨rfl, rfl⟩
          refine h_run 0 (pc' := 156) (l' := [(0, .inr (.inr 1826)), (1, .inl (H.1 1826 1)), (2, .inl (H.1 1826 3)), (3, .inl (H.1 1826 8)), (4, .inl (H.1 1826 13)), (5, .inl (H.1 1826 19)), (6, .inl dc)]) (st' := [.inl 1]) rfl ?_
          refine h_zne (off := 47) (t := 203) rfl rfl (by decide) (fun _ => ?_) (fun c => absurd c (by decide))
          refine h_run 2 (pc' := 206) (l' := [(0, .inr (.inr 1826)), (1, .inl (H.1 1826 1)), (2, .inl (H.1 1826 3)), (3, .inl (H.1 1826 8)), (4, .inl (H.1 1826 13)), (5, .inl (H.1 1826 19)), (6, .inl dc), (7, .inl 0)]) (st' := []) rfl ?_
          have g6 : -2147483648 ≤ (H1.1 1826 30) ∧ (H1.1 1826 30) ≤ 2147483647 := hrg1.1 1826 13 30 _ .int rfl rfl
          have g7 : -2147483648 ≤ (H1.1 1826 32) ∧ (H1.1 1826 32) ≤ 2147483647 := hrg1.1 1826 13 32 _ .int rfl rfl
          have g8 : -2147483648 ≤ (H1.1 1826 29) ∧ (H1.1 1826 29) ≤ 2147483647 := hrg1.1 1826 13 29 _ .int rfl rfl
          have g9 : -2147483648 ≤ (H1.1 1826 28) ∧ (H1.1 1826 28) ≤ 2147483647 := hrg1.1 1826 13 28 _ .int rfl rfl
          have g10 : -2147483648 ≤ (H1.1 1826 77) ∧ (H1.1 1826 77) ≤ 2147483647 := hrg1.1 1826 13 77 _ .int rfl rfl
          have g11 : -2147483648 ≤ (H1.1 1826 74) ∧ (H1.1 1826 74) ≤ 2147483647 := hrg1.1 1826 13 74 _ .int rfl rfl
          have g12 : -2147483648 ≤ (H1.1 1826 67) ∧ (H1.1 1826 67) ≤ 2147483647 := hrg1.1 1826 13 67 _ .int rfl rfl
          have e13 : (H1.1 1826 67) = (H.1 1826 67) := hf.2.2 67 (by decide)
          refine h_loc [0, 4, 6, 7] rfl ?_
          exact ih.2 _ dc 0 hf (by omega : 0 ≤ (H1.1 1826 30) ∧ (H1.1 1826 30) ≤ (H1.1 1826 29) ∧ (H1.1 1826 29) ≤ 1000) (by omega : 0 ≤ (H1.1 1826 35) ∧ (H1.1 1826 35) ≤ 5) (by omega : 0 ≤ (H1.1 1826 32) ∧ (H1.1 1826 32) ≤ 1000) (by omega : (H1.1 1826 28) = 0) (by omega : (H1.1 1826 77) = (H.1 1826 77) ∧ (H1.1 1826 74) = (H.1 1826 74) ∧ (H1.1 1826 67) = (H.1 1826 67)) hag (hP1 (by omega)) (by omega) (by omega : 16 - 0 < w)
        · refine h_run 2 (pc' := 52) (l' := [(0, .inr (.inr 1826)), (1, .inl (H.1 1826 1)), (2, .inl (H.1 1826 3)), (3, .inl (H.1 1826 8)), (4, .inl (H.1 1826 13)), (5, .inl (H.1 1826 19)), (6, .inl dc)]) (st' := [.inl (H1.1 1826 31)]) rfl ?_
          refine h_run 1 (pc' := 53) (l' := [(0, .inr (.inr 1826)), (1, .inl (H.1 1826 1)), (2, .inl (H.1 1826 3)), (3, .inl (H.1 1826 8)), (4, .inl (H.1 1826 13)), (5, .inl (H.1 1826 19)), (6, .inl dc)]) (st' := [.inl 3, .inl (H1.1 1826 31)]) rfl ?_
          refine h_ine (off := 10) (t := 63) rfl rfl (by omega) (by decide) (fun c14 => ?_) (fun c14 => ?_)
          · refine h_run 2 (pc' := 67) (l' := [(0, .inr (.inr 1826)), (1, .inl (H.1 1826 1)), (2, .inl (H.1 1826 3)), (3, .inl (H.1 1826 8)), (4, .inl (H.1 1826 13)), (5, .inl (H.1 1826 19)), (6, .inl dc)]) (st' := [.inl (H1.1 1826 31)]) rfl ?_
            refine h_run 1 (pc' := 68) (l' := [(0, .inr (.inr 1826)), (1, .inl (H.1 1826 1)), (2, .inl (H.1 1826 3)), (3, .inl (H.1 1826 8)), (4, .inl (H.1 1826 13)), (5, .inl (H.1 1826 19)), (6, .inl dc)]) (st' := [.inl 4, .inl (H1.1 1826 31)]) rfl ?_
            refine h_ine (off := 10) (t := 78) rfl rfl (by omega) (by decide) (fun c15 => ?_) (fun c15 => ?_)
            · refine h_run 2 (pc' := 82) (l' := [(0, .inr (.inr 1826)), (1, .inl (H.1 1826 1)), (2, .inl (H.1 1826 3)), (3, .inl (H.1 1826 8)), (4, .inl (H.1 1826 13)), (5, .inl (H.1 1826 19)), (6, .inl dc)]) (st' := [.inl (H1.1 1826 31)]) rfl ?_
              refine h_run 1 (pc' := 83) (l' := [(0, .inr (.inr 1826)), (1, .inl (H.1 1826 1)), (2, .inl (H.1 1826 3)), (3, .inl (H.1 1826 8)), (4, .inl (H.1 1826 13)), (5, .inl (H.1 1826 19)), (6, .inl dc)]) (st' := [.inl 5, .inl (H1.1 1826 31)]) rfl ?_
              refine h_ine (off := 10) (t := 93) rfl rfl (by omega) (by decide) (fun c16 => ?_) (fun c16 => ?_)
              · refine h_run 2 (pc' := 97) (l' := [(0, .inr (.inr 1826)), (1, .inl (H.1 1826 1)), (2, .inl (H.1 1826 3)), (3, .inl (H.1 1826 8)), (4, .inl (H.1 1826 13)), (5, .inl (H.1 1826 19)), (6, .inl dc)]) (st' := [.inl (H1.1 1826 31)]) rfl ?_
                refine h_run 1 (pc' := 99) (l' := [(0, .inr (.inr 1826)), (1, .inl (H.1 1826 1)), (2, .inl (H.1 1826 3)), (3, .inl (H.1 1826 8)), (4, .inl (H.1 1826 13)), (5, .inl (H.1 1826 19)), (6, .inl dc)]) (st' := [.inl 6, .inl (H1.1 1826 31)]) rfl ?_
                refine h_ine (off := 10) (t := 109) rfl rfl (by omega) (by decide) (fun c17 => ?_) (fun c17 => ?_)
                · refine h_run 2 (pc' := 111) (l' := [(0, .inr (.inr 1826)), (1, .inl (H.1 1826 1)), (2, .inl (H.1 1826 3)), (3, .inl (H.1 1826 8)), (4, .inl (H.1 1826 13)), (5, .inl (H.1 1826 19)), (6, .inl dc)]) (st' := [.inl 2, .inr (.inr 1826)]) rfl ?_
                  refine h_cv (i := 278) (j := 159) (b := 1826) (M' := mt_159) (xs := [.inl 2]) (rest := []) rfl rfl rfl rfl rfl rfl (Nat.le_of_ble_eq_true rfl) (Nat.le_of_ble_eq_true rfl) (by omega) (m_bad0 (by omega) (by omega) (by omega : (H1.1 1826 35) = 0)) ?_
                  rintro _ _ ⟨rfl, rfl⟩
                  refine h_run 0 (pc' := 114) (l' := [(0, .inr (.inr 1826)), (1, .inl (H.1 1826 1)), (2, .inl (H.1 1826 3)), (3, .inl (H.1 1826 8)), (4, .inl (H.1 1826 13)), (5, .inl (H.1 1826 19)), (6, .inl dc)]) (st' := []) rfl ?_
                  refine h_run 1 (pc' := 115) (l' := [(0, .inr (.inr 1826)), (1, .inl (H.1 1826 1)), (2, .inl (H.1 1826 3)), (3, .inl (H.1 1826 8)), (4, .inl (H.1 1826 13)), (5, .inl (H.1 1826 19)), (6, .inl dc)]) (st' := [.inr (.inr 1826)]) rfl ?_
                  refine h_cv (i := 293) (j := 158) (b := 1826) (M' := mt_158) (xs := []) (rest := []) rfl rfl rfl rfl rfl rfl (Nat.le_of_ble_eq_true rfl) (Nat.le_of_ble_eq_true rfl) (by omega) (m_good0 (by omega) (by omega : (2 : Int) ≠ 0)) ?_
                  rintro _ _ ⟨rfl, rfl⟩
                  refine h_run 0 (pc' := 118) (l' := [(0, .inr (.inr 1826)), (1, .inl (H.1 1826 1)), (2, .inl (H.1 1826 3)), (3, .inl (H.1 1826 8)), (4, .inl (H.1 1826 13)), (5, .inl (H.1 1826 19)), (6, .inl dc)]) (st' := [.inl 0]) rfl ?_
                  refine h_zeq (off := 17) (t := 135) rfl rfl (by decide) (fun _ => ?_) (fun c => absurd c (by decide))
                  refine h_run 1 (pc' := 136) (l' := [(0, .inr (.inr 1826)), (1, .inl (H.1 1826 1)), (2, .inl (H.1 1826 3)), (3, .inl (H.1 1826 8)), (4, .inl (H.1 1826 13)), (5, .inl (H.1 1826 19)), (6, .inl dc)]) (st' := [.inr (.inr 1826)]) rfl ?_
                  refine h_cv (i := 293) (j := 158) (b := 1826) (M' := mt_158) (xs := []) (rest := []) rfl rfl rfl rfl rfl rfl (Nat.le_of_ble_eq_true rfl) (Nat.le_of_ble_eq_true rfl) (by omega) (m_good0 (by omega) (by omega : (2 : Int) ≠ 0)) ?_
                  rintro _ _ ⟨rfl, rfl⟩
                  refine h_run 0 (pc' := 139) (l' := [(0, .inr (.inr 1826)), (1, .inl (H.1 1826 1)), (2, .inl (H.1 1826 3)), (3, .inl (H.1 1826 8)), (4, .inl (H.1 1826 13)), (5, .inl (H.1 1826 19)), (6, .inl dc)]) (st' := [.inl 0]) rfl ?_
                  refine h_zeq (off := -105) (t := 34) rfl rfl (by decide) (fun _ => ?_) (fun c => absurd c (by decide))
                  have g18 : -2147483648 ≤ (H1.1 1826 30) ∧ (H1.1 1826 30) ≤ 2147483647 := hrg1.1 1826 13 30 _ .int rfl rfl
                  have g19 : -2147483648 ≤ (H1.1 1826 32) ∧ (H1.1 1826 32) ≤ 2147483647 := hrg1.1 1826 13 32 _ .int rfl rfl
                  have g20 : -2147483648 ≤ (H1.1 1826 29) ∧ (H1.1 1826 29) ≤ 2147483647 := hrg1.1 1826 13 29 _ .int rfl rfl
                  have g21 : -2147483648 ≤ (H1.1 1826 28) ∧ (H1.1 1826 28) ≤ 2147483647 := hrg1.1 1826 13 28 _ .int rfl rfl
                  have g22 : -2147483648 ≤ (H1.1 1826 77) ∧ (H1.1 1826 77) ≤ 2147483647 := hrg1.1 1826 13 77 _ .int rfl rfl
                  have g23 : -2147483648 ≤ (H1.1 1826 74) ∧ (H1.1 1826 74) ≤ 2147483647 := hrg1.1 1826 13 74 _ .int rfl rfl
                  have g24 : -2147483648 ≤ (H1.1 1826 67) ∧ (H1.1 1826 67) ≤ 2147483647 := hrg1.1 1826 13 67 _ .int rfl rfl
                  have e25 : (H1.1 1826 67) = (H.1 1826 67) := hf.2.2 67 (by decide)
                  exact ih.1 _ dc (fr_o (fr_o hf (by decide)) (by decide)) (by omega : 0 ≤ (H1.1 1826 30) ∧ (H1.1 1826 30) ≤ (H1.1 1826 29) ∧ (H1.1 1826 29) ≤ 1000) (by omega : 0 ≤ (2 : Int) ∧ (2 : Int) ≤ 5) (by omega : 0 ≤ (H1.1 1826 32) ∧ (H1.1 1826 32) ≤ 1000) (by omega : (H1.1 1826 28) = 0) (by omega : (H1.1 1826 77) = (H.1 1826 77) ∧ (H1.1 1826 74) = (H.1 1826 74) ∧ (H1.1 1826 67) = (H.1 1826 67)) (agp_o (agp_o hag (by decide)) (by decide)) (fun (q : (2 : Int) = 0) => absurd q (by omega)) (mu_lt2 hw (by omega : (H1.1 1826 35) = 0) (by omega : (H1.1 1826 29) = (H1.1 1826 29)) (by omega : (2 : Int) ≠ 0 ∨ ((H1.1 1826 30) ≤ (H1.1 1826 30) ∧ (H1.1 1826 30) ≤ (H1.1 1826 29) ∧ (((H1.1 1826 31) = 0 ∧ (H1.1 1826 31) ≠ 0) ∨ (H1.1 1826 30) < (H1.1 1826 30)))))
                · refine h_run 1 (pc' := 103) (l' := [(0, .inr (.inr 1826)), (1, .inl (H.1 1826 1)), (2, .inl (H.1 1826 3)), (3, .inl (H.1 1826 8)), (4, .inl (H.1 1826 13)), (5, .inl (H.1 1826 19)), (6, .inl dc)]) (st' := [.inr (.inr 1826)]) rfl ?_
                  have g26 : -2147483648 ≤ (H1.1 1826 30) ∧ (H1.1 1826 30) ≤ 2147483647 := hrg1.1 1826 13 30 _ .int rfl rfl
                  have g27 : -2147483648 ≤ (H1.1 1826 29) ∧ (H1.1 1826 29) ≤ 2147483647 := hrg1.1 1826 13 29 _ .int rfl rfl
                  have g29 : -2147483648 ≤ (H1.1 1826 32) ∧ (H1.1 1826 32) ≤ 2147483647 := hrg1.1 1826 13 32 _ .int rfl rfl
                  refine h_cv (i := 408) (j := 187) (b := 1826) (M' := mt_187) (xs := []) (rest := []) rfl rfl rfl rfl rfl rfl (Nat.le_of_ble_eq_true rfl) (Nat.le_of_ble_eq_true rfl) (by omega) (m_tellLaw (by omega) (by omega : 0 ≤ (H1.1 1826 30) ∧ (H1.1 1826 30) ≤ (H1.1 1826 29) ∧ (H1.1 1826 29) ≤ 1000) (by omega : 0 ≤ (H1.1 1826 35) ∧ (H1.1 1826 35) ≤ 5) (by omega : 0 ≤ (H1.1 1826 32) ∧ (H1.1 1826 32) ≤ 1000) (hP1 (by omega : (H1.1 1826 35) = 0)) (by omega : (H1.1 1826 35) = 0)) ?_
                  rintro _ H28 ⟨rfl, hx28f, hx28a, hx28c, -, hx28e, hx28g, hx28p⟩
                  refine h_rng (fun hrg30 => ?_)
                  have hf31 : fr [1, 3, 8, 13, 19, 28, 29, 30, 31, 32, 33, 34, 35, 36, 39, 40, 41, 43, 44, 47, 74, 76, 77] [1827, 1828, 1829, 1830, 1831, 1832, 1833, 1834, 1835, 1836, 1837, 1838, 1839, 1840, 1841, 1842, 1843, 1844, 1845, 1846, 1847, 1849, 1850, 1851, 1852, 1853, 1854] H H28 := fr_t hf hx28f (by decide) (by decide)
                  have ha32 : agp H H28 := agp_tr hag hx28g
                  replace hx28a : (H1.1 1826 30) ≤ (H28.1 1826 30) ∧ (H28.1 1826 30) ≤ (H1.1 1826 29) := hx28a
                  replace hx28p : hid ((H28.1 1826 35) = 0 → PWc H28) := hx28p
                  refine h_run 0 (pc' := 106) (l' := [(0, .inr (.inr 1826)), (1, .inl (H.1 1826 1)), (2, .inl (H.1 1826 3)), (3, .inl (H.1 1826 8)), (4, .inl (H.1 1826 13)), (5, .inl (H.1 1826 19)), (6, .inl dc)]) (st' := []) rfl ?_
                  refine h_run 2 (pc' := 115) (l' := [(0, .inr (.inr 1826)), (1, .inl (H.1 1826 1)), (2, .inl (H.1 1826 3)), (3, .inl (H.1 1826 8)), (4, .inl (H.1 1826 13)), (5, .inl (H.1 1826 19)), (6, .inl dc)]) (st' := [.inr (.inr 1826)]) rfl ?_
                  have g33 : -2147483648 ≤ (H28.1 1826 35) ∧ (H28.1 1826 35) ≤ 2147483647 := hrg30.1 1826 13 35 _ .int rfl rfl
                  refine h_cv (i := 293) (j := 158) (b := 1826) (M' := mt_158) (xs := []) (rest := []) rfl rfl rfl rfl rfl rfl (Nat.le_of_ble_eq_true rfl) (Nat.le_of_ble_eq_true rfl) (by omega) (m_good (by omega)) ?_
                  rintro _ _ ⟨⟨rfl, b34⟩ | ⟨rfl, b34⟩, rfl⟩
                  · have b34x : (H28.1 1826 35) = 0 := b34
                    refine h_run 0 (pc' := 118) (l' := [(0, .inr (.inr 1826)), (1, .inl (H.1 1826 1)), (2, .inl (H.1 1826 3)), (3, .inl (H.1 1826 8)), (4, .inl (H.1 1826 13)), (5, .inl (H.1 1826 19)), (6, .inl dc)]) (st' := [.inl 1]) rfl ?_
                    refine h_zeq (off := 17) (t := 135) rfl rfl (by decide) (fun c => absurd c (by decide)) (fun _ => ?_)
                    refine h_run 2 (pc' := 125) (l' := [(0, .inr (.inr 1826)), (1, .inl (H.1 1826 1)), (2, .inl (H.1 1826 3)), (3, .inl (H.1 1826 8)), (4, .inl (H.1 1826 13)), (5, .inl (H.1 1826 19)), (6, .inl dc)]) (st' := [.inl (H28.1 1826 31)]) rfl ?_
                    have g35 : -2147483648 ≤ (H28.1 1826 31) ∧ (H28.1 1826 31) ≤ 2147483647 := hrg30.1 1826 13 31 _ .int rfl rfl
                    refine h_run 1 (pc' := 127) (l' := [(0, .inr (.inr 1826)), (1, .inl (H.1 1826 1)), (2, .inl (H.1 1826 3)), (3, .inl (H.1 1826 8)), (4, .inl (H.1 1826 13)), (5, .inl (H.1 1826 19)), (6, .inl dc)]) (st' := [.inl 59, .inl (H28.1 1826 31)]) rfl ?_
                    refine h_ieq (off := 8) (t := 135) rfl rfl (by omega) (by decide) (fun c36 => ?_) (fun c36 => ?_)
                    · refine h_run 1 (pc' := 136) (l' := [(0, .inr (.inr 1826)), (1, .inl (H.1 1826 1)), (2, .inl (H.1 1826 3)), (3, .inl (H.1 1826 8)), (4, .inl (H.1 1826 13)), (5, .inl (H.1 1826 19)), (6, .inl dc)]) (st' := [.inr (.inr 1826)]) rfl ?_
                      refine h_cv (i := 293) (j := 158) (b := 1826) (M' := mt_158) (xs := []) (rest := []) rfl rfl rfl rfl rfl rfl (Nat.le_of_ble_eq_true rfl) (Nat.le_of_ble_eq_true rfl) (by omega) (m_good1 (by omega) (by omega : (H28.1 1826 35) = 0)) ?_
                      rintro _ _ ⟨rfl, rfl⟩
                      refine h_run 0 (pc' := 139) (l' := [(0, .inr (.inr 1826)), (1, .inl (H.1 1826 1)), (2, .inl (H.1 1826 3)), (3, .inl (H.1 1826 8)), (4, .inl (H.1 1826 13)), (5, .inl (H.1 1826 19)), (6, .inl dc)]) (st' := [.inl 1]) rfl ?_
                      refine h_zeq (off := -105) (t := 34) rfl rfl (by decide) (fun c => absurd c (by decide)) (fun _ => ?_)
                      refine h_run 1 (pc' := 143) (l' := [(0, .inr (.inr 1826)), (1, .inl (H.1 1826 1)), (2, .inl (H.1 1826 3)), (3, .inl (H.1 1826 8)), (4, .inl (H.1 1826 13)), (5, .inl (H.1 1826 19)), (6, .inl dc)]) (st' := [.inr (.inr 1826)]) rfl ?_
                      have g37 : -2147483648 ≤ (H28.1 1826 30) ∧ (H28.1 1826 30) ≤ 2147483647 := hrg30.1 1826 13 30 _ .int rfl rfl
                      have g38 : -2147483648 ≤ (H28.1 1826 29) ∧ (H28.1 1826 29) ≤ 2147483647 := hrg30.1 1826 13 29 _ .int rfl rfl
                      have e39 : (H28.1 1826 29) = (H1.1 1826 29) := hx28f.2.2 29 (by decide)
                      have g40 : -2147483648 ≤ (H28.1 1826 32) ∧ (H28.1 1826 32) ≤ 2147483647 := hrg30.1 1826 13 32 _ .int rfl rfl
                      refine h_cv (i := 297) (j := 165) (b := 1826) (M' := mt_165) (xs := []) (rest := []) rfl rfl rfl rfl rfl rfl (Nat.le_of_ble_eq_true rfl) (Nat.le_of_ble_eq_true rfl) (by omega) (m_next (by omega) (by omega : 0 ≤ (H28.1 1826 30) ∧ (H28.1 1826 30) ≤ (H28.1 1826 29) ∧ (H28.1 1826 29) ≤ 1000) (by omega : 0 ≤ (H28.1 1826 35) ∧ (H28.1 1826 35) ≤ 5) (by omega : 0 ≤ (H28.1 1826 32) ∧ (H28.1 1826 32) ≤ 1000)) ?_
                      rintro _ H41 ⟨rfl, hx41f, hx41a, hx41b, hx41c, -, hx41e, hx41g⟩
                      refine h_rng (fun hrg42 => ?_)
                      have hf43 : fr [1, 3, 8, 13, 19, 28, 29, 30, 31, 32, 33, 34, 35, 36, 39, 40, 41, 43, 44, 47, 74, 76, 77] [1827, 1828, 1829, 1830, 1831, 1832, 1833, 1834, 1835, 1836, 1837, 1838, 1839, 1840, 1841, 1842, 1843, 1844, 1845, 1846, 1847, 1849, 1850, 1851, 1852, 1853, 1854] H H41 := fr_t hf31 hx41f (by decide) (by decide)
                      have ha44 : agp H H41 := agp_tr ha32 (agp_fr hx41f (by decide) (by decide))
                      replace hx41a : (H28.1 1826 30) ≤ (H41.1 1826 30) := hx41a
                      replace hx41b : (H41.1 1826 30) ≤ (H28.1 1826 29) := hx41b
                      replace hx41g : (H41.1 1826 35) = 0 → ((H41.1 1826 31) = 0 ∨ (H28.1 1826 30) < (H41.1 1826 30)) := hx41g
                      refine h_run 0 (pc' := 146) (l' := [(0, .inr (.inr 1826)), (1, .inl (H.1 1826 1)), (2, .inl (H.1 1826 3)), (3, .inl (H.1 1826 8)), (4, .inl (H.1 1826 13)), (5, .inl (H.1 1826 19)), (6, .inl dc)]) (st' := []) rfl ?_
                      refine h_run 2 (pc' := 34) (l' := [(0, .inr (.inr 1826)), (1, .inl (H.1 1826 1)), (2, .inl (H.1 1826 3)), (3, .inl (H.1 1826 8)), (4, .inl (H.1 1826 13)), (5, .inl (H.1 1826 19)), (6, .inl (dc + 1))]) (st' := []) rfl ?_
                      have g45 : -2147483648 ≤ (H41.1 1826 30) ∧ (H41.1 1826 30) ≤ 2147483647 := hrg42.1 1826 13 30 _ .int rfl rfl
                      have g46 : -2147483648 ≤ (H41.1 1826 35) ∧ (H41.1 1826 35) ≤ 2147483647 := hrg42.1 1826 13 35 _ .int rfl rfl
                      have g47 : -2147483648 ≤ (H41.1 1826 32) ∧ (H41.1 1826 32) ≤ 2147483647 := hrg42.1 1826 13 32 _ .int rfl rfl
                      have g48 : -2147483648 ≤ (H41.1 1826 31) ∧ (H41.1 1826 31) ≤ 2147483647 := hrg42.1 1826 13 31 _ .int rfl rfl
                      have g49 : -2147483648 ≤ (H41.1 1826 29) ∧ (H41.1 1826 29) ≤ 2147483647 := hrg42.1 1826 13 29 _ .int rfl rfl
                      have e50 : (H41.1 1826 29) = (H28.1 1826 29) := hx41f.2.2 29 (by decide)
                      have g51 : -2147483648 ≤ (H41.1 1826 28) ∧ (H41.1 1826 28) ≤ 2147483647 := hrg42.1 1826 13 28 _ .int rfl rfl
                      have e52 : (H41.1 1826 28) = (H28.1 1826 28) := hx41f.2.2 28 (by decide)
                      have e53 : (H28.1 1826 28) = (H1.1 1826 28) := hx28f.2.2 28 (by decide)
                      have g54 : -2147483648 ≤ (H41.1 1826 77) ∧ (H41.1 1826 77) ≤ 2147483647 := hrg42.1 1826 13 77 _ .int rfl rfl
                      have e55 : (H41.1 1826 77) = (H28.1 1826 77) := hx41f.2.2 77 (by decide)
                      have e56 : (H28.1 1826 77) = (H1.1 1826 77) := hx28f.2.2 77 (by decide)
                      have g57 : -2147483648 ≤ (H41.1 1826 74) ∧ (H41.1 1826 74) ≤ 2147483647 := hrg42.1 1826 13 74 _ .int rfl rfl
                      have e58 : (H41.1 1826 74) = (H28.1 1826 74) := hx41f.2.2 74 (by decide)
                      have e59 : (H28.1 1826 74) = (H1.1 1826 74) := hx28f.2.2 74 (by decide)
                      have g60 : -2147483648 ≤ (H41.1 1826 67) ∧ (H41.1 1826 67) ≤ 2147483647 := hrg42.1 1826 13 67 _ .int rfl rfl
                      have e61 : (H41.1 1826 67) = (H28.1 1826 67) := hx41f.2.2 67 (by decide)
                      have e62 : (H28.1 1826 67) = (H1.1 1826 67) := hx28f.2.2 67 (by decide)
                      have e63 : (H1.1 1826 67) = (H.1 1826 67) := hf.2.2 67 (by decide)
                      exact ih.1 _ (dc + 1) hf43 (by omega : 0 ≤ (H41.1 1826 30) ∧ (H41.1 1826 30) ≤ (H41.1 1826 29) ∧ (H41.1 1826 29) ≤ 1000) (by omega : 0 ≤ (H41.1 1826 35) ∧ (H41.1 1826 35) ≤ 5) (by omega : 0 ≤ (H41.1 1826 32) ∧ (H41.1 1826 32) ≤ 1000) (by omega : (H41.1 1826 28) = 0) (by omega : (H41.1 1826 77) = (H.1 1826 77) ∧ (H41.1 1826 74) = (H.1 1826 74) ∧ (H41.1 1826 67) = (H.1 1826 67)) ha44 (fun _ => PWc_fr (hx28p (by omega)) hx41f (by decide) (by decide)) (mu_lt2 hw (by omega : (H1.1 1826 35) = 0) (by omega : (H41.1 1826 29) = (H1.1 1826 29)) (by omega : (H41.1 1826 35) ≠ 0 ∨ ((H1.1 1826 30) ≤ (H41.1 1826 30) ∧ (H41.1 1826 30) ≤ (H1.1 1826 29) ∧ (((H41.1 1826 31) = 0 ∧ (H1.1 1826 31) ≠ 0) ∨ (H1.1 1826 30) < (H41.1 1826 30)))))
                    · refine h_run 2 (pc' := 132) (l' := [(0, .inr (.inr 1826)), (1, .inl (H.1 1826 1)), (2, .inl (H.1 1826 3)), (3, .inl (H.1 1826 8)), (4, .inl (H.1 1826 13)), (5, .inl (H.1 1826 19)), (6, .inl dc)]) (st' := [.inl 2, .inr (.inr 1826)]) rfl ?_
                      refine h_cv (i := 278) (j := 159) (b := 1826) (M' := mt_159) (xs := [.inl 2]) (rest := []) rfl rfl rfl rfl rfl rfl (Nat.le_of_ble_eq_true rfl) (Nat.le_of_ble_eq_true rfl) (by omega) (m_bad0 (by omega) (by omega) (by omega : (H28.1 1826 35) = 0)) ?_
                      rintro _ _ ⟨rfl, rfl⟩
                      refine h_run 0 (pc' := 135) (l' := [(0, .inr (.inr 1826)), (1, .inl (H.1 1826 1)), (2, .inl (H.1 1826 3)), (3, .inl (H.1 1826 8)), (4, .inl (H.1 1826 13)), (5, .inl (H.1 1826 19)), (6, .inl dc)]) (st' := []) rfl ?_
                      refine h_run 1 (pc' := 136) (l' := [(0, .inr (.inr 1826)), (1, .inl (H.1 1826 1)), (2, .inl (H.1 1826 3)), (3, .inl (H.1 1826 8)), (4, .inl (H.1 1826 13)), (5, .inl (H.1 1826 19)), (6, .inl dc)]) (st' := [.inr (.inr 1826)]) rfl ?_
                      refine h_cv (i := 293) (j := 158) (b := 1826) (M' := mt_158) (xs := []) (rest := []) rfl rfl rfl rfl rfl rfl (Nat.le_of_ble_eq_true rfl) (Nat.le_of_ble_eq_true rfl) (by omega) (m_good0 (by omega) (by omega : (2 : Int) ≠ 0)) ?_
                      rintro _ _ ⟨rfl, rfl⟩
                      refine h_run 0 (pc' := 139) (l' := [(0, .inr (.inr 1826)), (1, .inl (H.1 1826 1)), (2, .inl (H.1 1826 3)), (3, .inl (H.1 1826 8)), (4, .inl (H.1 1826 13)), (5, .inl (H.1 1826 19)), (6, .inl dc)]) (st' := [.inl 0]) rfl ?_
                      refine h_zeq (off := -105) (t := 34) rfl rfl (by decide) (fun _ => ?_) (fun c => absurd c (by decide))
                      have g64 : -2147483648 ≤ (H28.1 1826 30) ∧ (H28.1 1826 30) ≤ 2147483647 := hrg30.1 1826 13 30 _ .int rfl rfl
                      have g65 : -2147483648 ≤ (H28.1 1826 32) ∧ (H28.1 1826 32) ≤ 2147483647 := hrg30.1 1826 13 32 _ .int rfl rfl
                      have g66 : -2147483648 ≤ (H28.1 1826 29) ∧ (H28.1 1826 29) ≤ 2147483647 := hrg30.1 1826 13 29 _ .int rfl rfl
                      have e67 : (H28.1 1826 29) = (H1.1 1826 29) := hx28f.2.2 29 (by decide)
                      have g68 : -2147483648 ≤ (H28.1 1826 28) ∧ (H28.1 1826 28) ≤ 2147483647 := hrg30.1 1826 13 28 _ .int rfl rfl
                      have e69 : (H28.1 1826 28) = (H1.1 1826 28) := hx28f.2.2 28 (by decide)
                      have g70 : -2147483648 ≤ (H28.1 1826 77) ∧ (H28.1 1826 77) ≤ 2147483647 := hrg30.1 1826 13 77 _ .int rfl rfl
                      have e71 : (H28.1 1826 77) = (H1.1 1826 77) := hx28f.2.2 77 (by decide)
                      have g72 : -2147483648 ≤ (H28.1 1826 74) ∧ (H28.1 1826 74) ≤ 2147483647 := hrg30.1 1826 13 74 _ .int rfl rfl
                      have e73 : (H28.1 1826 74) = (H1.1 1826 74) := hx28f.2.2 74 (by decide)
                      have g74 : -2147483648 ≤ (H28.1 1826 67) ∧ (H28.1 1826 67) ≤ 2147483647 := hrg30.1 1826 13 67 _ .int rfl rfl
                      have e75 : (H28.1 1826 67) = (H1.1 1826 67) := hx28f.2.2 67 (by decide)
                      have e76 : (H1.1 1826 67) = (H.1 1826 67) := hf.2.2 67 (by decide)
                      exact ih.1 _ dc (fr_o (fr_o hf31 (by decide)) (by decide)) (by omega : 0 ≤ (H28.1 1826 30) ∧ (H28.1 1826 30) ≤ (H28.1 1826 29) ∧ (H28.1 1826 29) ≤ 1000) (by omega : 0 ≤ (2 : Int) ∧ (2 : Int) ≤ 5) (by omega : 0 ≤ (H28.1 1826 32) ∧ (H28.1 1826 32) ≤ 1000) (by omega : (H28.1 1826 28) = 0) (by omega : (H28.1 1826 77) = (H.1 1826 77) ∧ (H28.1 1826 74) = (H.1 1826 74) ∧ (H28.1 1826 67) = (H.1 1826 67)) (agp_o (agp_o ha32 (by decide)) (by decide)) (fun (q : (2 : Int) = 0) => absurd q (by omega)) (mu_lt2 hw (by omega : (H1.1 1826 35) = 0) (by omega : (H28.1 1826 29) = (H1.1 1826 29)) (by omega : (2 : Int) ≠ 0 ∨ ((H1.1 1826 30) ≤ (H28.1 1826 30) ∧ (H28.1 1826 30) ≤ (H1.1 1826 29) ∧ (((H28.1 1826 31) = 0 ∧ (H1.1 1826 31) ≠ 0) ∨ (H1.1 1826 30) < (H28.1 1826 30)))))
                  · have b34x : (H28.1 1826 35) ≠ 0 := b34
                    refine h_run 0 (pc' := 118) (l' := [(0, .inr (.inr 1826)), (1, .inl (H.1 1826 1)), (2, .inl (H.1 1826 3)), (3, .inl (H.1 1826 8)), (4, .inl (H.1 1826 13)), (5, .inl (H.1 1826 19)), (6, .inl dc)]) (st' := [.inl 0]) rfl ?_
                    refine h_zeq (off := 17) (t := 135) rfl rfl (by decide) (fun _ => ?_) (fun c => absurd c (by decide))
                    refine h_run 1 (pc' := 136) (l' := [(0, .inr (.inr 1826)), (1, .inl (H.1 1826 1)), (2, .inl (H.1 1826 3)), (3, .inl (H.1 1826 8)), (4, .inl (H.1 1826 13)), (5, .inl (H.1 1826 19)), (6, .inl dc)]) (st' := [.inr (.inr 1826)]) rfl ?_
                    refine h_cv (i := 293) (j := 158) (b := 1826) (M' := mt_158) (xs := []) (rest := []) rfl rfl rfl rfl rfl rfl (Nat.le_of_ble_eq_true rfl) (Nat.le_of_ble_eq_true rfl) (by omega) (m_good0 (by omega) (by omega : (H28.1 1826 35) ≠ 0)) ?_
                    rintro _ _ ⟨rfl, rfl⟩
                    refine h_run 0 (pc' := 139) (l' := [(0, .inr (.inr 1826)), (1, .inl (H.1 1826 1)), (2, .inl (H.1 1826 3)), (3, .inl (H.1 1826 8)), (4, .inl (H.1 1826 13)), (5, .inl (H.1 1826 19)), (6, .inl dc)]) (st' := [.inl 0]) rfl ?_
                    refine h_zeq (off := -105) (t := 34) rfl rfl (by decide) (fun _ => ?_) (fun c => absurd c (by decide))
                    have g77 : -2147483648 ≤ (H28.1 1826 30) ∧ (H28.1 1826 30) ≤ 2147483647 := hrg30.1 1826 13 30 _ .int rfl rfl
                    have g78 : -2147483648 ≤ (H28.1 1826 32) ∧ (H28.1 1826 32) ≤ 2147483647 := hrg30.1 1826 13 32 _ .int rfl rfl
                    have g79 : -2147483648 ≤ (H28.1 1826 31) ∧ (H28.1 1826 31) ≤ 2147483647 := hrg30.1 1826 13 31 _ .int rfl rfl
                    have g80 : -2147483648 ≤ (H28.1 1826 29) ∧ (H28.1 1826 29) ≤ 2147483647 := hrg30.1 1826 13 29 _ .int rfl rfl
                    have e81 : (H28.1 1826 29) = (H1.1 1826 29) := hx28f.2.2 29 (by decide)
                    have g82 : -2147483648 ≤ (H28.1 1826 28) ∧ (H28.1 1826 28) ≤ 2147483647 := hrg30.1 1826 13 28 _ .int rfl rfl
                    have e83 : (H28.1 1826 28) = (H1.1 1826 28) := hx28f.2.2 28 (by decide)
                    have g84 : -2147483648 ≤ (H28.1 1826 77) ∧ (H28.1 1826 77) ≤ 2147483647 := hrg30.1 1826 13 77 _ .int rfl rfl
                    have e85 : (H28.1 1826 77) = (H1.1 1826 77) := hx28f.2.2 77 (by decide)
                    have g86 : -2147483648 ≤ (H28.1 1826 74) ∧ (H28.1 1826 74) ≤ 2147483647 := hrg30.1 1826 13 74 _ .int rfl rfl
                    have e87 : (H28.1 1826 74) = (H1.1 1826 74) := hx28f.2.2 74 (by decide)
                    have g88 : -2147483648 ≤ (H28.1 1826 67) ∧ (H28.1 1826 67) ≤ 2147483647 := hrg30.1 1826 13 67 _ .int rfl rfl
                    have e89 : (H28.1 1826 67) = (H1.1 1826 67) := hx28f.2.2 67 (by decide)
                    have e90 : (H1.1 1826 67) = (H.1 1826 67) := hf.2.2 67 (by decide)
                    exact ih.1 _ dc hf31 (by omega : 0 ≤ (H28.1 1826 30) ∧ (H28.1 1826 30) ≤ (H28.1 1826 29) ∧ (H28.1 1826 29) ≤ 1000) (by omega : 0 ≤ (H28.1 1826 35) ∧ (H28.1 1826 35) ≤ 5) (by omega : 0 ≤ (H28.1 1826 32) ∧ (H28.1 1826 32) ≤ 1000) (by omega : (H28.1 1826 28) = 0) (by omega : (H28.1 1826 77) = (H.1 1826 77) ∧ (H28.1 1826 74) = (H.1 1826 74) ∧ (H28.1 1826 67) = (H.1 1826 67)) ha32 (fun (q : (H28.1 1826 35) = 0) => absurd q (by omega)) (mu_lt2 hw (by omega : (H1.1 1826 35) = 0) (by omega : (H28.1 1826 29) = (H1.1 1826 29)) (by omega : (H28.1 1826 35) ≠ 0 ∨ ((H1.1 1826 30) ≤ (H28.1 1826 30) ∧ (H28.1 1826 30) ≤ (H1.1 1826 29) ∧ (((H28.1 1826 31) = 0 ∧ (H1.1 1826 31) ≠ 0) ∨ (H1.1 1826 30) < (H28.1 1826 30)))))
              · refine h_run 1 (pc' := 87) (l' := [(0, .inr (.inr 1826)), (1, .inl (H.1 1826 1)), (2, .inl (H.1 1826 3)), (3, .inl (H.1 1826 8)), (4, .inl (H.1 1826 13)), (5, .inl (H.1 1826 19)), (6, .inl dc)]) (st' := [.inr (.inr 1826)]) rfl ?_
                have g91 : -2147483648 ≤ (H1.1 1826 30) ∧ (H1.1 1826 30) ≤ 2147483647 := hrg1.1 1826 13 30 _ .int rfl rfl
                have g92 : -2147483648 ≤ (H1.1 1826 29) ∧ (H1.1 1826 29) ≤ 2147483647 := hrg1.1 1826 13 29 _ .int rfl rfl
                have g94 : -2147483648 ≤ (H1.1 1826 32) ∧ (H1.1 1826 32) ≤ 2147483647 := hrg1.1 1826 13 32 _ .int rfl rfl
                refine h_cv (i := 405) (j := 186) (b := 1826) (M' := mt_186) (xs := []) (rest := []) rfl rfl rfl rfl rfl rfl (Nat.le_of_ble_eq_true rfl) (Nat.le_of_ble_eq_true rfl) (by omega) (m_rulem (by omega) (by omega : 0 ≤ (H1.1 1826 30) ∧ (H1.1 1826 30) ≤ (H1.1 1826 29) ∧ (H1.1 1826 29) ≤ 1000) (by omega : 0 ≤ (H1.1 1826 35) ∧ (H1.1 1826 35) ≤ 5) (by omega : 0 ≤ (H1.1 1826 32) ∧ (H1.1 1826 32) ≤ 1000) (hP1 (by omega : (H1.1 1826 35) = 0)) (by omega : (H1.1 1826 35) = 0)) ?_
                rintro _ H93 ⟨rfl, hx93f, hx93a, hx93c, -, hx93e, hx93g, hx93p⟩
                refine h_rng (fun hrg95 => ?_)
                have hf96 : fr [1, 3, 8, 13, 19, 28, 29, 30, 31, 32, 33, 34, 35, 36, 39, 40, 41, 43, 44, 47, 74, 76, 77] [1827, 1828, 1829, 1830, 1831, 1832, 1833, 1834, 1835, 1836, 1837, 1838, 1839, 1840, 1841, 1842, 1843, 1844, 1845, 1846, 1847, 1849, 1850, 1851, 1852, 1853, 1854] H H93 := fr_t hf hx93f (by decide) (by decide)
                have ha97 : agp H H93 := agp_tr hag hx93g
                replace hx93a : (H1.1 1826 30) ≤ (H93.1 1826 30) ∧ (H93.1 1826 30) ≤ (H1.1 1826 29) := hx93a
                replace hx93p : hid ((H93.1 1826 35) = 0 → PWc H93) := hx93p
                refine h_run 0 (pc' := 90) (l' := [(0, .inr (.inr 1826)), (1, .inl (H.1 1826 1)), (2, .inl (H.1 1826 3)), (3, .inl (H.1 1826 8)), (4, .inl (H.1 1826 13)), (5, .inl (H.1 1826 19)), (6, .inl dc)]) (st' := []) rfl ?_
                refine h_run 2 (pc' := 115) (l' := [(0, .inr (.inr 1826)), (1, .inl (H.1 1826 1)), (2, .inl (H.1 1826 3)), (3, .inl (H.1 1826 8)), (4, .inl (H.1 1826 13)), (5, .inl (H.1 1826 19)), (6, .inl dc)]) (st' := [.inr (.inr 1826)]) rfl ?_
                have g98 : -2147483648 ≤ (H93.1 1826 35) ∧ (H93.1 1826 35) ≤ 2147483647 := hrg95.1 1826 13 35 _ .int rfl rfl
                refine h_cv (i := 293) (j := 158) (b := 1826) (M' := mt_158) (xs := []) (rest := []) rfl rfl rfl rfl rfl rfl (Nat.le_of_ble_eq_true rfl) (Nat.le_of_ble_eq_true rfl) (by omega) (m_good (by omega)) ?_
                rintro _ _ ⟨⟨rfl, b99⟩ | ⟨rfl, b99⟩, rfl⟩
                · have b99x : (H93.1 1826 35) = 0 := b99
                  refine h_run 0 (pc' := 118) (l' := [(0, .inr (.inr 1826)), (1, .inl (H.1 1826 1)), (2, .inl (H.1 1826 3)), (3, .inl (H.1 1826 8)), (4, .inl (H.1 1826 13)), (5, .inl (H.1 1826 19)), (6, .inl dc)]) (st' := [.inl 1]) rfl ?_
                  refine h_zeq (off := 17) (t := 135) rfl rfl (by decide) (fun c => absurd c (by decide)) (fun _ => ?_)
                  refine h_run 2 (pc' := 125) (l' := [(0, .inr (.inr 1826)), (1, .inl (H.1 1826 1)), (2, .inl (H.1 1826 3)), (3, .inl (H.1 1826 8)), (4, .inl (H.1 1826 13)), (5, .inl (H.1 1826 19)), (6, .inl dc)]) (st' := [.inl (H93.1 1826 31)]) rfl ?_
                  have g100 : -2147483648 ≤ (H93.1 1826 31) ∧ (H93.1 1826 31) ≤ 2147483647 := hrg95.1 1826 13 31 _ .int rfl rfl
                  refine h_run 1 (pc' := 127) (l' := [(0, .inr (.inr 1826)), (1, .inl (H.1 1826 1)), (2, .inl (H.1 1826 3)), (3, .inl (H.1 1826 8)), (4, .inl (H.1 1826 13)), (5, .inl (H.1 1826 19)), (6, .inl dc)]) (st' := [.inl 59, .inl (H93.1 1826 31)]) rfl ?_
                  refine h_ieq (off := 8) (t := 135) rfl rfl (by omega) (by decide) (fun c101 => ?_) (fun c101 => ?_)
                  · refine h_run 1 (pc' := 136) (l' := [(0, .inr (.inr 1826)), (1, .inl (H.1 1826 1)), (2, .inl (H.1 1826 3)), (3, .inl (H.1 1826 8)), (4, .inl (H.1 1826 13)), (5, .inl (H.1 1826 19)), (6, .inl dc)]) (st' := [.inr (.inr 1826)]) rfl ?_
                    refine h_cv (i := 293) (j := 158) (b := 1826) (M' := mt_158) (xs := []) (rest := []) rfl rfl rfl rfl rfl rfl (Nat.le_of_ble_eq_true rfl) (Nat.le_of_ble_eq_true rfl) (by omega) (m_good1 (by omega) (by omega : (H93.1 1826 35) = 0)) ?_
                    rintro _ _ ⟨rfl, rfl⟩
                    refine h_run 0 (pc' := 139) (l' := [(0, .inr (.inr 1826)), (1, .inl (H.1 1826 1)), (2, .inl (H.1 1826 3)), (3, .inl (H.1 1826 8)), (4, .inl (H.1 1826 13)), (5, .inl (H.1 1826 19)), (6, .inl dc)]) (st' := [.inl 1]) rfl ?_
                    refine h_zeq (off := -105) (t := 34) rfl rfl (by decide) (fun c => absurd c (by decide)) (fun _ => ?_)
                    refine h_run 1 (pc' := 143) (l' := [(0, .inr (.inr 1826)), (1, .inl (H.1 1826 1)), (2, .inl (H.1 1826 3)), (3, .inl (H.1 1826 8)), (4, .inl (H.1 1826 13)), (5, .inl (H.1 1826 19)), (6, .inl dc)]) (st' := [.inr (.inr 1826)]) rfl ?_
                    have g102 : -2147483648 ≤ (H93.1 1826 30) ∧ (H93.1 1826 30) ≤ 2147483647 := hrg95.1 1826 13 30 _ .int rfl rfl
                    have g103 : -2147483648 ≤ (H93.1 1826 29) ∧ (H93.1 1826 29) ≤ 2147483647 := hrg95.1 1826 13 29 _ .int rfl rfl
                    have e104 : (H93.1 1826 29) = (H1.1 1826 29) := hx93f.2.2 29 (by decide)
                    have g105 : -2147483648 ≤ (H93.1 1826 32) ∧ (H93.1 1826 32) ≤ 2147483647 := hrg95.1 1826 13 32 _ .int rfl rfl
                    refine h_cv (i := 297) (j := 165) (b := 1826) (M' := mt_165) (xs := []) (rest := []) rfl rfl rfl rfl rfl rfl (Nat.le_of_ble_eq_true rfl) (Nat.le_of_ble_eq_true rfl) (by omega) (m_next (by omega) (by omega : 0 ≤ (H93.1 1826 30) ∧ (H93.1 1826 30) ≤ (H93.1 1826 29) ∧ (H93.1 1826 29) ≤ 1000) (by omega : 0 ≤ (H93.1 1826 35) ∧ (H93.1 1826 35) ≤ 5) (by omega : 0 ≤ (H93.1 1826 32) ∧ (H93.1 1826 32) ≤ 1000)) ?_
                    rintro _ H106 ⟨rfl, hx106f, hx106a, hx106b, hx106c, -, hx106e, hx106g⟩
                    refine h_rng (fun hrg107 => ?_)
                    have hf108 : fr [1, 3, 8, 13, 19, 28, 29, 30, 31, 32, 33, 34, 35, 36, 39, 40, 41, 43, 44, 47, 74, 76, 77] [1827, 1828, 1829, 1830, 1831, 1832, 1833, 1834, 1835, 1836, 1837, 1838, 1839, 1840, 1841, 1842, 1843, 1844, 1845, 1846, 1847, 1849, 1850, 1851, 1852, 1853, 1854] H H106 := fr_t hf96 hx106f (by decide) (by decide)
                    have ha109 : agp H H106 := agp_tr ha97 (agp_fr hx106f (by decide) (by decide))
                    replace hx106a : (H93.1 1826 30) ≤ (H106.1 1826 30) := hx106a
                    replace hx106b : (H106.1 1826 30) ≤ (H93.1 1826 29) := hx106b
                    replace hx106g : (H106.1 1826 35) = 0 → ((H106.1 1826 31) = 0 ∨ (H93.1 1826 30) < (H106.1 1826 30)) := hx106g
                    refine h_run 0 (pc' := 146) (l' := [(0, .inr (.inr 1826)), (1, .inl (H.1 1826 1)), (2, .inl (H.1 1826 3)), (3, .inl (H.1 1826 8)), (4, .inl (H.1 1826 13)), (5, .inl (H.1 1826 19)), (6, .inl dc)]) (st' := []) rfl ?_
                    refine h_run 2 (pc' := 34) (l' := [(0, .inr (.inr 1826)), (1, .inl (H.1 1826 1)), (2, .inl (H.1 1826 3)), (3, .inl (H.1 1826 8)), (4, .inl (H.1 1826 13)), (5, .inl (H.1 1826 19)), (6, .inl (dc + 1))]) (st' := []) rfl ?_
                    have g110 : -2147483648 ≤ (H106.1 1826 30) ∧ (H106.1 1826 30) ≤ 2147483647 := hrg107.1 1826 13 30 _ .int rfl rfl
                    have g111 : -2147483648 ≤ (H106.1 1826 35) ∧ (H106.1 1826 35) ≤ 2147483647 := hrg107.1 1826 13 35 _ .int rfl rfl
                    have g112 : -2147483648 ≤ (H106.1 1826 32) ∧ (H106.1 1826 32) ≤ 2147483647 := hrg107.1 1826 13 32 _ .int rfl rfl
                    have g113 : -2147483648 ≤ (H106.1 1826 31) ∧ (H106.1 1826 31) ≤ 2147483647 := hrg107.1 1826 13 31 _ .int rfl rfl
                    have g114 : -2147483648 ≤ (H106.1 1826 29) ∧ (H106.1 1826 29) ≤ 2147483647 := hrg107.1 1826 13 29 _ .int rfl rfl
                    have e115 : (H106.1 1826 29) = (H93.1 1826 29) := hx106f.2.2 29 (by decide)
                    have g116 : -2147483648 ≤ (H106.1 1826 28) ∧ (H106.1 1826 28) ≤ 2147483647 := hrg107.1 1826 13 28 _ .int rfl rfl
                    have e117 : (H106.1 1826 28) = (H93.1 1826 28) := hx106f.2.2 28 (by decide)
                    have e118 : (H93.1 1826 28) = (H1.1 1826 28) := hx93f.2.2 28 (by decide)
                    have g119 : -2147483648 ≤ (H106.1 1826 77) ∧ (H106.1 1826 77) ≤ 2147483647 := hrg107.1 1826 13 77 _ .int rfl rfl
                    have e120 : (H106.1 1826 77) = (H93.1 1826 77) := hx106f.2.2 77 (by decide)
                    have e121 : (H93.1 1826 77) = (H1.1 1826 77) := hx93f.2.2 77 (by decide)
                    have g122 : -2147483648 ≤ (H106.1 1826 74) ∧ (H106.1 1826 74) ≤ 2147483647 := hrg107.1 1826 13 74 _ .int rfl rfl
                    have e123 : (H106.1 1826 74) = (H93.1 1826 74) := hx106f.2.2 74 (by decide)
                    have e124 : (H93.1 1826 74) = (H1.1 1826 74) := hx93f.2.2 74 (by decide)
                    have g125 : -2147483648 ≤ (H106.1 1826 67) ∧ (H106.1 1826 67) ≤ 2147483647 := hrg107.1 1826 13 67 _ .int rfl rfl
                    have e126 : (H106.1 1826 67) = (H93.1 1826 67) := hx106f.2.2 67 (by decide)
                    have e127 : (H93.1 1826 67) = (H1.1 1826 67) := hx93f.2.2 67 (by decide)
                    have e128 : (H1.1 1826 67) = (H.1 1826 67) := hf.2.2 67 (by decide)
                    exact ih.1 _ (dc + 1) hf108 (by omega : 0 ≤ (H106.1 1826 30) ∧ (H106.1 1826 30) ≤ (H106.1 1826 29) ∧ (H106.1 1826 29) ≤ 1000) (by omega : 0 ≤ (H106.1 1826 35) ∧ (H106.1 1826 35) ≤ 5) (by omega : 0 ≤ (H106.1 1826 32) ∧ (H106.1 1826 32) ≤ 1000) (by omega : (H106.1 1826 28) = 0) (by omega : (H106.1 1826 77) = (H.1 1826 77) ∧ (H106.1 1826 74) = (H.1 1826 74) ∧ (H106.1 1826 67) = (H.1 1826 67)) ha109 (fun _ => PWc_fr (hx93p (by omega)) hx106f (by decide) (by decide)) (mu_lt2 hw (by omega : (H1.1 1826 35) = 0) (by omega : (H106.1 1826 29) = (H1.1 1826 29)) (by omega : (H106.1 1826 35) ≠ 0 ∨ ((H1.1 1826 30) ≤ (H106.1 1826 30) ∧ (H106.1 1826 30) ≤ (H1.1 1826 29) ∧ (((H106.1 1826 31) = 0 ∧ (H1.1 1826 31) ≠ 0) ∨ (H1.1 1826 30) < (H106.1 1826 30)))))
                  · refine h_run 2 (pc' := 132) (l' := [(0, .inr (.inr 1826)), (1, .inl (H.1 1826 1)), (2, .inl (H.1 1826 3)), (3, .inl (H.1 1826 8)), (4, .inl (H.1 1826 13)), (5, .inl (H.1 1826 19)), (6, .inl dc)]) (st' := [.inl 2, .inr (.inr 1826)]) rfl ?_
                    refine h_cv (i := 278) (j := 159) (b := 1826) (M' := mt_159) (xs := [.inl 2]) (rest := []) rfl rfl rfl rfl rfl rfl (Nat.le_of_ble_eq_true rfl) (Nat.le_of_ble_eq_true rfl) (by omega) (m_bad0 (by omega) (by omega) (by omega : (H93.1 1826 35) = 0)) ?_
                    rintro _ _ ⟨rfl, rfl⟩
                    refine h_run 0 (pc' := 135) (l' := [(0, .inr (.inr 1826)), (1, .inl (H.1 1826 1)), (2, .inl (H.1 1826 3)), (3, .inl (H.1 1826 8)), (4, .inl (H.1 1826 13)), (5, .inl (H.1 1826 19)), (6, .inl dc)]) (st' := []) rfl ?_
                    refine h_run 1 (pc' := 136) (l' := [(0, .inr (.inr 1826)), (1, .inl (H.1 1826 1)), (2, .inl (H.1 1826 3)), (3, .inl (H.1 1826 8)), (4, .inl (H.1 1826 13)), (5, .inl (H.1 1826 19)), (6, .inl dc)]) (st' := [.inr (.inr 1826)]) rfl ?_
                    refine h_cv (i := 293) (j := 158) (b := 1826) (M' := mt_158) (xs := []) (rest := []) rfl rfl rfl rfl rfl rfl (Nat.le_of_ble_eq_true rfl) (Nat.le_of_ble_eq_true rfl) (by omega) (m_good0 (by omega) (by omega : (2 : Int) ≠ 0)) ?_
                    rintro _ _ ⟨rfl, rfl⟩
                    refine h_run 0 (pc' := 139) (l' := [(0, .inr (.inr 1826)), (1, .inl (H.1 1826 1)), (2, .inl (H.1 1826 3)), (3, .inl (H.1 1826 8)), (4, .inl (H.1 1826 13)), (5, .inl (H.1 1826 19)), (6, .inl dc)]) (st' := [.inl 0]) rfl ?_
                    refine h_zeq (off := -105) (t := 34) rfl rfl (by decide) (fun _ => ?_) (fun c => absurd c (by decide))
                    have g129 : -2147483648 ≤ (H93.1 1826 30) ∧ (H93.1 1826 30) ≤ 2147483647 := hrg95.1 1826 13 30 _ .int rfl rfl
                    have g130 : -2147483648 ≤ (H93.1 1826 32) ∧ (H93.1 1826 32) ≤ 2147483647 := hrg95.1 1826 13 32 _ .int rfl rfl
                    have g131 : -2147483648 ≤ (H93.1 1826 29) ∧ (H93.1 1826 29) ≤ 2147483647 := hrg95.1 1826 13 29 _ .int rfl rfl
                    have e132 : (H93.1 1826 29) = (H1.1 1826 29) := hx93f.2.2 29 (by decide)
                    have g133 : -2147483648 ≤ (H93.1 1826 28) ∧ (H93.1 1826 28) ≤ 2147483647 := hrg95.1 1826 13 28 _ .int rfl rfl
                    have e134 : (H93.1 1826 28) = (H1.1 1826 28) := hx93f.2.2 28 (by decide)
                    have g135 : -2147483648 ≤ (H93.1 1826 77) ∧ (H93.1 1826 77) ≤ 2147483647 := hrg95.1 1826 13 77 _ .int rfl rfl
                    have e136 : (H93.1 1826 77) = (H1.1 1826 77) := hx93f.2.2 77 (by decide)
                    have g137 : -2147483648 ≤ (H93.1 1826 74) ∧ (H93.1 1826 74) ≤ 2147483647 := hrg95.1 1826 13 74 _ .int rfl rfl
                    have e138 : (H93.1 1826 74) = (H1.1 1826 74) := hx93f.2.2 74 (by decide)
                    have g139 : -2147483648 ≤ (H93.1 1826 67) ∧ (H93.1 1826 67) ≤ 2147483647 := hrg95.1 1826 13 67 _ .int rfl rfl
                    have e140 : (H93.1 1826 67) = (H1.1 1826 67) := hx93f.2.2 67 (by decide)
                    have e141 : (H1.1 1826 67) = (H.1 1826 67) := hf.2.2 67 (by decide)
                    exact ih.1 _ dc (fr_o (fr_o hf96 (by decide)) (by decide)) (by omega : 0 ≤ (H93.1 1826 30) ∧ (H93.1 1826 30) ≤ (H93.1 1826 29) ∧ (H93.1 1826 29) ≤ 1000) (by omega : 0 ≤ (2 : Int) ∧ (2 : Int) ≤ 5) (by omega : 0 ≤ (H93.1 1826 32) ∧ (H93.1 1826 32) ≤ 1000) (by omega : (H93.1 1826 28) = 0) (by omega : (H93.1 1826 77) = (H.1 1826 77) ∧ (H93.1 1826 74) = (H.1 1826 74) ∧ (H93.1 1826 67) = (H.1 1826 67)) (agp_o (agp_o ha97 (by decide)) (by decide)) (fun (q : (2 : Int) = 0) => absurd q (by omega)) (mu_lt2 hw (by omega : (H1.1 1826 35) = 0) (by omega : (H93.1 1826 29) = (H1.1 1826 29)) (by omega : (2 : Int) ≠ 0 ∨ ((H1.1 1826 30) ≤ (H93.1 1826 30) ∧ (H93.1 1826 30) ≤ (H1.1 1826 29) ∧ (((H93.1 1826 31) = 0 ∧ (H1.1 1826 31) ≠ 0) ∨ (H1.1 1826 30) < (H93.1 1826 30)))))
                · have b99x : (H93.1 1826 35) ≠ 0 := b99
                  refine h_run 0 (pc' := 118) (l' := [(0, .inr (.inr 1826)), (1, .inl (H.1 1826 1)), (2, .inl (H.1 1826 3)), (3, .inl (H.1 1826 8)), (4, .inl (H.1 1826 13)), (5, .inl (H.1 1826 19)), (6, .inl dc)]) (st' := [.inl 0]) rfl ?_
                  refine h_zeq (off := 17) (t := 135) rfl rfl (by decide) (fun _ => ?_) (fun c => absurd c (by decide))
                  refine h_run 1 (pc' := 136) (l' := [(0, .inr (.inr 1826)), (1, .inl (H.1 1826 1)), (2, .inl (H.1 1826 3)), (3, .inl (H.1 1826 8)), (4, .inl (H.1 1826 13)), (5, .inl (H.1 1826 19)), (6, .inl dc)]) (st' := [.inr (.inr 1826)]) rfl ?_
                  refine h_cv (i := 293) (j := 158) (b := 1826) (M' := mt_158) (xs := []) (rest := []) rfl rfl rfl rfl rfl rfl (Nat.le_of_ble_eq_true rfl) (Nat.le_of_ble_eq_true rfl) (by omega) (m_good0 (by omega) (by omega : (H93.1 1826 35) ≠ 0)) ?_
                  rintro _ _ ⟨rfl, rfl⟩
                  refine h_run 0 (pc' := 139) (l' := [(0, .inr (.inr 1826)), (1, .inl (H.1 1826 1)), (2, .inl (H.1 1826 3)), (3, .inl (H.1 1826 8)), (4, .inl (H.1 1826 13)), (5, .inl (H.1 1826 19)), (6, .inl dc)]) (st' := [.inl 0]) rfl ?_
                  refine h_zeq (off := -105) (t := 34) rfl rfl (by decide) (fun _ => ?_) (fun c => absurd c (by decide))
                  have g142 : -2147483648 ≤ (H93.1 1826 30) ∧ (H93.1 1826 30) ≤ 2147483647 := hrg95.1 1826 13 30 _ .int rfl rfl
                  have g143 : -2147483648 ≤ (H93.1 1826 32) ∧ (H93.1 1826 32) ≤ 2147483647 := hrg95.1 1826 13 32 _ .int rfl rfl
                  have g144 : -2147483648 ≤ (H93.1 1826 31) ∧ (H93.1 1826 31) ≤ 2147483647 := hrg95.1 1826 13 31 _ .int rfl rfl
                  have g145 : -2147483648 ≤ (H93.1 1826 29) ∧ (H93.1 1826 29) ≤ 2147483647 := hrg95.1 1826 13 29 _ .int rfl rfl
                  have e146 : (H93.1 1826 29) = (H1.1 1826 29) := hx93f.2.2 29 (by decide)
                  have g147 : -2147483648 ≤ (H93.1 1826 28) ∧ (H93.1 1826 28) ≤ 2147483647 := hrg95.1 1826 13 28 _ .int rfl rfl
                  have e148 : (H93.1 1826 28) = (H1.1 1826 28) := hx93f.2.2 28 (by decide)
                  have g149 : -2147483648 ≤ (H93.1 1826 77) ∧ (H93.1 1826 77) ≤ 2147483647 := hrg95.1 1826 13 77 _ .int rfl rfl
                  have e150 : (H93.1 1826 77) = (H1.1 1826 77) := hx93f.2.2 77 (by decide)
                  have g151 : -2147483648 ≤ (H93.1 1826 74) ∧ (H93.1 1826 74) ≤ 2147483647 := hrg95.1 1826 13 74 _ .int rfl rfl
                  have e152 : (H93.1 1826 74) = (H1.1 1826 74) := hx93f.2.2 74 (by decide)
                  have g153 : -2147483648 ≤ (H93.1 1826 67) ∧ (H93.1 1826 67) ≤ 2147483647 := hrg95.1 1826 13 67 _ .int rfl rfl
                  have e154 : (H93.1 1826 67) = (H1.1 1826 67) := hx93f.2.2 67 (by decide)
                  have e155 : (H1.1 1826 67) = (H.1 1826 67) := hf.2.2 67 (by decide)
                  exact ih.1 _ dc hf96 (by omega : 0 ≤ (H93.1 1826 30) ∧ (H93.1 1826 30) ≤ (H93.1 1826 29) ∧ (H93.1 1826 29) ≤ 1000) (by omega : 0 ≤ (H93.1 1826 35) ∧ (H93.1 1826 35) ≤ 5) (by omega : 0 ≤ (H93.1 1826 32) ∧ (H93.1 1826 32) ≤ 1000) (by omega : (H93.1 1826 28) = 0) (by omega : (H93.1 1826 77) = (H.1 1826 77) ∧ (H93.1 1826 74) = (H.1 1826 74) ∧ (H93.1 1826 67) = (H.1 1826 67)) ha97 (fun (q : (H93.1 1826 35) = 0) => absurd q (by omega)) (mu_lt2 hw (by omega : (H1.1 1826 35) = 0) (by omega : (H93.1 1826 29) = (H1.1 1826 29)) (by omega : (H93.1 1826 35) ≠ 0 ∨ ((H1.1 1826 30) ≤ (H93.1 1826 30) ∧ (H93.1 1826 30) ≤ (H1.1 1826 29) ∧ (((H93.1 1826 31) = 0 ∧ (H1.1 1826 31) ≠ 0) ∨ (H1.1 1826 30) < (H93.1 1826 30)))))
            · refine h_run 1 (pc' := 72) (l' := [(0, .inr (.inr 1826)), (1, .inl (H.1 1826 1)), (2, .inl (H.1 1826 3)), (3, .inl (H.1 1826 8)), (4, .inl (H.1 1826 13)), (5, .inl (H.1 1826 19)), (6, .inl dc)]) (st' := [.inr (.inr 1826)]) rfl ?_
              have g156 : -2147483648 ≤ (H1.1 1826 30) ∧ (H1.1 1826 30) ≤ 2147483647 := hrg1.1 1826 13 30 _ .int rfl rfl
              have g157 : -2147483648 ≤ (H1.1 1826 29) ∧ (H1.1 1826 29) ≤ 2147483647 := hrg1.1 1826 13 29 _ .int rfl rfl
              have g159 : -2147483648 ≤ (H1.1 1826 32) ∧ (H1.1 1826 32) ≤ 2147483647 := hrg1.1 1826 13 32 _ .int rfl rfl
              refine h_cv (i := 402) (j := 173) (b := 1826) (M' := mt_173) (xs := []) (rest := []) rfl rfl rfl rfl rfl rfl (Nat.le_of_ble_eq_true rfl) (Nat.le_of_ble_eq_true rfl) (by omega) (m_function (by omega) (by omega : 0 ≤ (H1.1 1826 30) ∧ (H1.1 1826 30) ≤ (H1.1 1826 29) ∧ (H1.1 1826 29) ≤ 1000) (by omega : 0 ≤ (H1.1 1826 35) ∧ (H1.1 1826 35) ≤ 5) (by omega : 0 ≤ (H1.1 1826 32) ∧ (H1.1 1826 32) ≤ 1000) (hP1 (by omega : (H1.1 1826 35) = 0)) (by omega : (H1.1 1826 35) = 0)) ?_
              rintro _ H158 ⟨rfl, hx158f, hx158a, hx158c, -, hx158e, hx158g, hx158p⟩
              refine h_rng (fun hrg160 => ?_)
              have hf161 : fr [1, 3, 8, 13, 19, 28, 29, 30, 31, 32, 33, 34, 35, 36, 39, 40, 41, 43, 44, 47, 74, 76, 77] [1827, 1828, 1829, 1830, 1831, 1832, 1833, 1834, 1835, 1836, 1837, 1838, 1839, 1840, 1841, 1842, 1843, 1844, 1845, 1846, 1847, 1849, 1850, 1851, 1852, 1853, 1854] H H158 := fr_t hf hx158f (by decide) (by decide)
              have ha162 : agp H H158 := agp_tr hag hx158g
              replace hx158a : (H1.1 1826 30) ≤ (H158.1 1826 30) ∧ (H158.1 1826 30) ≤ (H1.1 1826 29) := hx158a
              replace hx158p : hid ((H158.1 1826 35) = 0 → PWc H158) := hx158p
              refine h_run 0 (pc' := 75) (l' := [(0, .inr (.inr 1826)), (1, .inl (H.1 1826 1)), (2, .inl (H.1 1826 3)), (3, .inl (H.1 1826 8)), (4, .inl (H.1 1826 13)), (5, .inl (H.1 1826 19)), (6, .inl dc)]) (st' := []) rfl ?_
              refine h_run 2 (pc' := 115) (l' := [(0, .inr (.inr 1826)), (1, .inl (H.1 1826 1)), (2, .inl (H.1 1826 3)), (3, .inl (H.1 1826 8)), (4, .inl (H.1 1826 13)), (5, .inl (H.1 1826 19)), (6, .inl dc)]) (st' := [.inr (.inr 1826)]) rfl ?_
              have g163 : -2147483648 ≤ (H158.1 1826 35) ∧ (H158.1 1826 35) ≤ 2147483647 := hrg160.1 1826 13 35 _ .int rfl rfl
              refine h_cv (i := 293) (j := 158) (b := 1826) (M' := mt_158) (xs := []) (rest := []) rfl rfl rfl rfl rfl rfl (Nat.le_of_ble_eq_true rfl) (Nat.le_of_ble_eq_true rfl) (by omega) (m_good (by omega)) ?_
              rintro _ _ ⟨⟨rfl, b164⟩ | ⟨rfl, b164⟩, rfl⟩
              · have b164x : (H158.1 1826 35) = 0 := b164
                refine h_run 0 (pc' := 118) (l' := [(0, .inr (.inr 1826)), (1, .inl (H.1 1826 1)), (2, .inl (H.1 1826 3)), (3, .inl (H.1 1826 8)), (4, .inl (H.1 1826 13)), (5, .inl (H.1 1826 19)), (6, .inl dc)]) (st' := [.inl 1]) rfl ?_
                refine h_zeq (off := 17) (t := 135) rfl rfl (by decide) (fun c => absurd c (by decide)) (fun _ => ?_)
                refine h_run 2 (pc' := 125) (l' := [(0, .inr (.inr 1826)), (1, .inl (H.1 1826 1)), (2, .inl (H.1 1826 3)), (3, .inl (H.1 1826 8)), (4, .inl (H.1 1826 13)), (5, .inl (H.1 1826 19)), (6, .inl dc)]) (st' := [.inl (H158.1 1826 31)]) rfl ?_
                have g165 : -2147483648 ≤ (H158.1 1826 31) ∧ (H158.1 1826 31) ≤ 2147483647 := hrg160.1 1826 13 31 _ .int rfl rfl
                refine h_run 1 (pc' := 127) (l' := [(0, .inr (.inr 1826)), (1, .inl (H.1 1826 1)), (2, .inl (H.1 1826 3)), (3, .inl (H.1 1826 8)), (4, .inl (H.1 1826 13)), (5, .inl (H.1 1826 19)), (6, .inl dc)]) (st' := [.inl 59, .inl (H158.1 1826 31)]) rfl ?_
                refine h_ieq (off := 8) (t := 135) rfl rfl (by omega) (by decide) (fun c166 => ?_) (fun c166 => ?_)
                · refine h_run 1 (pc' := 136) (l' := [(0, .inr (.inr 1826)), (1, .inl (H.1 1826 1)), (2, .inl (H.1 1826 3)), (3, .inl (H.1 1826 8)), (4, .inl (H.1 1826 13)), (5, .inl (H.1 1826 19)), (6, .inl dc)]) (st' := [.inr (.inr 1826)]) rfl ?_
                  refine h_cv (i := 293) (j := 158) (b := 1826) (M' := mt_158) (xs := []) (rest := []) rfl rfl rfl rfl rfl rfl (Nat.le_of_ble_eq_true rfl) (Nat.le_of_ble_eq_true rfl) (by omega) (m_good1 (by omega) (by omega : (H158.1 1826 35) = 0)) ?_
                  rintro _ _ ⟨rfl, rfl⟩
                  refine h_run 0 (pc' := 139) (l' := [(0, .inr (.inr 1826)), (1, .inl (H.1 1826 1)), (2, .inl (H.1 1826 3)), (3, .inl (H.1 1826 8)), (4, .inl (H.1 1826 13)), (5, .inl (H.1 1826 19)), (6, .inl dc)]) (st' := [.inl 1]) rfl ?_
                  refine h_zeq (off := -105) (t := 34) rfl rfl (by decide) (fun c => absurd c (by decide)) (fun _ => ?_)
                  refine h_run 1 (pc' := 143) (l' := [(0, .inr (.inr 1826)), (1, .inl (H.1 1826 1)), (2, .inl (H.1 1826 3)), (3, .inl (H.1 1826 8)), (4, .inl (H.1 1826 13)), (5, .inl (H.1 1826 19)), (6, .inl dc)]) (st' := [.inr (.inr 1826)]) rfl ?_
                  have g167 : -2147483648 ≤ (H158.1 1826 30) ∧ (H158.1 1826 30) ≤ 2147483647 := hrg160.1 1826 13 30 _ .int rfl rfl
                  have g168 : -2147483648 ≤ (H158.1 1826 29) ∧ (H158.1 1826 29) ≤ 2147483647 := hrg160.1 1826 13 29 _ .int rfl rfl
                  have e169 : (H158.1 1826 29) = (H1.1 1826 29) := hx158f.2.2 29 (by decide)
                  have g170 : -2147483648 ≤ (H158.1 1826 32) ∧ (H158.1 1826 32) ≤ 2147483647 := hrg160.1 1826 13 32 _ .int rfl rfl
                  refine h_cv (i := 297) (j := 165) (b := 1826) (M' := mt_165) (xs := []) (rest := []) rfl rfl rfl rfl rfl rfl (Nat.le_of_ble_eq_true rfl) (Nat.le_of_ble_eq_true rfl) (by omega) (m_next (by omega) (by omega : 0 ≤ (H158.1 1826 30) ∧ (H158.1 1826 30) ≤ (H158.1 1826 29) ∧ (H158.1 1826 29) ≤ 1000) (by omega : 0 ≤ (H158.1 1826 35) ∧ (H158.1 1826 35) ≤ 5) (by omega : 0 ≤ (H158.1 1826 32) ∧ (H158.1 1826 32) ≤ 1000)) ?_
                  rintro _ H171 ⟨rfl, hx171f, hx171a, hx171b, hx171c, -, hx171e, hx171g⟩
                  refine h_rng (fun hrg172 => ?_)
                  have hf173 : fr [1, 3, 8, 13, 19, 28, 29, 30, 31, 32, 33, 34, 35, 36, 39, 40, 41, 43, 44, 47, 74, 76, 77] [1827, 1828, 1829, 1830, 1831, 1832, 1833, 1834, 1835, 1836, 1837, 1838, 1839, 1840, 1841, 1842, 1843, 1844, 1845, 1846, 1847, 1849, 1850, 1851, 1852, 1853, 1854] H H171 := fr_t hf161 hx171f (by decide) (by decide)
                  have ha174 : agp H H171 := agp_tr ha162 (agp_fr hx171f (by decide) (by decide))
                  replace hx171a : (H158.1 1826 30) ≤ (H171.1 1826 30) := hx171a
                  replace hx171b : (H171.1 1826 30) ≤ (H158.1 1826 29) := hx171b
                  replace hx171g : (H171.1 1826 35) = 0 → ((H171.1 1826 31) = 0 ∨ (H158.1 1826 30) < (H171.1 1826 30)) := hx171g
                  refine h_run 0 (pc' := 146) (l' := [(0, .inr (.inr 1826)), (1, .inl (H.1 1826 1)), (2, .inl (H.1 1826 3)), (3, .inl (H.1 1826 8)), (4, .inl (H.1 1826 13)), (5, .inl (H.1 1826 19)), (6, .inl dc)]) (st' := []) rfl ?_
                  refine h_run 2 (pc' := 34) (l' := [(0, .inr (.inr 1826)), (1, .inl (H.1 1826 1)), (2, .inl (H.1 1826 3)), (3, .inl (H.1 1826 8)), (4, .inl (H.1 1826 13)), (5, .inl (H.1 1826 19)), (6, .inl (dc + 1))]) (st' := []) rfl ?_
                  have g175 : -2147483648 ≤ (H171.1 1826 30) ∧ (H171.1 1826 30) ≤ 2147483647 := hrg172.1 1826 13 30 _ .int rfl rfl
                  have g176 : -2147483648 ≤ (H171.1 1826 35) ∧ (H171.1 1826 35) ≤ 2147483647 := hrg172.1 1826 13 35 _ .int rfl rfl
                  have g177 : -2147483648 ≤ (H171.1 1826 32) ∧ (H171.1 1826 32) ≤ 2147483647 := hrg172.1 1826 13 32 _ .int rfl rfl
                  have g178 : -2147483648 ≤ (H171.1 1826 31) ∧ (H171.1 1826 31) ≤ 2147483647 := hrg172.1 1826 13 31 _ .int rfl rfl
                  have g179 : -2147483648 ≤ (H171.1 1826 29) ∧ (H171.1 1826 29) ≤ 2147483647 := hrg172.1 1826 13 29 _ .int rfl rfl
                  have e180 : (H171.1 1826 29) = (H158.1 1826 29) := hx171f.2.2 29 (by decide)
                  have g181 : -2147483648 ≤ (H171.1 1826 28) ∧ (H171.1 1826 28) ≤ 2147483647 := hrg172.1 1826 13 28 _ .int rfl rfl
                  have e182 : (H171.1 1826 28) = (H158.1 1826 28) := hx171f.2.2 28 (by decide)
                  have e183 : (H158.1 1826 28) = (H1.1 1826 28) := hx158f.2.2 28 (by decide)
                  have g184 : -2147483648 ≤ (H171.1 1826 77) ∧ (H171.1 1826 77) ≤ 2147483647 := hrg172.1 1826 13 77 _ .int rfl rfl
                  have e185 : (H171.1 1826 77) = (H158.1 1826 77) := hx171f.2.2 77 (by decide)
                  have e186 : (H158.1 1826 77) = (H1.1 1826 77) := hx158f.2.2 77 (by decide)
                  have g187 : -2147483648 ≤ (H171.1 1826 74) ∧ (H171.1 1826 74) ≤ 2147483647 := hrg172.1 1826 13 74 _ .int rfl rfl
                  have e188 : (H171.1 1826 74) = (H158.1 1826 74) := hx171f.2.2 74 (by decide)
                  have e189 : (H158.1 1826 74) = (H1.1 1826 74) := hx158f.2.2 74 (by decide)
                  have g190 : -2147483648 ≤ (H171.1 1826 67) ∧ (H171.1 1826 67) ≤ 2147483647 := hrg172.1 1826 13 67 _ .int rfl rfl
                  have e191 : (H171.1 1826 67) = (H158.1 1826 67) := hx171f.2.2 67 (by decide)
                  have e192 : (H158.1 1826 67) = (H1.1 1826 67) := hx158f.2.2 67 (by decide)
                  have e193 : (H1.1 1826 67) = (H.1 1826 67) := hf.2.2 67 (by decide)
                  exact ih.1 _ (dc + 1) hf173 (by omega : 0 ≤ (H171.1 1826 30) ∧ (H171.1 1826 30) ≤ (H171.1 1826 29) ∧ (H171.1 1826 29) ≤ 1000) (by omega : 0 ≤ (H171.1 1826 35) ∧ (H171.1 1826 35) ≤ 5) (by omega : 0 ≤ (H171.1 1826 32) ∧ (H171.1 1826 32) ≤ 1000) (by omega : (H171.1 1826 28) = 0) (by omega : (H171.1 1826 77) = (H.1 1826 77) ∧ (H171.1 1826 74) = (H.1 1826 74) ∧ (H171.1 1826 67) = (H.1 1826 67)) ha174 (fun _ => PWc_fr (hx158p (by omega)) hx171f (by decide) (by decide)) (mu_lt2 hw (by omega : (H1.1 1826 35) = 0) (by omega : (H171.1 1826 29) = (H1.1 1826 29)) (by omega : (H171.1 1826 35) ≠ 0 ∨ ((H1.1 1826 30) ≤ (H171.1 1826 30) ∧ (H171.1 1826 30) ≤ (H1.1 1826 29) ∧ (((H171.1 1826 31) = 0 ∧ (H1.1 1826 31) ≠ 0) ∨ (H1.1 1826 30) < (H171.1 1826 30)))))
                · refine h_run 2 (pc' := 132) (l' := [(0, .inr (.inr 1826)), (1, .inl (H.1 1826 1)), (2, .inl (H.1 1826 3)), (3, .inl (H.1 1826 8)), (4, .inl (H.1 1826 13)), (5, .inl (H.1 1826 19)), (6, .inl dc)]) (st' := [.inl 2, .inr (.inr 1826)]) rfl ?_
                  refine h_cv (i := 278) (j := 159) (b := 1826) (M' := mt_159) (xs := [.inl 2]) (rest := []) rfl rfl rfl rfl rfl rfl (Nat.le_of_ble_eq_true rfl) (Nat.le_of_ble_eq_true rfl) (by omega) (m_bad0 (by omega) (by omega) (by omega : (H158.1 1826 35) = 0)) ?_
                  rintro _ _ ⟨rfl, rfl⟩
                  refine h_run 0 (pc' := 135) (l' := [(0, .inr (.inr 1826)), (1, .inl (H.1 1826 1)), (2, .inl (H.1 1826 3)), (3, .inl (H.1 1826 8)), (4, .inl (H.1 1826 13)), (5, .inl (H.1 1826 19)), (6, .inl dc)]) (st' := []) rfl ?_
                  refine h_run 1 (pc' := 136) (l' := [(0, .inr (.inr 1826)), (1, .inl (H.1 1826 1)), (2, .inl (H.1 1826 3)), (3, .inl (H.1 1826 8)), (4, .inl (H.1 1826 13)), (5, .inl (H.1 1826 19)), (6, .inl dc)]) (st' := [.inr (.inr 1826)]) rfl ?_
                  refine h_cv (i := 293) (j := 158) (b := 1826) (M' := mt_158) (xs := []) (rest := []) rfl rfl rfl rfl rfl rfl (Nat.le_of_ble_eq_true rfl) (Nat.le_of_ble_eq_true rfl) (by omega) (m_good0 (by omega) (by omega : (2 : Int) ≠ 0)) ?_
                  rintro _ _ ⟨rfl, rfl⟩
                  refine h_run 0 (pc' := 139) (l' := [(0, .inr (.inr 1826)), (1, .inl (H.1 1826 1)), (2, .inl (H.1 1826 3)), (3, .inl (H.1 1826 8)), (4, .inl (H.1 1826 13)), (5, .inl (H.1 1826 19)), (6, .inl dc)]) (st' := [.inl 0]) rfl ?_
                  refine h_zeq (off := -105) (t := 34) rfl rfl (by decide) (fun _ => ?_) (fun c => absurd c (by decide))
                  have g194 : -2147483648 ≤ (H158.1 1826 30) ∧ (H158.1 1826 30) ≤ 2147483647 := hrg160.1 1826 13 30 _ .int rfl rfl
                  have g195 : -2147483648 ≤ (H158.1 1826 32) ∧ (H158.1 1826 32) ≤ 2147483647 := hrg160.1 1826 13 32 _ .int rfl rfl
                  have g196 : -2147483648 ≤ (H158.1 1826 29) ∧ (H158.1 1826 29) ≤ 2147483647 := hrg160.1 1826 13 29 _ .int rfl rfl
                  have e197 : (H158.1 1826 29) = (H1.1 1826 29) := hx158f.2.2 29 (by decide)
                  have g198 : -2147483648 ≤ (H158.1 1826 28) ∧ (H158.1 1826 28) ≤ 2147483647 := hrg160.1 1826 13 28 _ .int rfl rfl
                  have e199 : (H158.1 1826 28) = (H1.1 1826 28) := hx158f.2.2 28 (by decide)
                  have g200 : -2147483648 ≤ (H158.1 1826 77) ∧ (H158.1 1826 77) ≤ 2147483647 := hrg160.1 1826 13 77 _ .int rfl rfl
                  have e201 : (H158.1 1826 77) = (H1.1 1826 77) := hx158f.2.2 77 (by decide)
                  have g202 : -2147483648 ≤ (H158.1 1826 74) ∧ (H158.1 1826 74) ≤ 2147483647 := hrg160.1 1826 13 74 _ .int rfl rfl
                  have e203 : (H158.1 1826 74) = (H1.1 1826 74) := hx158f.2.2 74 (by decide)
                  have g204 : -2147483648 ≤ (H158.1 1826 67) ∧ (H158.1 1826 67) ≤ 2147483647 := hrg160.1 1826 13 67 _ .int rfl rfl
                  have e205 : (H158.1 1826 67) = (H1.1 1826 67) := hx158f.2.2 67 (by decide)
                  have e206 : (H1.1 1826 67) = (H.1 1826 67) := hf.2.2 67 (by decide)
                  exact ih.1 _ dc (fr_o (fr_o hf161 (by decide)) (by decide)) (by omega : 0 ≤ (H158.1 1826 30) ∧ (H158.1 1826 30) ≤ (H158.1 1826 29) ∧ (H158.1 1826 29) ≤ 1000) (by omega : 0 ≤ (2 : Int) ∧ (2 : Int) ≤ 5) (by omega : 0 ≤ (H158.1 1826 32) ∧ (H158.1 1826 32) ≤ 1000) (by omega : (H158.1 1826 28) = 0) (by omega : (H158.1 1826 77) = (H.1 1826 77) ∧ (H158.1 1826 74) = (H.1 1826 74) ∧ (H158.1 1826 67) = (H.1 1826 67)) (agp_o (agp_o ha162 (by decide)) (by decide)) (fun (q : (2 : Int) = 0) => absurd q (by omega)) (mu_lt2 hw (by omega : (H1.1 1826 35) = 0) (by omega : (H158.1 1826 29) = (H1.1 1826 29)) (by omega : (2 : Int) ≠ 0 ∨ ((H1.1 1826 30) ≤ (H158.1 1826 30) ∧ (H158.1 1826 30) ≤ (H1.1 1826 29) ∧ (((H158.1 1826 31) = 0 ∧ (H1.1 1826 31) ≠ 0) ∨ (H1.1 1826 30) < (H158.1 1826 30)))))
              · have b164x : (H158.1 1826 35) ≠ 0 := b164
                refine h_run 0 (pc' := 118) (l' := [(0, .inr (.inr 1826)), (1, .inl (H.1 1826 1)), (2, .inl (H.1 1826 3)), (3, .inl (H.1 1826 8)), (4, .inl (H.1 1826 13)), (5, .inl (H.1 1826 19)), (6, .inl dc)]) (st' := [.inl 0]) rfl ?_
                refine h_zeq (off := 17) (t := 135) rfl rfl (by decide) (fun _ => ?_) (fun c => absurd c (by decide))
                refine h_run 1 (pc' := 136) (l' := [(0, .inr (.inr 1826)), (1, .inl (H.1 1826 1)), (2, .inl (H.1 1826 3)), (3, .inl (H.1 1826 8)), (4, .inl (H.1 1826 13)), (5, .inl (H.1 1826 19)), (6, .inl dc)]) (st' := [.inr (.inr 1826)]) rfl ?_
                refine h_cv (i := 293) (j := 158) (b := 1826) (M' := mt_158) (xs := []) (rest := []) rfl rfl rfl rfl rfl rfl (Nat.le_of_ble_eq_true rfl) (Nat.le_of_ble_eq_true rfl) (by omega) (m_good0 (by omega) (by omega : (H158.1 1826 35) ≠ 0)) ?_
                rintro _ _ ⟨rfl, rfl⟩
                refine h_run 0 (pc' := 139) (l' := [(0, .inr (.inr 1826)), (1, .inl (H.1 1826 1)), (2, .inl (H.1 1826 3)), (3, .inl (H.1 1826 8)), (4, .inl (H.1 1826 13)), (5, .inl (H.1 1826 19)), (6, .inl dc)]) (st' := [.inl 0]) rfl ?_
                refine h_zeq (off := -105) (t := 34) rfl rfl (by decide) (fun _ => ?_) (fun c => absurd c (by decide))
                have g207 : -2147483648 ≤ (H158.1 1826 30) ∧ (H158.1 1826 30) ≤ 2147483647 := hrg160.1 1826 13 30 _ .int rfl rfl
                have g208 : -2147483648 ≤ (H158.1 1826 32) ∧ (H158.1 1826 32) ≤ 2147483647 := hrg160.1 1826 13 32 _ .int rfl rfl
                have g209 : -2147483648 ≤ (H158.1 1826 31) ∧ (H158.1 1826 31) ≤ 2147483647 := hrg160.1 1826 13 31 _ .int rfl rfl
                have g210 : -2147483648 ≤ (H158.1 1826 29) ∧ (H158.1 1826 29) ≤ 2147483647 := hrg160.1 1826 13 29 _ .int rfl rfl
                have e211 : (H158.1 1826 29) = (H1.1 1826 29) := hx158f.2.2 29 (by decide)
                have g212 : -2147483648 ≤ (H158.1 1826 28) ∧ (H158.1 1826 28) ≤ 2147483647 := hrg160.1 1826 13 28 _ .int rfl rfl
                have e213 : (H158.1 1826 28) = (H1.1 1826 28) := hx158f.2.2 28 (by decide)
                have g214 : -2147483648 ≤ (H158.1 1826 77) ∧ (H158.1 1826 77) ≤ 2147483647 := hrg160.1 1826 13 77 _ .int rfl rfl
                have e215 : (H158.1 1826 77) = (H1.1 1826 77) := hx158f.2.2 77 (by decide)
                have g216 : -2147483648 ≤ (H158.1 1826 74) ∧ (H158.1 1826 74) ≤ 2147483647 := hrg160.1 1826 13 74 _ .int rfl rfl
                have e217 : (H158.1 1826 74) = (H1.1 1826 74) := hx158f.2.2 74 (by decide)
                have g218 : -2147483648 ≤ (H158.1 1826 67) ∧ (H158.1 1826 67) ≤ 2147483647 := hrg160.1 1826 13 67 _ .int rfl rfl
                have e219 : (H158.1 1826 67) = (H1.1 1826 67) := hx158f.2.2 67 (by decide)
                have e220 : (H1.1 1826 67) = (H.1 1826 67) := hf.2.2 67 (by decide)
                exact ih.1 _ dc hf161 (by omega : 0 ≤ (H158.1 1826 30) ∧ (H158.1 1826 30) ≤ (H158.1 1826 29) ∧ (H158.1 1826 29) ≤ 1000) (by omega : 0 ≤ (H158.1 1826 35) ∧ (H158.1 1826 35) ≤ 5) (by omega : 0 ≤ (H158.1 1826 32) ∧ (H158.1 1826 32) ≤ 1000) (by omega : (H158.1 1826 28) = 0) (by omega : (H158.1 1826 77) = (H.1 1826 77) ∧ (H158.1 1826 74) = (H.1 1826 74) ∧ (H158.1 1826 67) = (H.1 1826 67)) ha162 (fun (q : (H158.1 1826 35) = 0) => absurd q (by omega)) (mu_lt2 hw (by omega : (H1.1 1826 35) = 0) (by omega : (H158.1 1826 29) = (H1.1 1826 29)) (by omega : (H158.1 1826 35) ≠ 0 ∨ ((H1.1 1826 30) ≤ (H158.1 1826 30) ∧ (H158.1 1826 30) ≤ (H1.1 1826 29) ∧ (((H158.1 1826 31) = 0 ∧ (H1.1 1826 31) ≠ 0) ∨ (H1.1 1826 30) < (H158.1 1826 30)))))
          · refine h_run 1 (pc' := 57) (l' := [(0, .inr (.inr 1826)), (1, .inl (H.1 1826 1)), (2, .inl (H.1 1826 3)), (3, .inl (H.1 1826 8)), (4, .inl (H.1 1826 13)), (5, .inl (H.1 1826 19)), (6, .inl dc)]) (st' := [.inr (.inr 1826)]) rfl ?_
            have g221 : -2147483648 ≤ (H1.1 1826 30) ∧ (H1.1 1826 30) ≤ 2147483647 := hrg1.1 1826 13 30 _ .int rfl rfl
            have g222 : -2147483648 ≤ (H1.1 1826 29) ∧ (H1.1 1826 29) ≤ 2147483647 := hrg1.1 1826 13 29 _ .int rfl rfl
            have g224 : -2147483648 ≤ (H1.1 1826 32) ∧ (H1.1 1826 32) ≤ 2147483647 := hrg1.1 1826 13 32 _ .int rfl rfl
            refine h_cv (i := 399) (j := 170) (b := 1826) (M' := mt_170) (xs := []) (rest := []) rfl rfl rfl rfl rfl rfl (Nat.le_of_ble_eq_true rfl) (Nat.le_of_ble_eq_true rfl) (by omega) (m_data (by omega) (by omega : 0 ≤ (H1.1 1826 30) ∧ (H1.1 1826 30) ≤ (H1.1 1826 29) ∧ (H1.1 1826 29) ≤ 1000) (by omega : 0 ≤ (H1.1 1826 35) ∧ (H1.1 1826 35) ≤ 5) (by omega : 0 ≤ (H1.1 1826 32) ∧ (H1.1 1826 32) ≤ 1000) (hP1 (by omega : (H1.1 1826 35) = 0)) (by omega : (H1.1 1826 35) = 0)) ?_
            rintro _ H223 ⟨rfl, hx223f, hx223a, hx223c, -, hx223e, hx223g, hx223p⟩
            refine h_rng (fun hrg225 => ?_)
            have hf226 : fr [1, 3, 8, 13, 19, 28, 29, 30, 31, 32, 33, 34, 35, 36, 39, 40, 41, 43, 44, 47, 74, 76, 77] [1827, 1828, 1829, 1830, 1831, 1832, 1833, 1834, 1835, 1836, 1837, 1838, 1839, 1840, 1841, 1842, 1843, 1844, 1845, 1846, 1847, 1849, 1850, 1851, 1852, 1853, 1854] H H223 := fr_t hf hx223f (by decide) (by decide)
            have ha227 : agp H H223 := agp_tr hag hx223g
            replace hx223a : (H1.1 1826 30) ≤ (H223.1 1826 30) ∧ (H223.1 1826 30) ≤ (H1.1 1826 29) := hx223a
            replace hx223p : hid ((H223.1 1826 35) = 0 → PWc H223) := hx223p
            refine h_run 0 (pc' := 60) (l' := [(0, .inr (.inr 1826)), (1, .inl (H.1 1826 1)), (2, .inl (H.1 1826 3)), (3, .inl (H.1 1826 8)), (4, .inl (H.1 1826 13)), (5, .inl (H.1 1826 19)), (6, .inl dc)]) (st' := []) rfl ?_
            refine h_run 2 (pc' := 115) (l' := [(0, .inr (.inr 1826)), (1, .inl (H.1 1826 1)), (2, .inl (H.1 1826 3)), (3, .inl (H.1 1826 8)), (4, .inl (H.1 1826 13)), (5, .inl (H.1 1826 19)), (6, .inl dc)]) (st' := [.inr (.inr 1826)]) rfl ?_
            have g228 : -2147483648 ≤ (H223.1 1826 35) ∧ (H223.1 1826 35) ≤ 2147483647 := hrg225.1 1826 13 35 _ .int rfl rfl
            refine h_cv (i := 293) (j := 158) (b := 1826) (M' := mt_158) (xs := []) (rest := []) rfl rfl rfl rfl rfl rfl (Nat.le_of_ble_eq_true rfl) (Nat.le_of_ble_eq_true rfl) (by omega) (m_good (by omega)) ?_
            rintro _ _ ⟨⟨rfl, b229⟩ | ⟨rfl, b229⟩, rfl⟩
            · have b229x : (H223.1 1826 35) = 0 := b229
              refine h_run 0 (pc' := 118) (l' := [(0, .inr (.inr 1826)), (1, .inl (H.1 1826 1)), (2, .inl (H.1 1826 3)), (3, .inl (H.1 1826 8)), (4, .inl (H.1 1826 13)), (5, .inl (H.1 1826 19)), (6, .inl dc)]) (st' := [.inl 1]) rfl ?_
              refine h_zeq (off := 17) (t := 135) rfl rfl (by decide) (fun c => absurd c (by decide)) (fun _ => ?_)
              refine h_run 2 (pc' := 125) (l' := [(0, .inr (.inr 1826)), (1, .inl (H.1 1826 1)), (2, .inl (H.1 1826 3)), (3, .inl (H.1 1826 8)), (4, .inl (H.1 1826 13)), (5, .inl (H.1 1826 19)), (6, .inl dc)]) (st' := [.inl (H223.1 1826 31)]) rfl ?_
              have g230 : -2147483648 ≤ (H223.1 1826 31) ∧ (H223.1 1826 31) ≤ 2147483647 := hrg225.1 1826 13 31 _ .int rfl rfl
              refine h_run 1 (pc' := 127) (l' := [(0, .inr (.inr 1826)), (1, .inl (H.1 1826 1)), (2, .inl (H.1 1826 3)), (3, .inl (H.1 1826 8)), (4, .inl (H.1 1826 13)), (5, .inl (H.1 1826 19)), (6, .inl dc)]) (st' := [.inl 59, .inl (H223.1 1826 31)]) rfl ?_
              refine h_ieq (off := 8) (t := 135) rfl rfl (by omega) (by decide) (fun c231 => ?_) (fun c231 => ?_)
              · refine h_run 1 (pc' := 136) (l' := [(0, .inr (.inr 1826)), (1, .inl (H.1 1826 1)), (2, .inl (H.1 1826 3)), (3, .inl (H.1 1826 8)), (4, .inl (H.1 1826 13)), (5, .inl (H.1 1826 19)), (6, .inl dc)]) (st' := [.inr (.inr 1826)]) rfl ?_
                refine h_cv (i := 293) (j := 158) (b := 1826) (M' := mt_158) (xs := []) (rest := []) rfl rfl rfl rfl rfl rfl (Nat.le_of_ble_eq_true rfl) (Nat.le_of_ble_eq_true rfl) (by omega) (m_good1 (by omega) (by omega : (H223.1 1826 35) = 0)) ?_
                rintro _ _ ⟨rfl, rfl⟩
                refine h_run 0 (pc' := 139) (l' := [(0, .inr (.inr 1826)), (1, .inl (H.1 1826 1)), (2, .inl (H.1 1826 3)), (3, .inl (H.1 1826 8)), (4, .inl (H.1 1826 13)), (5, .inl (H.1 1826 19)), (6, .inl dc)]) (st' := [.inl 1]) rfl ?_
                refine h_zeq (off := -105) (t := 34) rfl rfl (by decide) (fun c => absurd c (by decide)) (fun _ => ?_)
                refine h_run 1 (pc' := 143) (l' := [(0, .inr (.inr 1826)), (1, .inl (H.1 1826 1)), (2, .inl (H.1 1826 3)), (3, .inl (H.1 1826 8)), (4, .inl (H.1 1826 13)), (5, .inl (H.1 1826 19)), (6, .inl dc)]) (st' := [.inr (.inr 1826)]) rfl ?_
                have g232 : -2147483648 ≤ (H223.1 1826 30) ∧ (H223.1 1826 30) ≤ 2147483647 := hrg225.1 1826 13 30 _ .int rfl rfl
                have g233 : -2147483648 ≤ (H223.1 1826 29) ∧ (H223.1 1826 29) ≤ 2147483647 := hrg225.1 1826 13 29 _ .int rfl rfl
                have e234 : (H223.1 1826 29) = (H1.1 1826 29) := hx223f.2.2 29 (by decide)
                have g235 : -2147483648 ≤ (H223.1 1826 32) ∧ (H223.1 1826 32) ≤ 2147483647 := hrg225.1 1826 13 32 _ .int rfl rfl
                refine h_cv (i := 297) (j := 165) (b := 1826) (M' := mt_165) (xs := []) (rest := []) rfl rfl rfl rfl rfl rfl (Nat.le_of_ble_eq_true rfl) (Nat.le_of_ble_eq_true rfl) (by omega) (m_next (by omega) (by omega : 0 ≤ (H223.1 1826 30) ∧ (H223.1 1826 30) ≤ (H223.1 1826 29) ∧ (H223.1 1826 29) ≤ 1000) (by omega : 0 ≤ (H223.1 1826 35) ∧ (H223.1 1826 35) ≤ 5) (by omega : 0 ≤ (H223.1 1826 32) ∧ (H223.1 1826 32) ≤ 1000)) ?_
                rintro _ H236 ⟨rfl, hx236f, hx236a, hx236b, hx236c, -, hx236e, hx236g⟩
                refine h_rng (fun hrg237 => ?_)
                have hf238 : fr [1, 3, 8, 13, 19, 28, 29, 30, 31, 32, 33, 34, 35, 36, 39, 40, 41, 43, 44, 47, 74, 76, 77] [1827, 1828, 1829, 1830, 1831, 1832, 1833, 1834, 1835, 1836, 1837, 1838, 1839, 1840, 1841, 1842, 1843, 1844, 1845, 1846, 1847, 1849, 1850, 1851, 1852, 1853, 1854] H H236 := fr_t hf226 hx236f (by decide) (by decide)
                have ha239 : agp H H236 := agp_tr ha227 (agp_fr hx236f (by decide) (by decide))
                replace hx236a : (H223.1 1826 30) ≤ (H236.1 1826 30) := hx236a
                replace hx236b : (H236.1 1826 30) ≤ (H223.1 1826 29) := hx236b
                replace hx236g : (H236.1 1826 35) = 0 → ((H236.1 1826 31) = 0 ∨ (H223.1 1826 30) < (H236.1 1826 30)) := hx236g
                refine h_run 0 (pc' := 146) (l' := [(0, .inr (.inr 1826)), (1, .inl (H.1 1826 1)), (2, .inl (H.1 1826 3)), (3, .inl (H.1 1826 8)), (4, .inl (H.1 1826 13)), (5, .inl (H.1 1826 19)), (6, .inl dc)]) (st' := []) rfl ?_
                refine h_run 2 (pc' := 34) (l' := [(0, .inr (.inr 1826)), (1, .inl (H.1 1826 1)), (2, .inl (H.1 1826 3)), (3, .inl (H.1 1826 8)), (4, .inl (H.1 1826 13)), (5, .inl (H.1 1826 19)), (6, .inl (dc + 1))]) (st' := []) rfl ?_
                have g240 : -2147483648 ≤ (H236.1 1826 30) ∧ (H236.1 1826 30) ≤ 2147483647 := hrg237.1 1826 13 30 _ .int rfl rfl
                have g241 : -2147483648 ≤ (H236.1 1826 35) ∧ (H236.1 1826 35) ≤ 2147483647 := hrg237.1 1826 13 35 _ .int rfl rfl
                have g242 : -2147483648 ≤ (H236.1 1826 32) ∧ (H236.1 1826 32) ≤ 2147483647 := hrg237.1 1826 13 32 _ .int rfl rfl
                have g243 : -2147483648 ≤ (H236.1 1826 31) ∧ (H236.1 1826 31) ≤ 2147483647 := hrg237.1 1826 13 31 _ .int rfl rfl
                have g244 : -2147483648 ≤ (H236.1 1826 29) ∧ (H236.1 1826 29) ≤ 2147483647 := hrg237.1 1826 13 29 _ .int rfl rfl
                have e245 : (H236.1 1826 29) = (H223.1 1826 29) := hx236f.2.2 29 (by decide)
                have g246 : -2147483648 ≤ (H236.1 1826 28) ∧ (H236.1 1826 28) ≤ 2147483647 := hrg237.1 1826 13 28 _ .int rfl rfl
                have e247 : (H236.1 1826 28) = (H223.1 1826 28) := hx236f.2.2 28 (by decide)
                have e248 : (H223.1 1826 28) = (H1.1 1826 28) := hx223f.2.2 28 (by decide)
                have g249 : -2147483648 ≤ (H236.1 1826 77) ∧ (H236.1 1826 77) ≤ 2147483647 := hrg237.1 1826 13 77 _ .int rfl rfl
                have e250 : (H236.1 1826 77) = (H223.1 1826 77) := hx236f.2.2 77 (by decide)
                have e251 : (H223.1 1826 77) = (H1.1 1826 77) := hx223f.2.2 77 (by decide)
                have g252 : -2147483648 ≤ (H236.1 1826 74) ∧ (H236.1 1826 74) ≤ 2147483647 := hrg237.1 1826 13 74 _ .int rfl rfl
                have e253 : (H236.1 1826 74) = (H223.1 1826 74) := hx236f.2.2 74 (by decide)
                have e254 : (H223.1 1826 74) = (H1.1 1826 74) := hx223f.2.2 74 (by decide)
                have g255 : -2147483648 ≤ (H236.1 1826 67) ∧ (H236.1 1826 67) ≤ 2147483647 := hrg237.1 1826 13 67 _ .int rfl rfl
                have e256 : (H236.1 1826 67) = (H223.1 1826 67) := hx236f.2.2 67 (by decide)
                have e257 : (H223.1 1826 67) = (H1.1 1826 67) := hx223f.2.2 67 (by decide)
                have e258 : (H1.1 1826 67) = (H.1 1826 67) := hf.2.2 67 (by decide)
                exact ih.1 _ (dc + 1) hf238 (by omega : 0 ≤ (H236.1 1826 30) ∧ (H236.1 1826 30) ≤ (H236.1 1826 29) ∧ (H236.1 1826 29) ≤ 1000) (by omega : 0 ≤ (H236.1 1826 35) ∧ (H236.1 1826 35) ≤ 5) (by omega : 0 ≤ (H236.1 1826 32) ∧ (H236.1 1826 32) ≤ 1000) (by omega : (H236.1 1826 28) = 0) (by omega : (H236.1 1826 77) = (H.1 1826 77) ∧ (H236.1 1826 74) = (H.1 1826 74) ∧ (H236.1 1826 67) = (H.1 1826 67)) ha239 (fun _ => PWc_fr (hx223p (by omega)) hx236f (by decide) (by decide)) (mu_lt2 hw (by omega : (H1.1 1826 35) = 0) (by omega : (H236.1 1826 29) = (H1.1 1826 29)) (by omega : (H236.1 1826 35) ≠ 0 ∨ ((H1.1 1826 30) ≤ (H236.1 1826 30) ∧ (H236.1 1826 30) ≤ (H1.1 1826 29) ∧ (((H236.1 1826 31) = 0 ∧ (H1.1 1826 31) ≠ 0) ∨ (H1.1 1826 30) < (H236.1 1826 30)))))
              · refine h_run 2 (pc' := 132) (l' := [(0, .inr (.inr 1826)), (1, .inl (H.1 1826 1)), (2, .inl (H.1 1826 3)), (3, .inl (H.1 1826 8)), (4, .inl (H.1 1826 13)), (5, .inl (H.1 1826 19)), (6, .inl dc)]) (st' := [.inl 2, .inr (.inr 1826)]) rfl ?_
                refine h_cv (i := 278) (j := 159) (b := 1826) (M' := mt_159) (xs := [.inl 2]) (rest := []) rfl rfl rfl rfl rfl rfl (Nat.le_of_ble_eq_true rfl) (Nat.le_of_ble_eq_true rfl) (by omega) (m_bad0 (by omega) (by omega) (by omega : (H223.1 1826 35) = 0)) ?_
                rintro _ _ ⟨rfl, rfl⟩
                refine h_run 0 (pc' := 135) (l' := [(0, .inr (.inr 1826)), (1, .inl (H.1 1826 1)), (2, .inl (H.1 1826 3)), (3, .inl (H.1 1826 8)), (4, .inl (H.1 1826 13)), (5, .inl (H.1 1826 19)), (6, .inl dc)]) (st' := []) rfl ?_
                refine h_run 1 (pc' := 136) (l' := [(0, .inr (.inr 1826)), (1, .inl (H.1 1826 1)), (2, .inl (H.1 1826 3)), (3, .inl (H.1 1826 8)), (4, .inl (H.1 1826 13)), (5, .inl (H.1 1826 19)), (6, .inl dc)]) (st' := [.inr (.inr 1826)]) rfl ?_
                refine h_cv (i := 293) (j := 158) (b := 1826) (M' := mt_158) (xs := []) (rest := []) rfl rfl rfl rfl rfl rfl (Nat.le_of_ble_eq_true rfl) (Nat.le_of_ble_eq_true rfl) (by omega) (m_good0 (by omega) (by omega : (2 : Int) ≠ 0)) ?_
                rintro _ _ ⟨rfl, rfl⟩
                refine h_run 0 (pc' := 139) (l' := [(0, .inr (.inr 1826)), (1, .inl (H.1 1826 1)), (2, .inl (H.1 1826 3)), (3, .inl (H.1 1826 8)), (4, .inl (H.1 1826 13)), (5, .inl (H.1 1826 19)), (6, .inl dc)]) (st' := [.inl 0]) rfl ?_
                refine h_zeq (off := -105) (t := 34) rfl rfl (by decide) (fun _ => ?_) (fun c => absurd c (by decide))
                have g259 : -2147483648 ≤ (H223.1 1826 30) ∧ (H223.1 1826 30) ≤ 2147483647 := hrg225.1 1826 13 30 _ .int rfl rfl
                have g260 : -2147483648 ≤ (H223.1 1826 32) ∧ (H223.1 1826 32) ≤ 2147483647 := hrg225.1 1826 13 32 _ .int rfl rfl
                have g261 : -2147483648 ≤ (H223.1 1826 29) ∧ (H223.1 1826 29) ≤ 2147483647 := hrg225.1 1826 13 29 _ .int rfl rfl
                have e262 : (H223.1 1826 29) = (H1.1 1826 29) := hx223f.2.2 29 (by decide)
                have g263 : -2147483648 ≤ (H223.1 1826 28) ∧ (H223.1 1826 28) ≤ 2147483647 := hrg225.1 1826 13 28 _ .int rfl rfl
                have e264 : (H223.1 1826 28) = (H1.1 1826 28) := hx223f.2.2 28 (by decide)
                have g265 : -2147483648 ≤ (H223.1 1826 77) ∧ (H223.1 1826 77) ≤ 2147483647 := hrg225.1 1826 13 77 _ .int rfl rfl
                have e266 : (H223.1 1826 77) = (H1.1 1826 77) := hx223f.2.2 77 (by decide)
                have g267 : -2147483648 ≤ (H223.1 1826 74) ∧ (H223.1 1826 74) ≤ 2147483647 := hrg225.1 1826 13 74 _ .int rfl rfl
                have e268 : (H223.1 1826 74) = (H1.1 1826 74) := hx223f.2.2 74 (by decide)
                have g269 : -2147483648 ≤ (H223.1 1826 67) ∧ (H223.1 1826 67) ≤ 2147483647 := hrg225.1 1826 13 67 _ .int rfl rfl
                have e270 : (H223.1 1826 67) = (H1.1 1826 67) := hx223f.2.2 67 (by decide)
                have e271 : (H1.1 1826 67) = (H.1 1826 67) := hf.2.2 67 (by decide)
                exact ih.1 _ dc (fr_o (fr_o hf226 (by decide)) (by decide)) (by omega : 0 ≤ (H223.1 1826 30) ∧ (H223.1 1826 30) ≤ (H223.1 1826 29) ∧ (H223.1 1826 29) ≤ 1000) (by omega : 0 ≤ (2 : Int) ∧ (2 : Int) ≤ 5) (by omega : 0 ≤ (H223.1 1826 32) ∧ (H223.1 1826 32) ≤ 1000) (by omega : (H223.1 1826 28) = 0) (by omega : (H223.1 1826 77) = (H.1 1826 77) ∧ (H223.1 1826 74) = (H.1 1826 74) ∧ (H223.1 1826 67) = (H.1 1826 67)) (agp_o (agp_o ha227 (by decide)) (by decide)) (fun (q : (2 : Int) = 0) => absurd q (by omega)) (mu_lt2 hw (by omega : (H1.1 1826 35) = 0) (by omega : (H223.1 1826 29) = (H1.1 1826 29)) (by omega : (2 : Int) ≠ 0 ∨ ((H1.1 1826 30) ≤ (H223.1 1826 30) ∧ (H223.1 1826 30) ≤ (H1.1 1826 29) ∧ (((H223.1 1826 31) = 0 ∧ (H1.1 1826 31) ≠ 0) ∨ (H1.1 1826 30) < (H223.1 1826 30)))))
            · have b229x : (H223.1 1826 35) ≠ 0 := b229
              refine h_run 0 (pc' := 118) (l' := [(0, .inr (.inr 1826)), (1, .inl (H.1 1826 1)), (2, .inl (H.1 1826 3)), (3, .inl (H.1 1826 8)), (4, .inl (H.1 1826 13)), (5, .inl (H.1 1826 19)), (6, .inl dc)]) (st' := [.inl 0]) rfl ?_
              refine h_zeq (off := 17) (t := 135) rfl rfl (by decide) (fun _ => ?_) (fun c => absurd c (by decide))
              refine h_run 1 (pc' := 136) (l' := [(0, .inr (.inr 1826)), (1, .inl (H.1 1826 1)), (2, .inl (H.1 1826 3)), (3, .inl (H.1 1826 8)), (4, .inl (H.1 1826 13)), (5, .inl (H.1 1826 19)), (6, .inl dc)]) (st' := [.inr (.inr 1826)]) rfl ?_
              refine h_cv (i := 293) (j := 158) (b := 1826) (M' := mt_158) (xs := []) (rest := []) rfl rfl rfl rfl rfl rfl (Nat.le_of_ble_eq_true rfl) (Nat.le_of_ble_eq_true rfl) (by omega) (m_good0 (by omega) (by omega : (H223.1 1826 35) ≠ 0)) ?_
              rintro _ _ ⟨rfl, rfl⟩
              refine h_run 0 (pc' := 139) (l' := [(0, .inr (.inr 1826)), (1, .inl (H.1 1826 1)), (2, .inl (H.1 1826 3)), (3, .inl (H.1 1826 8)), (4, .inl (H.1 1826 13)), (5, .inl (H.1 1826 19)), (6, .inl dc)]) (st' := [.inl 0]) rfl ?_
              refine h_zeq (off := -105) (t := 34) rfl rfl (by decide) (fun _ => ?_) (fun c => absurd c (by decide))
              have g272 : -2147483648 ≤ (H223.1 1826 30) ∧ (H223.1 1826 30) ≤ 2147483647 := hrg225.1 1826 13 30 _ .int rfl rfl
              have g273 : -2147483648 ≤ (H223.1 1826 32) ∧ (H223.1 1826 32) ≤ 2147483647 := hrg225.1 1826 13 32 _ .int rfl rfl
              have g274 : -2147483648 ≤ (H223.1 1826 31) ∧ (H223.1 1826 31) ≤ 2147483647 := hrg225.1 1826 13 31 _ .int rfl rfl
              have g275 : -2147483648 ≤ (H223.1 1826 29) ∧ (H223.1 1826 29) ≤ 2147483647 := hrg225.1 1826 13 29 _ .int rfl rfl
              have e276 : (H223.1 1826 29) = (H1.1 1826 29) := hx223f.2.2 29 (by decide)
              have g277 : -2147483648 ≤ (H223.1 1826 28) ∧ (H223.1 1826 28) ≤ 2147483647 := hrg225.1 1826 13 28 _ .int rfl rfl
              have e278 : (H223.1 1826 28) = (H1.1 1826 28) := hx223f.2.2 28 (by decide)
              have g279 : -2147483648 ≤ (H223.1 1826 77) ∧ (H223.1 1826 77) ≤ 2147483647 := hrg225.1 1826 13 77 _ .int rfl rfl
              have e280 : (H223.1 1826 77) = (H1.1 1826 77) := hx223f.2.2 77 (by decide)
              have g281 : -2147483648 ≤ (H223.1 1826 74) ∧ (H223.1 1826 74) ≤ 2147483647 := hrg225.1 1826 13 74 _ .int rfl rfl
              have e282 : (H223.1 1826 74) = (H1.1 1826 74) := hx223f.2.2 74 (by decide)
              have g283 : -2147483648 ≤ (H223.1 1826 67) ∧ (H223.1 1826 67) ≤ 2147483647 := hrg225.1 1826 13 67 _ .int rfl rfl
              have e284 : (H223.1 1826 67) = (H1.1 1826 67) := hx223f.2.2 67 (by decide)
              have e285 : (H1.1 1826 67) = (H.1 1826 67) := hf.2.2 67 (by decide)
              exact ih.1 _ dc hf226 (by omega : 0 ≤ (H223.1 1826 30) ∧ (H223.1 1826 30) ≤ (H223.1 1826 29) ∧ (H223.1 1826 29) ≤ 1000) (by omega : 0 ≤ (H223.1 1826 35) ∧ (H223.1 1826 35) ≤ 5) (by omega : 0 ≤ (H223.1 1826 32) ∧ (H223.1 1826 32) ≤ 1000) (by omega : (H223.1 1826 28) = 0) (by omega : (H223.1 1826 77) = (H.1 1826 77) ∧ (H223.1 1826 74) = (H.1 1826 74) ∧ (H223.1 1826 67) = (H.1 1826 67)) ha227 (fun (q : (H223.1 1826 35) = 0) => absurd q (by omega)) (mu_lt2 hw (by omega : (H1.1 1826 35) = 0) (by omega : (H223.1 1826 29) = (H1.1 1826 29)) (by omega : (H223.1 1826 35) ≠ 0 ∨ ((H1.1 1826 30) ≤ (H223.1 1826 30) ∧ (H223.1 1826 30) ≤ (H1.1 1826 29) ∧ (((H223.1 1826 31) = 0 ∧ (H1.1 1826 31) ≠ 0) ∨ (H1.1 1826 30) < (H223.1 1826 30)))))
      · have b3x : (H1.1 1826 35) ≠ 0 := b3
        refine h_run 0 (pc' := 38) (l' := [(0, .inr (.inr 1826)), (1, .inl (H.1 1826 1)), (2, .inl (H.1 1826 3)), (3, .inl (H.1 1826 8)), (4, .inl (H.1 1826 13)), (5, .inl (H.1 1826 19)), (6, .inl dc)]) (st' := [.inl 0]) rfl ?_
        refine h_zeq (off := 114) (t := 152) rfl rfl (by decide) (fun _ => ?_) (fun c => absurd c (by decide))
        refine h_run 1 (pc' := 153) (l' := [(0, .inr (.inr 1826)), (1, .inl (H.1 1826 1)), (2, .inl (H.1 1826 3)), (3, .inl (H.1 1826 8)), (4, .inl (H.1 1826 13)), (5, .inl (H.1 1826 19)), (6, .inl dc)]) (st' := [.inr (.inr 1826)]) rfl ?_
        refine h_cv (i := 293) (j := 158) (b := 1826) (M' := mt_158) (xs := []) (rest := []) rfl rfl rfl rfl rfl rfl (Nat.le_of_ble_eq_true rfl) (Nat.le_of_ble_eq_true rfl) (by omega) (m_good0 (by omega) (by omega : (H1.1 1826 35) ≠ 0)) ?_
        rintro _ _ ⟨rfl, rfl⟩
        refine h_run 0 (pc' := 156) (l' := [(0, .inr (.inr 1826)), (1, .inl (H.1 1826 1)), (2, .inl (H.1 1826 3)), (3, .inl (H.1 1826 8)), (4, .inl (H.1 1826 13)), (5, .inl (H.1 1826 19)), (6, .inl dc)]) (st' := [.inl 0]) rfl ?_
        refine h_zne (off := 47) (t := 203) rfl rfl (by decide) (fun c => absurd c (by decide)) (fun _ => ?_)
        refine h_run 2 (pc' := 161) (l' := [(0, .inr (.inr 1826)), (1, .inl (H.1 1826 1)), (2, .inl (H.1 1826 3)), (3, .inl (H.1 1826 8)), (4, .inl (H.1 1826 13)), (5, .inl (H.1 1826 19)), (6, .inl dc)]) (st' := [.inl (H.1 1826 1), .inr (.inr 1826)]) rfl ?_
        refine h_puti (i := 306) (ci := 13) (k := 1) (a := 1826) (x := (H.1 1826 1)) rfl rfl rfl rfl rfl rfl (by decide) (by omega) ?_
        refine h_run 2 (pc' := 166) (l' := [(0, .inr (.inr 1826)), (1, .inl (H.1 1826 1)), (2, .inl (H.1 1826 3)), (3, .inl (H.1 1826 8)), (4, .inl (H.1 1826 13)), (5, .inl (H.1 1826 19)), (6, .inl dc)]) (st' := [.inl (H.1 1826 3), .inr (.inr 1826)]) rfl ?_
        refine h_puti (i := 319) (ci := 13) (k := 3) (a := 1826) (x := (H.1 1826 3)) rfl rfl rfl rfl rfl rfl (by decide) (by omega) ?_
        refine h_run 2 (pc' := 171) (l' := [(0, .inr (.inr 1826)), (1, .inl (H.1 1826 1)), (2, .inl (H.1 1826 3)), (3, .inl (H.1 1826 8)), (4, .inl (H.1 1826 13)), (5, .inl (H.1 1826 19)), (6, .inl dc)]) (st' := [.inl (H.1 1826 8), .inr (.inr 1826)]) rfl ?_
        refine h_puti (i := 325) (ci := 13) (k := 8) (a := 1826) (x := (H.1 1826 8)) rfl rfl rfl rfl rfl rfl (by decide) (by omega) ?_
        refine h_run 2 (pc' := 177) (l' := [(0, .inr (.inr 1826)), (1, .inl (H.1 1826 1)), (2, .inl (H.1 1826 3)), (3, .inl (H.1 1826 8)), (4, .inl (H.1 1826 13)), (5, .inl (H.1 1826 19)), (6, .inl dc)]) (st' := [.inl (H.1 1826 13), .inr (.inr 1826)]) rfl ?_
        refine h_puti (i := 376) (ci := 13) (k := 13) (a := 1826) (x := (H.1 1826 13)) rfl rfl rfl rfl rfl rfl (by decide) (by omega) ?_
        refine h_run 2 (pc' := 183) (l' := [(0, .inr (.inr 1826)), (1, .inl (H.1 1826 1)), (2, .inl (H.1 1826 3)), (3, .inl (H.1 1826 8)), (4, .inl (H.1 1826 13)), (5, .inl (H.1 1826 19)), (6, .inl dc)]) (st' := [.inl (H.1 1826 19), .inr (.inr 1826)]) rfl ?_
        refine h_puti (i := 387) (ci := 13) (k := 19) (a := 1826) (x := (H.1 1826 19)) rfl rfl rfl rfl rfl rfl (by decide) (by omega) ?_
        refine h_run 3 (pc' := 191) (l' := [(0, .inr (.inr 1826)), (1, .inl (H.1 1826 1)), (2, .inl (H.1 1826 3)), (3, .inl (H.1 1826 8)), (4, .inl (H.1 1826 13)), (5, .inl (H.1 1826 19)), (6, .inl dc)]) (st' := [.inl (H1.1 1826 35), .inr (.inr 1826)]) rfl ?_
        refine h_puti (i := 411) (ci := 13) (k := 34) (a := 1826) (x := (H1.1 1826 35)) rfl rfl rfl rfl rfl rfl (by decide) (by omega) ?_
        refine h_run 3 (pc' := 201) (l' := [(0, .inr (.inr 1826)), (1, .inl (H.1 1826 1)), (2, .inl (H.1 1826 3)), (3, .inl (H.1 1826 8)), (4, .inl (H.1 1826 13)), (5, .inl (H.1 1826 19)), (6, .inl dc)]) (st' := [.inl (H1.1 1826 36), .inl (-1000)]) rfl ?_
        have g286 : -2147483648 ≤ (H1.1 1826 36) ∧ (H1.1 1826 36) ≤ 2147483647 := hrg1.1 1826 13 36 _ .int rfl rfl
        refine h_run 1 (pc' := 202) (l' := [(0, .inr (.inr 1826)), (1, .inl (H.1 1826 1)), (2, .inl (H.1 1826 3)), (3, .inl (H.1 1826 8)), (4, .inl (H.1 1826 13)), (5, .inl (H.1 1826 19)), (6, .inl dc)]) (st' := [.inl ((-1000) - (H1.1 1826 36))]) rfl ?_
        refine h_reti (x := ((-1000) - (H1.1 1826 36))) rfl rfl ?_
        have g287 : -2147483648 ≤ (H1.1 1826 32) ∧ (H1.1 1826 32) ≤ 2147483647 := hrg1.1 1826 13 32 _ .int rfl rfl
        have g288 : -2147483648 ≤ (H1.1 1826 28) ∧ (H1.1 1826 28) ≤ 2147483647 := hrg1.1 1826 13 28 _ .int rfl rfl
        have g289 : -2147483648 ≤ (H1.1 1826 77) ∧ (H1.1 1826 77) ≤ 2147483647 := hrg1.1 1826 13 77 _ .int rfl rfl
        have g290 : -2147483648 ≤ (H1.1 1826 74) ∧ (H1.1 1826 74) ≤ 2147483647 := hrg1.1 1826 13 74 _ .int rfl rfl
        exact ⟨⟨_, rfl⟩, (fr_o (fr_o (fr_o (fr_o (fr_o (fr_o hf (by decide)) (by decide)) (by decide)) (by decide)) (by decide)) (by decide)), (by omega : (H1.1 1826 28) = 0), (by omega : 0 ≤ (H1.1 1826 32) ∧ (H1.1 1826 32) ≤ 1000), (agp_o (agp_n19 (agp_n13 (agp_n8 (agp_n3 (agp_n1 hag (by omega : (H.1 1826 1) ≤ (H.1 1826 1))) (by omega : (H.1 1826 3) ≤ (H.1 1826 3))) (by omega : (H.1 1826 8) ≤ (H.1 1826 8))) (by omega : (H.1 1826 13) ≤ (H.1 1826 13))) (by omega : (H.1 1826 19) ≤ (H.1 1826 19))) (by decide)), (id (PW_agp hP hag (Int.le_refl _) (Int.le_refl _) (Int.le_refl _) (Int.le_refl _)) : PW H1 (H.1 1826 1) (H.1 1826 3) (H.1 1826 8) (H.1 1826 13) (H.1 1826 19)), (by omega : (H1.1 1826 77) = 0 ∨ ((H1.1 1826 77) = (H.1 1826 77) ∧ (H1.1 1826 74) = (H.1 1826 74) ∧ (H.1 1826 19) = (H.1 1826 19) ∧ (H.1 1826 3) = (H.1 1826 3) ∧ (H.1 1826 8) = (H.1 1826 8)))⟩
    · intro H1 dc i hf ha hk hst1 htp hgl hag hP2 hi hw
      refine h_rng (fun hrg291 => ?_)
      obtain ⟨⟨pb1, pb2, pb3, pb4, pb5⟩, pw1, pw2, pw3, pw4⟩ := (id hP : PW H (H.1 1826 1) (H.1 1826 3) (H.1 1826 8) (H.1 1826 13) (H.1 1826 19))
      obtain ⟨⟨qb1, qb2, qb3, qb4, qb5⟩, -⟩ := (id hP2 : PW H1 (H1.1 1826 1) (H1.1 1826 3) (H1.1 1826 8) (H1.1 1826 13) (H1.1 1826 19))
      refine h_run 3 (pc' := 212) (l' := [(0, .inr (.inr 1826)), (4, .inl (H.1 1826 13)), (6, .inl dc), (7, .inl (i : Int))]) (st' := [.inl (H1.1 1826 19), .inl (i : Int)]) rfl ?_
      have g292 : -2147483648 ≤ (H1.1 1826 19) ∧ (H1.1 1826 19) ≤ 2147483647 := hrg291.1 1826 13 19 _ .int rfl rfl
      refine h_ige (off := 26) (t := 238) rfl rfl (by omega) (by omega) (fun c293 => ?_) (fun c293 => ?_)
      · refine h_run 2 (pc' := 240) (l' := [(0, .inr (.inr 1826)), (4, .inl (H.1 1826 13)), (6, .inl dc), (7, .inl (i : Int))]) (st' := [.inl (-1), .inr (.inr 1826)]) rfl ?_
        refine h_puti (i := 150) (ci := 13) (k := 74) (a := 1826) (x := (-1)) rfl rfl rfl rfl rfl rfl (by decide) (by decide) ?_
        refine h_run 2 (pc' := 245) (l' := [(0, .inr (.inr 1826)), (4, .inl (H.1 1826 13)), (6, .inl dc), (7, .inl (i : Int))]) (st' := [.inl 0, .inr (.inr 1826)]) rfl ?_
        refine h_puti (i := 414) (ci := 13) (k := 77) (a := 1826) (x := 0) rfl rfl rfl rfl rfl rfl (by decide) (by decide) ?_
        refine h_run 2 (pc' := 250) (l' := [(0, .inr (.inr 1826)), (4, .inl (H.1 1826 13)), (6, .inl dc), (7, .inl (i : Int))]) (st' := [.inl 0, .inr (.inr 1826)]) rfl ?_
        refine h_puti (i := 417) (ci := 13) (k := 76) (a := 1826) (x := 0) rfl rfl rfl rfl rfl rfl (by decide) (by decide) ?_
        refine h_run 1 (pc' := 255) (l' := [(0, .inr (.inr 1826)), (4, .inl (H.1 1826 13)), (6, .inl dc), (7, .inl (i : Int))]) (st' := [.inl dc]) rfl ?_
        refine h_reti (x := dc) rfl rfl ?_
        have g294 : -2147483648 ≤ (H1.1 1826 32) ∧ (H1.1 1826 32) ≤ 2147483647 := hrg291.1 1826 13 32 _ .int rfl rfl
        have g295 : -2147483648 ≤ (H1.1 1826 28) ∧ (H1.1 1826 28) ≤ 2147483647 := hrg291.1 1826 13 28 _ .int rfl rfl
        have g296 : -2147483648 ≤ (H1.1 1826 3) ∧ (H1.1 1826 3) ≤ 2147483647 := hrg291.1 1826 13 3 _ .int rfl rfl
        have g297 : -2147483648 ≤ (H1.1 1826 8) ∧ (H1.1 1826 8) ≤ 2147483647 := hrg291.1 1826 13 8 _ .int rfl rfl
        exact ⟨⟨_, rfl⟩, (fr_o (fr_o (fr_o hf (by decide)) (by decide)) (by decide)), (by omega : (H1.1 1826 28) = 0), (by omega : 0 ≤ (H1.1 1826 32) ∧ (H1.1 1826 32) ≤ 1000), (agp_o (agp_o (agp_o hag (by decide)) (by decide)) (by decide)), (PWc_o (PWc_o (PWc_o hP2 (by decide)) (by decide)) (by decide)), (by omega : (0 : Int) = 0 ∨ ((0 : Int) = (H.1 1826 77) ∧ (-1 : Int) = (H.1 1826 74) ∧ (H1.1 1826 19) = (H.1 1826 19) ∧ (H1.1 1826 3) = (H.1 1826 3) ∧ (H1.1 1826 8) = (H.1 1826 8)))⟩
      · refine h_run 2 (pc' := 219) (l' := [(0, .inr (.inr 1826)), (4, .inl (H.1 1826 13)), (6, .inl dc), (7, .inl (i : Int))]) (st' := [.inl (H1.1 1826 13)]) rfl ?_
        have g298 : -2147483648 ≤ (H1.1 1826 13) ∧ (H1.1 1826 13) ≤ 2147483647 := hrg291.1 1826 13 13 _ .int rfl rfl
        refine h_run 1 (pc' := 221) (l' := [(0, .inr (.inr 1826)), (4, .inl (H.1 1826 13)), (6, .inl dc), (7, .inl (i : Int))]) (st' := [.inl (H.1 1826 13), .inl (H1.1 1826 13)]) rfl ?_
        refine h_ile (off := 17) (t := 238) rfl rfl (by omega) (by omega) (fun c299 => ?_) (fun c299 => ?_)
        · refine h_run 2 (pc' := 240) (l' := [(0, .inr (.inr 1826)), (4, .inl (H.1 1826 13)), (6, .inl dc), (7, .inl (i : Int))]) (st' := [.inl (-1), .inr (.inr 1826)]) rfl ?_
          refine h_puti (i := 150) (ci := 13) (k := 74) (a := 1826) (x := (-1)) rfl rfl rfl rfl rfl rfl (by decide) (by decide) ?_
          refine h_run 2 (pc' := 245) (l' := [(0, .inr (.inr 1826)), (4, .inl (H.1 1826 13)), (6, .inl dc), (7, .inl (i : Int))]) (st' := [.inl 0, .inr (.inr 1826)]) rfl ?_
          refine h_puti (i := 414) (ci := 13) (k := 77) (a := 1826) (x := 0) rfl rfl rfl rfl rfl rfl (by decide) (by decide) ?_
          refine h_run 2 (pc' := 250) (l' := [(0, .inr (.inr 1826)), (4, .inl (H.1 1826 13)), (6, .inl dc), (7, .inl (i : Int))]) (st' := [.inl 0, .inr (.inr 1826)]) rfl ?_
          refine h_puti (i := 417) (ci := 13) (k := 76) (a := 1826) (x := 0) rfl rfl rfl rfl rfl rfl (by decide) (by decide) ?_
          refine h_run 1 (pc' := 255) (l' := [(0, .inr (.inr 1826)), (4, .inl (H.1 1826 13)), (6, .inl dc), (7, .inl (i : Int))]) (st' := [.inl dc]) rfl ?_
          refine h_reti (x := dc) rfl rfl ?_
          have g300 : -2147483648 ≤ (H1.1 1826 32) ∧ (H1.1 1826 32) ≤ 2147483647 := hrg291.1 1826 13 32 _ .int rfl rfl
          have g301 : -2147483648 ≤ (H1.1 1826 28) ∧ (H1.1 1826 28) ≤ 2147483647 := hrg291.1 1826 13 28 _ .int rfl rfl
          have g302 : -2147483648 ≤ (H1.1 1826 3) ∧ (H1.1 1826 3) ≤ 2147483647 := hrg291.1 1826 13 3 _ .int rfl rfl
          have g303 : -2147483648 ≤ (H1.1 1826 8) ∧ (H1.1 1826 8) ≤ 2147483647 := hrg291.1 1826 13 8 _ .int rfl rfl
          exact ⟨⟨_, rfl⟩, (fr_o (fr_o (fr_o hf (by decide)) (by decide)) (by decide)), (by omega : (H1.1 1826 28) = 0), (by omega : 0 ≤ (H1.1 1826 32) ∧ (H1.1 1826 32) ≤ 1000), (agp_o (agp_o (agp_o hag (by decide)) (by decide)) (by decide)), (PWc_o (PWc_o (PWc_o hP2 (by decide)) (by decide)) (by decide)), (by omega : (0 : Int) = 0 ∨ ((0 : Int) = (H.1 1826 77) ∧ (-1 : Int) = (H.1 1826 74) ∧ (H1.1 1826 19) = (H.1 1826 19) ∧ (H1.1 1826 3) = (H.1 1826 3) ∧ (H1.1 1826 8) = (H.1 1826 8)))⟩
        · refine h_run 4 (pc' := 231) (l' := [(0, .inr (.inr 1826)), (4, .inl (H.1 1826 13)), (6, .inl dc), (7, .inl (i : Int))]) (st' := [.inl 0, .inl (i : Int), .inr (.inr 1847)]) rfl ?_
          refine h_ist (c := 1847) (j := i) (i := (i : Int)) (x := 0) rfl rfl (by decide) (by decide) rfl (by omega) (by decide) ?_
          refine h_run 2 (pc' := 206) (l' := [(0, .inr (.inr 1826)), (4, .inl (H.1 1826 13)), (6, .inl dc), (7, .inl ((i : Int) + 1))]) (st' := []) rfl ?_
          have g304 : -2147483648 ≤ (H1.1 1826 30) ∧ (H1.1 1826 30) ≤ 2147483647 := hrg291.1 1826 13 30 _ .int rfl rfl
          have g305 : -2147483648 ≤ (H1.1 1826 35) ∧ (H1.1 1826 35) ≤ 2147483647 := hrg291.1 1826 13 35 _ .int rfl rfl
          have g306 : -2147483648 ≤ (H1.1 1826 32) ∧ (H1.1 1826 32) ≤ 2147483647 := hrg291.1 1826 13 32 _ .int rfl rfl
          have g307 : -2147483648 ≤ (H1.1 1826 31) ∧ (H1.1 1826 31) ≤ 2147483647 := hrg291.1 1826 13 31 _ .int rfl rfl
          have g308 : -2147483648 ≤ (H1.1 1826 29) ∧ (H1.1 1826 29) ≤ 2147483647 := hrg291.1 1826 13 29 _ .int rfl rfl
          have g309 : -2147483648 ≤ (H1.1 1826 28) ∧ (H1.1 1826 28) ≤ 2147483647 := hrg291.1 1826 13 28 _ .int rfl rfl
          have g310 : -2147483648 ≤ (H1.1 1826 77) ∧ (H1.1 1826 77) ≤ 2147483647 := hrg291.1 1826 13 77 _ .int rfl rfl
          have g311 : -2147483648 ≤ (H1.1 1826 74) ∧ (H1.1 1826 74) ≤ 2147483647 := hrg291.1 1826 13 74 _ .int rfl rfl
          have g312 : -2147483648 ≤ (H1.1 1826 67) ∧ (H1.1 1826 67) ≤ 2147483647 := hrg291.1 1826 13 67 _ .int rfl rfl
          have e313 : (H1.1 1826 67) = (H.1 1826 67) := hf.2.2 67 (by decide)
          rw [show ((i : Int) + 1) = (((i + 1) : Nat) : Int) by omega]
          exact ih.2 _ dc (i + 1) (fr_a hf (by decide)) (by omega : 0 ≤ (H1.1 1826 30) ∧ (H1.1 1826 30) ≤ (H1.1 1826 29) ∧ (H1.1 1826 29) ≤ 1000) (by omega : 0 ≤ (H1.1 1826 35) ∧ (H1.1 1826 35) ≤ 5) (by omega : 0 ≤ (H1.1 1826 32) ∧ (H1.1 1826 32) ≤ 1000) (by omega : (H1.1 1826 28) = 0) (by omega : (H1.1 1826 77) = (H.1 1826 77) ∧ (H1.1 1826 74) = (H.1 1826 74) ∧ (H1.1 1826 67) = (H.1 1826 67)) (agp_a hag (by decide)) (PWc_a hP2 (by decide)) (by omega) (by omega : 16 - (i + 1) < w)
set_option maxRecDepth 100000 in
theorem m_read {zC : Nat → Option zsh} {d : Nat} (hd : 10 ≤ d) {H : hp}  (ht : 0 ≤ (H.1 1826 28) ∧ (H.1 1826 28) ≤ 1000) (hst : 0 ≤ (H.1 1826 32) ∧ (H.1 1826 32) ≤ 1000) (hP : PWc H) : hG (zs zC) d mt_192 0 (zargs 0 [.inr (.inr 1826)]) [] H (fun r H2 => (∃ r0 : Int, r = some (.inl r0)) ∧ fr [1, 3, 8, 13, 19, 28, 29, 30, 31, 32, 33, 34, 35, 36, 39, 40, 41, 43, 44, 47, 74, 76, 77] [1827, 1828, 1829, 1830, 1831, 1832, 1833, 1834, 1835, 1836, 1837, 1838, 1839, 1840, 1841, 1842, 1843, 1844, 1845, 1846, 1847, 1849, 1850, 1851, 1852, 1853, 1854] H H2 ∧ (H2.1 1826 28) = 0 ∧ (0 ≤ (H2.1 1826 32) ∧ (H2.1 1826 32) ≤ 1000) ∧ agp H H2 ∧ PWc H2 ∧ ((H2.1 1826 77) = 0 ∨ ((H2.1 1826 77) = (H.1 1826 77) ∧ (H2.1 1826 74) = (H.1 1826 74) ∧ (H2.1 1826 19) = (H.1 1826 19) ∧ (H2.1 1826 3) = (H.1 1826 3) ∧ (H2.1 1826 8) = (H.1 1826 8)))) := by
  refine h_rng (fun hrg0 => ?_)
  refine h_run 0 (pc' := 0) (l' := [(0, .inr (.inr 1826))]) (st' := []) rfl ?_
  obtain ⟨⟨pb1, pb2, pb3, pb4, pb5⟩, pw1, pw2, pw3, pw4⟩ := (id hP : PW H (H.1 1826 1) (H.1 1826 3) (H.1 1826 8) (H.1 1826 13) (H.1 1826 19))
  refine h_run 2 (pc' := 4) (l' := [(0, .inr (.inr 1826))]) (st' := [.inl (H.1 1826 1)]) rfl ?_
  have g314 : -2147483648 ≤ (H.1 1826 1) ∧ (H.1 1826 1) ≤ 2147483647 := hrg0.1 1826 13 1 _ .int rfl rfl
  refine h_run 3 (pc' := 9) (l' := [(0, .inr (.inr 1826)), (1, .inl (H.1 1826 1))]) (st' := [.inl (H.1 1826 3)]) rfl ?_
  have g315 : -2147483648 ≤ (H.1 1826 3) ∧ (H.1 1826 3) ≤ 2147483647 := hrg0.1 1826 13 3 _ .int rfl rfl
  refine h_run 3 (pc' := 14) (l' := [(0, .inr (.inr 1826)), (1, .inl (H.1 1826 1)), (2, .inl (H.1 1826 3))]) (st' := [.inl (H.1 1826 8)]) rfl ?_
  have g316 : -2147483648 ≤ (H.1 1826 8) ∧ (H.1 1826 8) ≤ 2147483647 := hrg0.1 1826 13 8 _ .int rfl rfl
  refine h_run 3 (pc' := 19) (l' := [(0, .inr (.inr 1826)), (1, .inl (H.1 1826 1)), (2, .inl (H.1 1826 3)), (3, .inl (H.1 1826 8))]) (st' := [.inl (H.1 1826 13)]) rfl ?_
  have g317 : -2147483648 ≤ (H.1 1826 13) ∧ (H.1 1826 13) ≤ 2147483647 := hrg0.1 1826 13 13 _ .int rfl rfl
  refine h_run 3 (pc' := 25) (l' := [(0, .inr (.inr 1826)), (1, .inl (H.1 1826 1)), (2, .inl (H.1 1826 3)), (3, .inl (H.1 1826 8)), (4, .inl (H.1 1826 13))]) (st' := [.inl (H.1 1826 19)]) rfl ?_
  have g318 : -2147483648 ≤ (H.1 1826 19) ∧ (H.1 1826 19) ≤ 2147483647 := hrg0.1 1826 13 19 _ .int rfl rfl
  refine h_run 4 (pc' := 31) (l' := [(0, .inr (.inr 1826)), (1, .inl (H.1 1826 1)), (2, .inl (H.1 1826 3)), (3, .inl (H.1 1826 8)), (4, .inl (H.1 1826 13)), (5, .inl (H.1 1826 19)), (6, .inl 0)]) (st' := [.inr (.inr 1826)]) rfl ?_
  have g319 : -2147483648 ≤ (H.1 1826 28) ∧ (H.1 1826 28) ≤ 2147483647 := hrg0.1 1826 13 28 _ .int rfl rfl
  have g320 : -2147483648 ≤ (H.1 1826 32) ∧ (H.1 1826 32) ≤ 2147483647 := hrg0.1 1826 13 32 _ .int rfl rfl
  refine h_cv (i := 396) (j := 191) (b := 1826) (M' := mt_191) (xs := []) (rest := []) rfl rfl rfl rfl rfl rfl (Nat.le_of_ble_eq_true rfl) (Nat.le_of_ble_eq_true rfl) (by omega) (m_openTape (by omega) (by omega : 0 ≤ (H.1 1826 28) ∧ (H.1 1826 28) ≤ 1000) (by omega : 0 ≤ (H.1 1826 32) ∧ (H.1 1826 32) ≤ 1000)) ?_
  rintro _ H321 ⟨rfl, hx321f, hx321t, hx321a, hx321c, hx321e⟩
  refine h_rng (fun hrg322 => ?_)
  have hf323 : fr [1, 3, 8, 13, 19, 28, 29, 30, 31, 32, 33, 34, 35, 36, 39, 40, 41, 43, 44, 47, 74, 76, 77] [1827, 1828, 1829, 1830, 1831, 1832, 1833, 1834, 1835, 1836, 1837, 1838, 1839, 1840, 1841, 1842, 1843, 1844, 1845, 1846, 1847, 1849, 1850, 1851, 1852, 1853, 1854] H H321 := fr_t (fr_rf _ _ _) hx321f (by decide) (by decide)
  have ha324 : agp H H321 := agp_tr (agp_rf _) (agp_fr hx321f (by decide) (by decide))
  replace hx321t : (H321.1 1826 28) = 0 ∧ (H321.1 1826 29) = (H.1 1826 28) := hx321t
  refine h_run 0 (pc' := 34) (l' := [(0, .inr (.inr 1826)), (1, .inl (H.1 1826 1)), (2, .inl (H.1 1826 3)), (3, .inl (H.1 1826 8)), (4, .inl (H.1 1826 13)), (5, .inl (H.1 1826 19)), (6, .inl 0)]) (st' := []) rfl ?_
  have g325 : -2147483648 ≤ (H321.1 1826 30) ∧ (H321.1 1826 30) ≤ 2147483647 := hrg322.1 1826 13 30 _ .int rfl rfl
  have g326 : -2147483648 ≤ (H321.1 1826 35) ∧ (H321.1 1826 35) ≤ 2147483647 := hrg322.1 1826 13 35 _ .int rfl rfl
  have g327 : -2147483648 ≤ (H321.1 1826 32) ∧ (H321.1 1826 32) ≤ 2147483647 := hrg322.1 1826 13 32 _ .int rfl rfl
  have g328 : -2147483648 ≤ (H321.1 1826 31) ∧ (H321.1 1826 31) ≤ 2147483647 := hrg322.1 1826 13 31 _ .int rfl rfl
  have g329 : -2147483648 ≤ (H321.1 1826 29) ∧ (H321.1 1826 29) ≤ 2147483647 := hrg322.1 1826 13 29 _ .int rfl rfl
  have g330 : -2147483648 ≤ (H321.1 1826 28) ∧ (H321.1 1826 28) ≤ 2147483647 := hrg322.1 1826 13 28 _ .int rfl rfl
  have g331 : -2147483648 ≤ (H321.1 1826 77) ∧ (H321.1 1826 77) ≤ 2147483647 := hrg322.1 1826 13 77 _ .int rfl rfl
  have e332 : (H321.1 1826 77) = (H.1 1826 77) := hx321f.2.2 77 (by decide)
  have g333 : -2147483648 ≤ (H321.1 1826 74) ∧ (H321.1 1826 74) ≤ 2147483647 := hrg322.1 1826 13 74 _ .int rfl rfl
  have e334 : (H321.1 1826 74) = (H.1 1826 74) := hx321f.2.2 74 (by decide)
  have g335 : -2147483648 ≤ (H321.1 1826 67) ∧ (H321.1 1826 67) ≤ 2147483647 := hrg322.1 1826 13 67 _ .int rfl rfl
  have e336 : (H321.1 1826 67) = (H.1 1826 67) := hx321f.2.2 67 (by decide)
  exact (m_read_cut hd ht hst hP _).1 _ (0 : Int) hf323 (by omega : 0 ≤ (H321.1 1826 30) ∧ (H321.1 1826 30) ≤ (H321.1 1826 29) ∧ (H321.1 1826 29) ≤ 1000) (by omega : 0 ≤ (H321.1 1826 35) ∧ (H321.1 1826 35) ≤ 5) (by omega : 0 ≤ (H321.1 1826 32) ∧ (H321.1 1826 32) ≤ 1000) (by omega : (H321.1 1826 28) = 0) (by omega : (H321.1 1826 77) = (H.1 1826 77) ∧ (H321.1 1826 74) = (H.1 1826 74) ∧ (H321.1 1826 67) = (H.1 1826 67)) ha324 (fun _ => PWc_fr hP hx321f (by decide) (by decide)) (Nat.lt_succ_self _)
