/-! fault: the kind of fault is the same on both sides -/
def RQ5 (Y : yx) (X : rx) (z : Int) (H0 H : hp) : Prop := (∃ X1, rch Y ([(6, 0, 0, 0)], X) ([], xu X1 0 9 z) ∧ TA (H.1 1826 8) H X1 ∧ (H.1 1826 34) = (H0.1 1826 34)) ∨ ∃ Xf k p, rch Y ([(6, 0, 0, 0)], X) ([(0, k, p, 0)], Xf) ∧ z = -1000 - p ∧ (H.1 1826 34) = k ∧ TA (H.1 1826 8) H X
theorem RQ5_9 {Y : yx} {X : rx} {z : Int} {H0 H : hp} (h : RQ5 Y X z H0 H) : RQ9 Y X z H := h.imp (fun q => q.imp (fun _ g => ⟨g.1, g.2.1⟩)) id

/-! read -/
set_option maxRecDepth 100000 in
theorem n_read5_cut {zC : Nat → Option zsh} {d : Nat} (hd : 10 ≤ d) {H : hp} {Y : yx} {X : rx} (ht : 0 ≤ (H.1 1826 28) ∧ (H.1 1826 28) ≤ 1000) (hst : 0 ≤ (H.1 1826 32) ∧ (H.1 1826 32) ≤ 1000) (hP : PWc H) (hB : TB Y H) (h00 : X 0 0 = 0) (hT : TA (H.1 1826 8) H X) (hA : AB X) (hP0 : P0 X) (hN0 : NN X) : ∀ w : Nat, (∀ (H1 : hp) (dc : Int), (fr [1, 3, 8, 13, 19, 28, 29, 30, 31, 32, 33, 34, 35, 36, 39, 40, 41, 43, 44, 47, 74, 76, 77] [1827, 1828, 1829, 1830, 1831, 1832, 1833, 1834, 1835, 1836, 1837, 1838, 1839, 1840, 1841, 1842, 1843, 1844, 1845, 1846, 1847, 1849, 1850, 1851, 1852, 1853, 1854] H H1) → (0 ≤ (H1.1 1826 30) ∧ (H1.1 1826 30) ≤ (H1.1 1826 29) ∧ (H1.1 1826 29) ≤ 1000) → (0 ≤ (H1.1 1826 35) ∧ (H1.1 1826 35) ≤ 5) → (0 ≤ (H1.1 1826 32) ∧ (H1.1 1826 32) ≤ 1000) → ((H1.1 1826 28) = 0) → ((H1.1 1826 77) = (H.1 1826 77) ∧ (H1.1 1826 74) = (H.1 1826 74) ∧ (H1.1 1826 67) = (H.1 1826 67)) → (agp H H1) → ((H1.1 1826 34) = (H.1 1826 34)) → ((H1.1 1826 35) = 0 → PWc H1) → (GB Y (H.1 1826 8) ([(6, 0, 0, 0)], X) H1 (∃ X1 : rx, rch Y ([(6, 0, 0, 0)], X) ([(6, dc, 0, 0)], X1) ∧ RK Y (H1.1 1826 8) H1 X1)) → mu (H1.1 1826 35) (H1.1 1826 31) (H1.1 1826 30) (H1.1 1826 29) + 1000 < w → hG (zs zC) d mt_192 34 [(0, .inr (.inr 1826)), (1, .inl (H.1 1826 1)), (2, .inl (H.1 1826 3)), (3, .inl (H.1 1826 8)), (4, .inl (H.1 1826 13)), (5, .inl (H.1 1826 19)), (6, .inl dc)] [] H1 (fun r H2 => (∃ r0 : Int, r = some (.inl r0) ∧ RQ5 Y X r0 H H2) ∧ fr [1, 3, 8, 13, 19, 28, 29, 30, 31, 32, 33, 34, 35, 36, 39, 40, 41, 43, 44, 47, 74, 76, 77] [1827, 1828, 1829, 1830, 1831, 1832, 1833, 1834, 1835, 1836, 1837, 1838, 1839, 1840, 1841, 1842, 1843, 1844, 1845, 1846, 1847, 1849, 1850, 1851, 1852, 1853, 1854] H H2 ∧ (H2.1 1826 28) = 0 ∧ (0 ≤ (H2.1 1826 32) ∧ (H2.1 1826 32) ≤ 1000) ∧ agp H H2 ∧ PWc H2 ∧ ((H2.1 1826 77) = 0 ∨ ((H2.1 1826 77) = (H.1 1826 77) ∧ (H2.1 1826 74) = (H.1 1826 74) ∧ (H2.1 1826 19) = (H.1 1826 19) ∧ (H2.1 1826 3) = (H.1 1826 3) ∧ (H2.1 1826 8) = (H.1 1826 8))))) ∧ (∀ (H1 : hp) (dc : Int) (i : Nat), (fr [1, 3, 8, 13, 19, 28, 29, 30, 31, 32, 33, 34, 35, 36, 39, 40, 41, 43, 44, 47, 74, 76, 77] [1827, 1828, 1829, 1830, 1831, 1832, 1833, 1834, 1835, 1836, 1837, 1838, 1839, 1840, 1841, 1842, 1843, 1844, 1845, 1846, 1847, 1849, 1850, 1851, 1852, 1853, 1854] H H1) → (0 ≤ (H1.1 1826 30) ∧ (H1.1 1826 30) ≤ (H1.1 1826 29) ∧ (H1.1 1826 29) ≤ 1000) → (0 ≤ (H1.1 1826 35) ∧ (H1.1 1826 35) ≤ 5) → (0 ≤ (H1.1 1826 32) ∧ (H1.1 1826 32) ≤ 1000) → ((H1.1 1826 28) = 0) → ((H1.1 1826 77) = (H.1 1826 77) ∧ (H1.1 1826 74) = (H.1 1826 74) ∧ (H1.1 1826 67) = (H.1 1826 67)) → (agp H H1) → ((H1.1 1826 34) = (H.1 1826 34)) → (PWc H1) → (i ≤ 16) → (∃ X1 : rx, rch Y ([(6, 0, 0, 0)], X) ([], xu X1 0 9 dc) ∧ TA (H1.1 1826 8) H1 X1) → 16 - i < w → hG (zs zC) d mt_192 206 [(0, .inr (.inr 1826)), (4, .inl (H.1 1826 13)), (6, .inl dc), (7, .inl (i : Int))] [] H1 (fun r H2 => (∃ r0 : Int, r = some (.inl r0) ∧ RQ5 Y X r0 H H2) ∧ fr [1, 3, 8, 13, 19, 28, 29, 30, 31, 32, 33, 34, 35, 36, 39, 40, 41, 43, 44, 47, 74, 76, 77] [1827, 1828, 1829, 1830, 1831, 1832, 1833, 1834, 1835, 1836, 1837, 1838, 1839, 1840, 1841, 1842, 1843, 1844, 1845, 1846, 1847, 1849, 1850, 1851, 1852, 1853, 1854] H H2 ∧ (H2.1 1826 28) = 0 ∧ (0 ≤ (H2.1 1826 32) ∧ (H2.1 1826 32) ≤ 1000) ∧ agp H H2 ∧ PWc H2 ∧ ((H2.1 1826 77) = 0 ∨ ((H2.1 1826 77) = (H.1 1826 77) ∧ (H2.1 1826 74) = (H.1 1826 74) ∧ (H2.1 1826 19) = (H.1 1826 19) ∧ (H2.1 1826 3) = (H.1 1826 3) ∧ (H2.1 1826 8) = (H.1 1826 8))))) := by
  intro w
  induction w with
  | zero => exact ⟨fun _ _ _ _ _ _ _ _ _ _ _ _ h => absurd h (Nat.not_lt_zero _), fun _ _ _ _ _ _ _ _ _ _ _ _ _ _ h => absurd h (Nat.not_lt_zero _)⟩
  | succ w ih =>
    refine ⟨?_, ?_⟩
    · intro H1 dc hf ha hk hst1 htp hgl hag hfk hP1 hRG hw
      refine h_rng (fun hrg1 => ?_)
      obtain ⟨⟨pb1, pb2, pb3, pb4, pb5⟩, pw1, pw2, pw3, pw4⟩ := (id hP : PW H (H.1 1826 1) (H.1 1826 3) (H.1 1826 8) (H.1 1826 13) (H.1 1826 19))
      have hmf : (H.1 1826 8) ≤ (H1.1 1826 8) := hag.1.2.2.1
      refine h_run 1 (pc' := 35) (l' := [(0, .inr (.inr 1826)), (1, .inl (H.1 1826 1)), (2, .inl (H.1 1826 3)), (3, .inl (H.1 1826 8)), (4, .inl (H.1 1826 13)), (5, .inl (H.1 1826 19)), (6, .inl dc)]) (st' := [.inr (.inr 1826)]) rfl ?_
      have g2 : -2147483648 ≤ (H1.1 1826 35) ∧ (H1.1 1826 35) ≤ 2147483647 := hrg1.1 1826 13 35 _ .int rfl rfl
      refine h_cv (i := 293) (j := 158) (b := 1826) (M' := mt_158) (xs := []) (rest := []) rfl rfl rfl rfl rfl rfl (Nat.le_of_ble_eq_true rfl) (Nat.le_of_ble_eq_true rfl) (by omega) (m_good (by omega)) ?_
      rintro _ _ ⟨⟨rfl, b3⟩ | ⟨rfl, b3⟩, rfl⟩
      · have b3x : (H1.1 1826 35) = 0 := b3
        refine h_run 0 (pc' := 38) (l' := [(0, .inr (.inr 1826)), (1, .inl (H.1 1826 1)), (2, .inl (H.1 1826 3)), (3, .inl (H.1 1826 8)), (4, .inl (H.1 1826 13)), (5, .inl (H.1 1826 19)), (6, .inl dc)]) (st' := [.inl 1]) rfl ?_
        refine h_zeq (off := 114) (t := 152) rfl rfl (by decide) (fun c => absurd c (by decide)) (fun _ => ?_)
        obtain ⟨X1, hq1, hR1⟩ := GB_g hRG (by omega)
        have htk1 := RK_t hR1
        refine h_run 2 (pc' := 45) (l' := [(0, .inr (.inr 1826)), (1, .inl (H.1 1826 1)), (2, .inl (H.1 1826 3)), (3, .inl (H.1 1826 8)), (4, .inl (H.1 1826 13)), (5, .inl (H.1 1826 19)), (6, .inl dc)]) (st' := [.inl (H1.1 1826 31)]) rfl ?_
        have g4 : -2147483648 ≤ (H1.1 1826 31) ∧ (H1.1 1826 31) ≤ 2147483647 := hrg1.1 1826 13 31 _ .int rfl rfl
        refine h_zeq (off := 107) (t := 152) rfl rfl (by omega) (fun c5 => ?_) (fun c5 => ?_)
        · refine h_run 1 (pc' := 153) (l' := [(0, .inr (.inr 1826)), (1, .inl (H.1 1826 1)), (2, .inl (H.1 1826 3)), (3, .inl (H.1 1826 8)), (4, .inl (H.1 1826 13)), (5, .inl (H.1 1826 19)), (6, .inl dc)]) (st' := [.inr (.inr 1826)]) rfl ?_
          refine h_cv (i := 293) (j := 158) (b := 1826) (M' := mt_158) (xs := []) (rest := []) rfl rfl rfl rfl rfl rfl (Nat.le_of_ble_eq_true rfl) (Nat.le_of_ble_eq_true rfl) (by omega) (m_good1 (by omega) (by omega : (H1.1 1826 35) = 0)) ?_
          rintro _ _ ⟨rfl, rfl⟩
          refine h_run 0 (pc' := 156) (l' := [(0, .inr (.inr 1826)), (1, .inl (H.1 1826 1)), (2, .inl (H.1 1826 3)), (3, .inl (H.1 1826 8)), (4, .inl (H.1 1826 13)), (5, .inl (H.1 1826 19)), (6, .inl dc)]) (st' := [.inl 1]) rfl ?_
          refine h_zne (off := 47) (t := 203) rfl rfl (by decide) (fun _ => ?_) (fun c => absurd c (by decide))
          have hqe : rch Y ([(6, 0, 0, 0)], X) ([], xu X1 0 9 dc) := rch_st hq1 (by show stDec Y dc [] X1 = _; unfold stDec; (repeat (first | rw [if_pos (by omega)] | rw [if_neg (by omega)])); try (first | rfl | (exfalso; omega)))
          refine h_run 2 (pc' := 206) (l' := [(0, .inr (.inr 1826)), (1, .inl (H.1 1826 1)), (2, .inl (H.1 1826 3)), (3, .inl (H.1 1826 8)), (4, .inl (H.1 1826 13)), (5, .inl (H.1 1826 19)), (6, .inl dc), (7, .inl 0)]) (st' := []) rfl ?_
          have g6 : -2147483648 ≤ (H1.1 1826 30) ∧ (H1.1 1826 30) ≤ 2147483647 := hrg1.1 1826 13 30 _ .int rfl rfl
          have g7 : -2147483648 ≤ (H1.1 1826 32) ∧ (H1.1 1826 32) ≤ 2147483647 := hrg1.1 1826 13 32 _ .int rfl rfl
          have g8 : -2147483648 ≤ (H1.1 1826 29) ∧ (H1.1 1826 29) ≤ 2147483647 := hrg1.1 1826 13 29 _ .int rfl rfl
          have g9 : -2147483648 ≤ (H1.1 1826 28) ∧ (H1.1 1826 28) ≤ 2147483647 := hrg1.1 1826 13 28 _ .int rfl rfl
          have g10 : -2147483648 ≤ (H1.1 1826 77) ∧ (H1.1 1826 77) ≤ 2147483647 := hrg1.1 1826 13 77 _ .int rfl rfl
          have g11 : -2147483648 ≤ (H1.1 1826 74) ∧ (H1.1 1826 74) ≤ 2147483647 := hrg1.1 1826 13 74 _ .int rfl rfl
          have g12 : -2147483648 ≤ (H1.1 1826 67) ∧ (H1.1 1826 67) ≤ 2147483647 := hrg1.1 1826 13 67 _ .int rfl rfl
          have e13 : (H1.1 1826 67) = (H.1 1826 67) := hf.2.2 67 (by decide)
          have g14 : -2147483648 ≤ (H1.1 1826 34) ∧ (H1.1 1826 34) ≤ 2147483647 := hrg1.1 1826 13 34 _ .int rfl rfl
          refine h_loc [0, 4, 6, 7] rfl ?_
          exact ih.2 _ dc 0 hf (by omega : 0 ≤ (H1.1 1826 30) ∧ (H1.1 1826 30) ≤ (H1.1 1826 29) ∧ (H1.1 1826 29) ≤ 1000) (by omega : 0 ≤ (H1.1 1826 35) ∧ (H1.1 1826 35) ≤ 5) (by omega : 0 ≤ (H1.1 1826 32) ∧ (H1.1 1826 32) ≤ 1000) (by omega : (H1.1 1826 28) = 0) (by omega : (H1.1 1826 77) = (H.1 1826 77) ∧ (H1.1 1826 74) = (H.1 1826 74) ∧ (H1.1 1826 67) = (H.1 1826 67)) hag (by omega : (H1.1 1826 34) = (H.1 1826 34)) (hP1 (by omega)) (by omega) ⟨X1, hqe, hR1.2.2.2.2⟩ (by omega : 16 - 0 < w)
        · refine h_run 2 (pc' := 52) (l' := [(0, .inr (.inr 1826)), (1, .inl (H.1 1826 1)), (2, .inl (H.1 1826 3)), (3, .inl (H.1 1826 8)), (4, .inl (H.1 1826 13)), (5, .inl (H.1 1826 19)), (6, .inl dc)]) (st' := [.inl (H1.1 1826 31)]) rfl ?_
          refine h_run 1 (pc' := 53) (l' := [(0, .inr (.inr 1826)), (1, .inl (H.1 1826 1)), (2, .inl (H.1 1826 3)), (3, .inl (H.1 1826 8)), (4, .inl (H.1 1826 13)), (5, .inl (H.1 1826 19)), (6, .inl dc)]) (st' := [.inl 3, .inl (H1.1 1826 31)]) rfl ?_
          refine h_ine (off := 10) (t := 63) rfl rfl (by omega) (by decide) (fun c15 => ?_) (fun c15 => ?_)
          · refine h_run 2 (pc' := 67) (l' := [(0, .inr (.inr 1826)), (1, .inl (H.1 1826 1)), (2, .inl (H.1 1826 3)), (3, .inl (H.1 1826 8)), (4, .inl (H.1 1826 13)), (5, .inl (H.1 1826 19)), (6, .inl dc)]) (st' := [.inl (H1.1 1826 31)]) rfl ?_
            refine h_run 1 (pc' := 68) (l' := [(0, .inr (.inr 1826)), (1, .inl (H.1 1826 1)), (2, .inl (H.1 1826 3)), (3, .inl (H.1 1826 8)), (4, .inl (H.1 1826 13)), (5, .inl (H.1 1826 19)), (6, .inl dc)]) (st' := [.inl 4, .inl (H1.1 1826 31)]) rfl ?_
            refine h_ine (off := 10) (t := 78) rfl rfl (by omega) (by decide) (fun c16 => ?_) (fun c16 => ?_)
            · refine h_run 2 (pc' := 82) (l' := [(0, .inr (.inr 1826)), (1, .inl (H.1 1826 1)), (2, .inl (H.1 1826 3)), (3, .inl (H.1 1826 8)), (4, .inl (H.1 1826 13)), (5, .inl (H.1 1826 19)), (6, .inl dc)]) (st' := [.inl (H1.1 1826 31)]) rfl ?_
              refine h_run 1 (pc' := 83) (l' := [(0, .inr (.inr 1826)), (1, .inl (H.1 1826 1)), (2, .inl (H.1 1826 3)), (3, .inl (H.1 1826 8)), (4, .inl (H.1 1826 13)), (5, .inl (H.1 1826 19)), (6, .inl dc)]) (st' := [.inl 5, .inl (H1.1 1826 31)]) rfl ?_
              refine h_ine (off := 10) (t := 93) rfl rfl (by omega) (by decide) (fun c17 => ?_) (fun c17 => ?_)
              · refine h_run 2 (pc' := 97) (l' := [(0, .inr (.inr 1826)), (1, .inl (H.1 1826 1)), (2, .inl (H.1 1826 3)), (3, .inl (H.1 1826 8)), (4, .inl (H.1 1826 13)), (5, .inl (H.1 1826 19)), (6, .inl dc)]) (st' := [.inl (H1.1 1826 31)]) rfl ?_
                refine h_run 1 (pc' := 99) (l' := [(0, .inr (.inr 1826)), (1, .inl (H.1 1826 1)), (2, .inl (H.1 1826 3)), (3, .inl (H.1 1826 8)), (4, .inl (H.1 1826 13)), (5, .inl (H.1 1826 19)), (6, .inl dc)]) (st' := [.inl 6, .inl (H1.1 1826 31)]) rfl ?_
                refine h_ine (off := 10) (t := 109) rfl rfl (by omega) (by decide) (fun c18 => ?_) (fun c18 => ?_)
                · refine h_run 2 (pc' := 111) (l' := [(0, .inr (.inr 1826)), (1, .inl (H.1 1826 1)), (2, .inl (H.1 1826 3)), (3, .inl (H.1 1826 8)), (4, .inl (H.1 1826 13)), (5, .inl (H.1 1826 19)), (6, .inl dc)]) (st' := [.inl 2, .inr (.inr 1826)]) rfl ?_
                  refine h_cv (i := 278) (j := 159) (b := 1826) (M' := mt_159) (xs := [.inl 2]) (rest := []) rfl rfl rfl rfl rfl rfl (Nat.le_of_ble_eq_true rfl) (Nat.le_of_ble_eq_true rfl) (by omega) (m_bad0 (by omega) (by omega) (by omega : (H1.1 1826 35) = 0)) ?_
                  rintro _ _ ⟨rfl, rfl⟩
                  refine h_run 0 (pc' := 114) (l' := [(0, .inr (.inr 1826)), (1, .inl (H.1 1826 1)), (2, .inl (H.1 1826 3)), (3, .inl (H.1 1826 8)), (4, .inl (H.1 1826 13)), (5, .inl (H.1 1826 19)), (6, .inl dc)]) (st' := []) rfl ?_
                  refine h_run 1 (pc' := 115) (l' := [(0, .inr (.inr 1826)), (1, .inl (H.1 1826 1)), (2, .inl (H.1 1826 3)), (3, .inl (H.1 1826 8)), (4, .inl (H.1 1826 13)), (5, .inl (H.1 1826 19)), (6, .inl dc)]) (st' := [.inr (.inr 1826)]) rfl ?_
                  refine h_cv (i := 293) (j := 158) (b := 1826) (M' := mt_158) (xs := []) (rest := []) rfl rfl rfl rfl rfl rfl (Nat.le_of_ble_eq_true rfl) (Nat.le_of_ble_eq_true rfl) (by omega) (m_good0 (by omega) (by omega : (2 : Int) ≠ 0)) ?_
                  rintro _ _ ⟨rfl, rfl⟩
                  refine h_run 0 (pc' := 118) (l' := [(0, .inr (.inr 1826)), (1, .inl (H.1 1826 1)), (2, .inl (H.1 1826 3)), (3, .inl (H.1 1826 8)), (4, .inl (H.1 1826 13)), (5, .inl (H.1 1826 19)), (6, .inl dc)]) (st' := [.inl 0]) rfl ?_
                  refine h_zeq (off := 17) (t := 135) rfl rfl (by decide) (fun _ => ?_) (fun c => absurd c (by decide))
                  refine h_run 1 (pc' := 136) (l' := [(0, .inr (.inr 1826)), (1, .inl (H.1 1826 1)), (2, .inl (H.1 1826 3)), (3, .inl (H.1 1826 8)), (4, .inl (H.1 1826 13)), (5, .inl (H.1 1826 19)), (6, .inl dc)]) (st' := [.inr (.inr 1826)]) rfl ?_
                  refine h_cv (i := 293) (j := 158) (b := 1826) (M' := mt_158) (xs := []) (rest := []) rfl rfl rfl rfl rfl rfl (Nat.le_of_ble_eq_true rfl) (Nat.le_of_ble_eq_true rfl) (by omega) (m_good0 (by omega) (by omega : (2 : Int) ≠ 0)) ?_
                  rintro _ _ ⟨rfl, rfl⟩
                  refine h_run 0 (pc' := 139) (l' := [(0, .inr (.inr 1826)), (1, .inl (H.1 1826 1)), (2, .inl (H.1 1826 3)), (3, .inl (H.1 1826 8)), (4, .inl (H.1 1826 13)), (5, .inl (H.1 1826 19)), (6, .inl dc)]) (st' := [.inl 0]) rfl ?_
                  refine h_zeq (off := -105) (t := 34) rfl rfl (by decide) (fun _ => ?_) (fun c => absurd c (by decide))
                  have g19 : -2147483648 ≤ (H1.1 1826 30) ∧ (H1.1 1826 30) ≤ 2147483647 := hrg1.1 1826 13 30 _ .int rfl rfl
                  have g20 : -2147483648 ≤ (H1.1 1826 32) ∧ (H1.1 1826 32) ≤ 2147483647 := hrg1.1 1826 13 32 _ .int rfl rfl
                  have g21 : -2147483648 ≤ (H1.1 1826 29) ∧ (H1.1 1826 29) ≤ 2147483647 := hrg1.1 1826 13 29 _ .int rfl rfl
                  have g22 : -2147483648 ≤ (H1.1 1826 28) ∧ (H1.1 1826 28) ≤ 2147483647 := hrg1.1 1826 13 28 _ .int rfl rfl
                  have g23 : -2147483648 ≤ (H1.1 1826 77) ∧ (H1.1 1826 77) ≤ 2147483647 := hrg1.1 1826 13 77 _ .int rfl rfl
                  have g24 : -2147483648 ≤ (H1.1 1826 74) ∧ (H1.1 1826 74) ≤ 2147483647 := hrg1.1 1826 13 74 _ .int rfl rfl
                  have g25 : -2147483648 ≤ (H1.1 1826 67) ∧ (H1.1 1826 67) ≤ 2147483647 := hrg1.1 1826 13 67 _ .int rfl rfl
                  have e26 : (H1.1 1826 67) = (H.1 1826 67) := hf.2.2 67 (by decide)
                  have g27 : -2147483648 ≤ (H1.1 1826 34) ∧ (H1.1 1826 34) ≤ 2147483647 := hrg1.1 1826 13 34 _ .int rfl rfl
                  exact ih.1 _ dc (fr_o (fr_o hf (by decide)) (by decide)) (by omega : 0 ≤ (H1.1 1826 30) ∧ (H1.1 1826 30) ≤ (H1.1 1826 29) ∧ (H1.1 1826 29) ≤ 1000) (by omega : 0 ≤ (2 : Int) ∧ (2 : Int) ≤ 5) (by omega : 0 ≤ (H1.1 1826 32) ∧ (H1.1 1826 32) ≤ 1000) (by omega : (H1.1 1826 28) = 0) (by omega : (H1.1 1826 77) = (H.1 1826 77) ∧ (H1.1 1826 74) = (H.1 1826 74) ∧ (H1.1 1826 67) = (H.1 1826 67)) (agp_o (agp_o hag (by decide)) (by decide)) (by omega : (H1.1 1826 34) = (H.1 1826 34)) (fun (q : (2 : Int) = 0) => absurd q (by omega)) (Or.inr ⟨(by omega : (2 : Int) ≠ 0), BD_le (BD_mk hR1 (fr_o (fr_o (fr_rf [35, 36] [] H1) (by decide)) (by decide)) (by decide) (by decide) (by decide : (2 : Int) ≠ 0) rfl rfl (rch_st hq1 (by show stDec Y dc [] X1 = _; unfold stDec miss; (repeat (first | rw [if_pos (by omega)] | rw [if_neg (by omega)])); try (first | rfl | (exfalso; omega))))) hmf⟩) (mu_lt2 hw (by omega : (H1.1 1826 35) = 0) (by omega : (H1.1 1826 29) = (H1.1 1826 29)) (by omega : (2 : Int) ≠ 0 ∨ ((H1.1 1826 30) ≤ (H1.1 1826 30) ∧ (H1.1 1826 30) ≤ (H1.1 1826 29) ∧ (((H1.1 1826 31) = 0 ∧ (H1.1 1826 31) ≠ 0) ∨ (H1.1 1826 30) < (H1.1 1826 30)))))
                · refine h_run 1 (pc' := 103) (l' := [(0, .inr (.inr 1826)), (1, .inl (H.1 1826 1)), (2, .inl (H.1 1826 3)), (3, .inl (H.1 1826 8)), (4, .inl (H.1 1826 13)), (5, .inl (H.1 1826 19)), (6, .inl dc)]) (st' := [.inr (.inr 1826)]) rfl ?_
                  have g28 : -2147483648 ≤ (H1.1 1826 30) ∧ (H1.1 1826 30) ≤ 2147483647 := hrg1.1 1826 13 30 _ .int rfl rfl
                  have g29 : -2147483648 ≤ (H1.1 1826 29) ∧ (H1.1 1826 29) ≤ 2147483647 := hrg1.1 1826 13 29 _ .int rfl rfl
                  have g30 : -2147483648 ≤ (H1.1 1826 8) ∧ (H1.1 1826 8) ≤ 2147483647 := hrg1.1 1826 13 8 _ .int rfl rfl
                  have g32 : -2147483648 ≤ (H1.1 1826 32) ∧ (H1.1 1826 32) ≤ 2147483647 := hrg1.1 1826 13 32 _ .int rfl rfl
                  refine h_cv (i := 408) (j := 187) (b := 1826) (M' := mt_187) (xs := []) (rest := []) rfl rfl rfl rfl rfl rfl (Nat.le_of_ble_eq_true rfl) (Nat.le_of_ble_eq_true rfl) (by omega) (n_tellLaw (by omega) (by omega : 0 ≤ (H1.1 1826 30) ∧ (H1.1 1826 30) ≤ (H1.1 1826 29) ∧ (H1.1 1826 29) ≤ 1000) (by omega : 0 ≤ (H1.1 1826 35) ∧ (H1.1 1826 35) ≤ 5) (by omega : 0 ≤ (H1.1 1826 32) ∧ (H1.1 1826 32) ≤ 1000) (hP1 (by omega : (H1.1 1826 35) = 0)) (by omega : (H1.1 1826 35) = 0) hR1 (by omega : (H1.1 1826 8) = (H1.1 1826 8)) hq1 (by omega : tk Y (xi X1) = 7)) ?_
                  rintro _ H31 ⟨rfl, hx31n, hx31f, hx31a, hx31c, -, hx31e, hx31g, hx31p⟩
                  refine h_rng (fun hrg33 => ?_)
                  have hf34 : fr [1, 3, 8, 13, 19, 28, 29, 30, 31, 32, 33, 34, 35, 36, 39, 40, 41, 43, 44, 47, 74, 76, 77] [1827, 1828, 1829, 1830, 1831, 1832, 1833, 1834, 1835, 1836, 1837, 1838, 1839, 1840, 1841, 1842, 1843, 1844, 1845, 1846, 1847, 1849, 1850, 1851, 1852, 1853, 1854] H H31 := fr_t hf hx31f (by decide) (by decide)
                  have ha35 : agp H H31 := agp_tr hag hx31g
                  replace hx31a : (H1.1 1826 30) ≤ (H31.1 1826 30) ∧ (H31.1 1826 30) ≤ (H1.1 1826 29) := hx31a
                  replace hx31p : hid ((H31.1 1826 35) = 0 → PWc H31) := hx31p
                  refine h_run 0 (pc' := 106) (l' := [(0, .inr (.inr 1826)), (1, .inl (H.1 1826 1)), (2, .inl (H.1 1826 3)), (3, .inl (H.1 1826 8)), (4, .inl (H.1 1826 13)), (5, .inl (H.1 1826 19)), (6, .inl dc)]) (st' := []) rfl ?_
                  refine h_run 2 (pc' := 115) (l' := [(0, .inr (.inr 1826)), (1, .inl (H.1 1826 1)), (2, .inl (H.1 1826 3)), (3, .inl (H.1 1826 8)), (4, .inl (H.1 1826 13)), (5, .inl (H.1 1826 19)), (6, .inl dc)]) (st' := [.inr (.inr 1826)]) rfl ?_
                  have g36 : -2147483648 ≤ (H31.1 1826 35) ∧ (H31.1 1826 35) ≤ 2147483647 := hrg33.1 1826 13 35 _ .int rfl rfl
                  refine h_cv (i := 293) (j := 158) (b := 1826) (M' := mt_158) (xs := []) (rest := []) rfl rfl rfl rfl rfl rfl (Nat.le_of_ble_eq_true rfl) (Nat.le_of_ble_eq_true rfl) (by omega) (m_good (by omega)) ?_
                  rintro _ _ ⟨⟨rfl, b37⟩ | ⟨rfl, b37⟩, rfl⟩
                  · have b37x : (H31.1 1826 35) = 0 := b37
                    refine h_run 0 (pc' := 118) (l' := [(0, .inr (.inr 1826)), (1, .inl (H.1 1826 1)), (2, .inl (H.1 1826 3)), (3, .inl (H.1 1826 8)), (4, .inl (H.1 1826 13)), (5, .inl (H.1 1826 19)), (6, .inl dc)]) (st' := [.inl 1]) rfl ?_
                    refine h_zeq (off := 17) (t := 135) rfl rfl (by decide) (fun c => absurd c (by decide)) (fun _ => ?_)
                    have g38 : -2147483648 ≤ (H31.1 1826 8) ∧ (H31.1 1826 8) ≤ 2147483647 := hrg33.1 1826 13 8 _ .int rfl rfl
                    have e39 : (H31.1 1826 8) = (H1.1 1826 8) := hx31f.2.2 8 (by decide)
                    obtain ⟨X2, hq2, hR2x⟩ := GB_g hx31n (by omega)
                    have hR2 : RK Y (H31.1 1826 8) H31 X2 := by rw [show (H31.1 1826 8) = (H1.1 1826 8) from (hx31f.2.2 8 (by decide))]; exact hR2x
                    have htk2 := RK_t hR2
                    have hmf2 : (H.1 1826 8) ≤ (H31.1 1826 8) := by have q9 := hx31g.1.2.2.1; omega
                    refine h_run 2 (pc' := 125) (l' := [(0, .inr (.inr 1826)), (1, .inl (H.1 1826 1)), (2, .inl (H.1 1826 3)), (3, .inl (H.1 1826 8)), (4, .inl (H.1 1826 13)), (5, .inl (H.1 1826 19)), (6, .inl dc)]) (st' := [.inl (H31.1 1826 31)]) rfl ?_
                    have g40 : -2147483648 ≤ (H31.1 1826 31) ∧ (H31.1 1826 31) ≤ 2147483647 := hrg33.1 1826 13 31 _ .int rfl rfl
                    refine h_run 1 (pc' := 127) (l' := [(0, .inr (.inr 1826)), (1, .inl (H.1 1826 1)), (2, .inl (H.1 1826 3)), (3, .inl (H.1 1826 8)), (4, .inl (H.1 1826 13)), (5, .inl (H.1 1826 19)), (6, .inl dc)]) (st' := [.inl 59, .inl (H31.1 1826 31)]) rfl ?_
                    refine h_ieq (off := 8) (t := 135) rfl rfl (by omega) (by decide) (fun c41 => ?_) (fun c41 => ?_)
                    · refine h_run 1 (pc' := 136) (l' := [(0, .inr (.inr 1826)), (1, .inl (H.1 1826 1)), (2, .inl (H.1 1826 3)), (3, .inl (H.1 1826 8)), (4, .inl (H.1 1826 13)), (5, .inl (H.1 1826 19)), (6, .inl dc)]) (st' := [.inr (.inr 1826)]) rfl ?_
                      refine h_cv (i := 293) (j := 158) (b := 1826) (M' := mt_158) (xs := []) (rest := []) rfl rfl rfl rfl rfl rfl (Nat.le_of_ble_eq_true rfl) (Nat.le_of_ble_eq_true rfl) (by omega) (m_good1 (by omega) (by omega : (H31.1 1826 35) = 0)) ?_
                      rintro _ _ ⟨rfl, rfl⟩
                      refine h_run 0 (pc' := 139) (l' := [(0, .inr (.inr 1826)), (1, .inl (H.1 1826 1)), (2, .inl (H.1 1826 3)), (3, .inl (H.1 1826 8)), (4, .inl (H.1 1826 13)), (5, .inl (H.1 1826 19)), (6, .inl dc)]) (st' := [.inl 1]) rfl ?_
                      refine h_zeq (off := -105) (t := 34) rfl rfl (by decide) (fun c => absurd c (by decide)) (fun _ => ?_)
                      have hq3 : rch Y ([(6, 0, 0, 0)], X) ([(6, dc + 1, 0, 0)], adv X2) := rch_st hq2 (by show (if tk Y (xi X2) = 59 then _ else _) = _; (repeat (first | rw [if_pos (by omega)] | rw [if_neg (by omega)])); try (first | rfl | (exfalso; omega)))
                      refine h_run 1 (pc' := 143) (l' := [(0, .inr (.inr 1826)), (1, .inl (H.1 1826 1)), (2, .inl (H.1 1826 3)), (3, .inl (H.1 1826 8)), (4, .inl (H.1 1826 13)), (5, .inl (H.1 1826 19)), (6, .inl dc)]) (st' := [.inr (.inr 1826)]) rfl ?_
                      have g42 : -2147483648 ≤ (H31.1 1826 30) ∧ (H31.1 1826 30) ≤ 2147483647 := hrg33.1 1826 13 30 _ .int rfl rfl
                      have g43 : -2147483648 ≤ (H31.1 1826 29) ∧ (H31.1 1826 29) ≤ 2147483647 := hrg33.1 1826 13 29 _ .int rfl rfl
                      have e44 : (H31.1 1826 29) = (H1.1 1826 29) := hx31f.2.2 29 (by decide)
                      have g45 : -2147483648 ≤ (H31.1 1826 32) ∧ (H31.1 1826 32) ≤ 2147483647 := hrg33.1 1826 13 32 _ .int rfl rfl
                      refine h_cv (i := 297) (j := 165) (b := 1826) (M' := mt_165) (xs := []) (rest := []) rfl rfl rfl rfl rfl rfl (Nat.le_of_ble_eq_true rfl) (Nat.le_of_ble_eq_true rfl) (by omega) (n_nx (by omega) (by omega : 0 ≤ (H31.1 1826 30) ∧ (H31.1 1826 30) ≤ (H31.1 1826 29) ∧ (H31.1 1826 29) ≤ 1000) (by omega : 0 ≤ (H31.1 1826 35) ∧ (H31.1 1826 35) ≤ 5) (by omega : 0 ≤ (H31.1 1826 32) ∧ (H31.1 1826 32) ≤ 1000) (by omega : (H31.1 1826 35) = 0) (X := (adv X2)) (RN_adv hR2 (fr_rf [] [] _) (by decide) (by decide)) hq3 (lk_n (by decide))) ?_
                      rintro _ H46 ⟨rfl, hx46n, hx46f, hx46a, hx46b, hx46c, -, hx46e, hx46g⟩
                      refine h_rng (fun hrg47 => ?_)
                      have hf48 : fr [1, 3, 8, 13, 19, 28, 29, 30, 31, 32, 33, 34, 35, 36, 39, 40, 41, 43, 44, 47, 74, 76, 77] [1827, 1828, 1829, 1830, 1831, 1832, 1833, 1834, 1835, 1836, 1837, 1838, 1839, 1840, 1841, 1842, 1843, 1844, 1845, 1846, 1847, 1849, 1850, 1851, 1852, 1853, 1854] H H46 := fr_t hf34 hx46f (by decide) (by decide)
                      have ha49 : agp H H46 := agp_tr ha35 (agp_fr hx46f (by decide) (by decide))
                      replace hx46a : (H31.1 1826 30) ≤ (H46.1 1826 30) := hx46a
                      replace hx46b : (H46.1 1826 30) ≤ (H31.1 1826 29) := hx46b
                      replace hx46g : (H46.1 1826 35) = 0 → ((H46.1 1826 31) = 0 ∨ (H31.1 1826 30) < (H46.1 1826 30)) := hx46g
                      refine h_run 0 (pc' := 146) (l' := [(0, .inr (.inr 1826)), (1, .inl (H.1 1826 1)), (2, .inl (H.1 1826 3)), (3, .inl (H.1 1826 8)), (4, .inl (H.1 1826 13)), (5, .inl (H.1 1826 19)), (6, .inl dc)]) (st' := []) rfl ?_
                      refine h_run 2 (pc' := 34) (l' := [(0, .inr (.inr 1826)), (1, .inl (H.1 1826 1)), (2, .inl (H.1 1826 3)), (3, .inl (H.1 1826 8)), (4, .inl (H.1 1826 13)), (5, .inl (H.1 1826 19)), (6, .inl (dc + 1))]) (st' := []) rfl ?_
                      have g50 : -2147483648 ≤ (H46.1 1826 30) ∧ (H46.1 1826 30) ≤ 2147483647 := hrg47.1 1826 13 30 _ .int rfl rfl
                      have g51 : -2147483648 ≤ (H46.1 1826 35) ∧ (H46.1 1826 35) ≤ 2147483647 := hrg47.1 1826 13 35 _ .int rfl rfl
                      have g52 : -2147483648 ≤ (H46.1 1826 32) ∧ (H46.1 1826 32) ≤ 2147483647 := hrg47.1 1826 13 32 _ .int rfl rfl
                      have g53 : -2147483648 ≤ (H46.1 1826 31) ∧ (H46.1 1826 31) ≤ 2147483647 := hrg47.1 1826 13 31 _ .int rfl rfl
                      have g54 : -2147483648 ≤ (H46.1 1826 29) ∧ (H46.1 1826 29) ≤ 2147483647 := hrg47.1 1826 13 29 _ .int rfl rfl
                      have e55 : (H46.1 1826 29) = (H31.1 1826 29) := hx46f.2.2 29 (by decide)
                      have g56 : -2147483648 ≤ (H46.1 1826 28) ∧ (H46.1 1826 28) ≤ 2147483647 := hrg47.1 1826 13 28 _ .int rfl rfl
                      have e57 : (H46.1 1826 28) = (H31.1 1826 28) := hx46f.2.2 28 (by decide)
                      have e58 : (H31.1 1826 28) = (H1.1 1826 28) := hx31f.2.2 28 (by decide)
                      have g59 : -2147483648 ≤ (H46.1 1826 77) ∧ (H46.1 1826 77) ≤ 2147483647 := hrg47.1 1826 13 77 _ .int rfl rfl
                      have e60 : (H46.1 1826 77) = (H31.1 1826 77) := hx46f.2.2 77 (by decide)
                      have e61 : (H31.1 1826 77) = (H1.1 1826 77) := hx31f.2.2 77 (by decide)
                      have g62 : -2147483648 ≤ (H46.1 1826 74) ∧ (H46.1 1826 74) ≤ 2147483647 := hrg47.1 1826 13 74 _ .int rfl rfl
                      have e63 : (H46.1 1826 74) = (H31.1 1826 74) := hx46f.2.2 74 (by decide)
                      have e64 : (H31.1 1826 74) = (H1.1 1826 74) := hx31f.2.2 74 (by decide)
                      have g65 : -2147483648 ≤ (H46.1 1826 67) ∧ (H46.1 1826 67) ≤ 2147483647 := hrg47.1 1826 13 67 _ .int rfl rfl
                      have e66 : (H46.1 1826 67) = (H31.1 1826 67) := hx46f.2.2 67 (by decide)
                      have e67 : (H31.1 1826 67) = (H1.1 1826 67) := hx31f.2.2 67 (by decide)
                      have e68 : (H1.1 1826 67) = (H.1 1826 67) := hf.2.2 67 (by decide)
                      have g69 : -2147483648 ≤ (H46.1 1826 34) ∧ (H46.1 1826 34) ≤ 2147483647 := hrg47.1 1826 13 34 _ .int rfl rfl
                      have e70 : (H46.1 1826 34) = (H31.1 1826 34) := hx46f.2.2 34 (by decide)
                      have e71 : (H31.1 1826 34) = (H1.1 1826 34) := hx31f.2.2 34 (by decide)
                      exact ih.1 _ (dc + 1) hf48 (by omega : 0 ≤ (H46.1 1826 30) ∧ (H46.1 1826 30) ≤ (H46.1 1826 29) ∧ (H46.1 1826 29) ≤ 1000) (by omega : 0 ≤ (H46.1 1826 35) ∧ (H46.1 1826 35) ≤ 5) (by omega : 0 ≤ (H46.1 1826 32) ∧ (H46.1 1826 32) ≤ 1000) (by omega : (H46.1 1826 28) = 0) (by omega : (H46.1 1826 77) = (H.1 1826 77) ∧ (H46.1 1826 74) = (H.1 1826 74) ∧ (H46.1 1826 67) = (H.1 1826 67)) ha49 (by omega : (H46.1 1826 34) = (H.1 1826 34)) (fun _ => PWc_fr (hx31p (by omega)) hx46f (by decide) (by decide)) (GB_le hx46n hmf2 (fun q => ⟨_, hq3, (by rw [show (H46.1 1826 8) = _ from (hx46f.2.2 8 (by decide))]; exact q)⟩)) (mu_lt2 hw (by omega : (H1.1 1826 35) = 0) (by omega : (H46.1 1826 29) = (H1.1 1826 29)) (by omega : (H46.1 1826 35) ≠ 0 ∨ ((H1.1 1826 30) ≤ (H46.1 1826 30) ∧ (H46.1 1826 30) ≤ (H1.1 1826 29) ∧ (((H46.1 1826 31) = 0 ∧ (H1.1 1826 31) ≠ 0) ∨ (H1.1 1826 30) < (H46.1 1826 30)))))
                    · refine h_run 2 (pc' := 132) (l' := [(0, .inr (.inr 1826)), (1, .inl (H.1 1826 1)), (2, .inl (H.1 1826 3)), (3, .inl (H.1 1826 8)), (4, .inl (H.1 1826 13)), (5, .inl (H.1 1826 19)), (6, .inl dc)]) (st' := [.inl 2, .inr (.inr 1826)]) rfl ?_
                      refine h_cv (i := 278) (j := 159) (b := 1826) (M' := mt_159) (xs := [.inl 2]) (rest := []) rfl rfl rfl rfl rfl rfl (Nat.le_of_ble_eq_true rfl) (Nat.le_of_ble_eq_true rfl) (by omega) (m_bad0 (by omega) (by omega) (by omega : (H31.1 1826 35) = 0)) ?_
                      rintro _ _ ⟨rfl, rfl⟩
                      refine h_run 0 (pc' := 135) (l' := [(0, .inr (.inr 1826)), (1, .inl (H.1 1826 1)), (2, .inl (H.1 1826 3)), (3, .inl (H.1 1826 8)), (4, .inl (H.1 1826 13)), (5, .inl (H.1 1826 19)), (6, .inl dc)]) (st' := []) rfl ?_
                      refine h_run 1 (pc' := 136) (l' := [(0, .inr (.inr 1826)), (1, .inl (H.1 1826 1)), (2, .inl (H.1 1826 3)), (3, .inl (H.1 1826 8)), (4, .inl (H.1 1826 13)), (5, .inl (H.1 1826 19)), (6, .inl dc)]) (st' := [.inr (.inr 1826)]) rfl ?_
                      refine h_cv (i := 293) (j := 158) (b := 1826) (M' := mt_158) (xs := []) (rest := []) rfl rfl rfl rfl rfl rfl (Nat.le_of_ble_eq_true rfl) (Nat.le_of_ble_eq_true rfl) (by omega) (m_good0 (by omega) (by omega : (2 : Int) ≠ 0)) ?_
                      rintro _ _ ⟨rfl, rfl⟩
                      refine h_run 0 (pc' := 139) (l' := [(0, .inr (.inr 1826)), (1, .inl (H.1 1826 1)), (2, .inl (H.1 1826 3)), (3, .inl (H.1 1826 8)), (4, .inl (H.1 1826 13)), (5, .inl (H.1 1826 19)), (6, .inl dc)]) (st' := [.inl 0]) rfl ?_
                      refine h_zeq (off := -105) (t := 34) rfl rfl (by decide) (fun _ => ?_) (fun c => absurd c (by decide))
                      have g72 : -2147483648 ≤ (H31.1 1826 30) ∧ (H31.1 1826 30) ≤ 2147483647 := hrg33.1 1826 13 30 _ .int rfl rfl
                      have g73 : -2147483648 ≤ (H31.1 1826 32) ∧ (H31.1 1826 32) ≤ 2147483647 := hrg33.1 1826 13 32 _ .int rfl rfl
                      have g74 : -2147483648 ≤ (H31.1 1826 29) ∧ (H31.1 1826 29) ≤ 2147483647 := hrg33.1 1826 13 29 _ .int rfl rfl
                      have e75 : (H31.1 1826 29) = (H1.1 1826 29) := hx31f.2.2 29 (by decide)
                      have g76 : -2147483648 ≤ (H31.1 1826 28) ∧ (H31.1 1826 28) ≤ 2147483647 := hrg33.1 1826 13 28 _ .int rfl rfl
                      have e77 : (H31.1 1826 28) = (H1.1 1826 28) := hx31f.2.2 28 (by decide)
                      have g78 : -2147483648 ≤ (H31.1 1826 77) ∧ (H31.1 1826 77) ≤ 2147483647 := hrg33.1 1826 13 77 _ .int rfl rfl
                      have e79 : (H31.1 1826 77) = (H1.1 1826 77) := hx31f.2.2 77 (by decide)
                      have g80 : -2147483648 ≤ (H31.1 1826 74) ∧ (H31.1 1826 74) ≤ 2147483647 := hrg33.1 1826 13 74 _ .int rfl rfl
                      have e81 : (H31.1 1826 74) = (H1.1 1826 74) := hx31f.2.2 74 (by decide)
                      have g82 : -2147483648 ≤ (H31.1 1826 67) ∧ (H31.1 1826 67) ≤ 2147483647 := hrg33.1 1826 13 67 _ .int rfl rfl
                      have e83 : (H31.1 1826 67) = (H1.1 1826 67) := hx31f.2.2 67 (by decide)
                      have e84 : (H1.1 1826 67) = (H.1 1826 67) := hf.2.2 67 (by decide)
                      have g85 : -2147483648 ≤ (H31.1 1826 34) ∧ (H31.1 1826 34) ≤ 2147483647 := hrg33.1 1826 13 34 _ .int rfl rfl
                      have e86 : (H31.1 1826 34) = (H1.1 1826 34) := hx31f.2.2 34 (by decide)
                      exact ih.1 _ dc (fr_o (fr_o hf34 (by decide)) (by decide)) (by omega : 0 ≤ (H31.1 1826 30) ∧ (H31.1 1826 30) ≤ (H31.1 1826 29) ∧ (H31.1 1826 29) ≤ 1000) (by omega : 0 ≤ (2 : Int) ∧ (2 : Int) ≤ 5) (by omega : 0 ≤ (H31.1 1826 32) ∧ (H31.1 1826 32) ≤ 1000) (by omega : (H31.1 1826 28) = 0) (by omega : (H31.1 1826 77) = (H.1 1826 77) ∧ (H31.1 1826 74) = (H.1 1826 74) ∧ (H31.1 1826 67) = (H.1 1826 67)) (agp_o (agp_o ha35 (by decide)) (by decide)) (by omega : (H31.1 1826 34) = (H.1 1826 34)) (fun (q : (2 : Int) = 0) => absurd q (by omega)) (Or.inr ⟨(by omega : (2 : Int) ≠ 0), BD_le (BD_mk hR2 (fr_o (fr_o (fr_rf [35, 36] [] H31) (by decide)) (by decide)) (by decide) (by decide) (by decide : (2 : Int) ≠ 0) rfl rfl (rch_st hq2 (by show (if tk Y (xi X2) = 59 then _ else _) = _; unfold miss; (repeat (first | rw [if_pos (by omega)] | rw [if_neg (by omega)])); try (first | rfl | (exfalso; omega))))) hmf2⟩) (mu_lt2 hw (by omega : (H1.1 1826 35) = 0) (by omega : (H31.1 1826 29) = (H1.1 1826 29)) (by omega : (2 : Int) ≠ 0 ∨ ((H1.1 1826 30) ≤ (H31.1 1826 30) ∧ (H31.1 1826 30) ≤ (H1.1 1826 29) ∧ (((H31.1 1826 31) = 0 ∧ (H1.1 1826 31) ≠ 0) ∨ (H1.1 1826 30) < (H31.1 1826 30)))))
                  · have b37x : (H31.1 1826 35) ≠ 0 := b37
                    refine h_run 0 (pc' := 118) (l' := [(0, .inr (.inr 1826)), (1, .inl (H.1 1826 1)), (2, .inl (H.1 1826 3)), (3, .inl (H.1 1826 8)), (4, .inl (H.1 1826 13)), (5, .inl (H.1 1826 19)), (6, .inl dc)]) (st' := [.inl 0]) rfl ?_
                    refine h_zeq (off := 17) (t := 135) rfl rfl (by decide) (fun _ => ?_) (fun c => absurd c (by decide))
                    refine h_run 1 (pc' := 136) (l' := [(0, .inr (.inr 1826)), (1, .inl (H.1 1826 1)), (2, .inl (H.1 1826 3)), (3, .inl (H.1 1826 8)), (4, .inl (H.1 1826 13)), (5, .inl (H.1 1826 19)), (6, .inl dc)]) (st' := [.inr (.inr 1826)]) rfl ?_
                    refine h_cv (i := 293) (j := 158) (b := 1826) (M' := mt_158) (xs := []) (rest := []) rfl rfl rfl rfl rfl rfl (Nat.le_of_ble_eq_true rfl) (Nat.le_of_ble_eq_true rfl) (by omega) (m_good0 (by omega) (by omega : (H31.1 1826 35) ≠ 0)) ?_
                    rintro _ _ ⟨rfl, rfl⟩
                    refine h_run 0 (pc' := 139) (l' := [(0, .inr (.inr 1826)), (1, .inl (H.1 1826 1)), (2, .inl (H.1 1826 3)), (3, .inl (H.1 1826 8)), (4, .inl (H.1 1826 13)), (5, .inl (H.1 1826 19)), (6, .inl dc)]) (st' := [.inl 0]) rfl ?_
                    refine h_zeq (off := -105) (t := 34) rfl rfl (by decide) (fun _ => ?_) (fun c => absurd c (by decide))
                    have g87 : -2147483648 ≤ (H31.1 1826 30) ∧ (H31.1 1826 30) ≤ 2147483647 := hrg33.1 1826 13 30 _ .int rfl rfl
                    have g88 : -2147483648 ≤ (H31.1 1826 32) ∧ (H31.1 1826 32) ≤ 2147483647 := hrg33.1 1826 13 32 _ .int rfl rfl
                    have g89 : -2147483648 ≤ (H31.1 1826 31) ∧ (H31.1 1826 31) ≤ 2147483647 := hrg33.1 1826 13 31 _ .int rfl rfl
                    have g90 : -2147483648 ≤ (H31.1 1826 29) ∧ (H31.1 1826 29) ≤ 2147483647 := hrg33.1 1826 13 29 _ .int rfl rfl
                    have e91 : (H31.1 1826 29) = (H1.1 1826 29) := hx31f.2.2 29 (by decide)
                    have g92 : -2147483648 ≤ (H31.1 1826 28) ∧ (H31.1 1826 28) ≤ 2147483647 := hrg33.1 1826 13 28 _ .int rfl rfl
                    have e93 : (H31.1 1826 28) = (H1.1 1826 28) := hx31f.2.2 28 (by decide)
                    have g94 : -2147483648 ≤ (H31.1 1826 77) ∧ (H31.1 1826 77) ≤ 2147483647 := hrg33.1 1826 13 77 _ .int rfl rfl
                    have e95 : (H31.1 1826 77) = (H1.1 1826 77) := hx31f.2.2 77 (by decide)
                    have g96 : -2147483648 ≤ (H31.1 1826 74) ∧ (H31.1 1826 74) ≤ 2147483647 := hrg33.1 1826 13 74 _ .int rfl rfl
                    have e97 : (H31.1 1826 74) = (H1.1 1826 74) := hx31f.2.2 74 (by decide)
                    have g98 : -2147483648 ≤ (H31.1 1826 67) ∧ (H31.1 1826 67) ≤ 2147483647 := hrg33.1 1826 13 67 _ .int rfl rfl
                    have e99 : (H31.1 1826 67) = (H1.1 1826 67) := hx31f.2.2 67 (by decide)
                    have e100 : (H1.1 1826 67) = (H.1 1826 67) := hf.2.2 67 (by decide)
                    have g101 : -2147483648 ≤ (H31.1 1826 34) ∧ (H31.1 1826 34) ≤ 2147483647 := hrg33.1 1826 13 34 _ .int rfl rfl
                    have e102 : (H31.1 1826 34) = (H1.1 1826 34) := hx31f.2.2 34 (by decide)
                    exact ih.1 _ dc hf34 (by omega : 0 ≤ (H31.1 1826 30) ∧ (H31.1 1826 30) ≤ (H31.1 1826 29) ∧ (H31.1 1826 29) ≤ 1000) (by omega : 0 ≤ (H31.1 1826 35) ∧ (H31.1 1826 35) ≤ 5) (by omega : 0 ≤ (H31.1 1826 32) ∧ (H31.1 1826 32) ≤ 1000) (by omega : (H31.1 1826 28) = 0) (by omega : (H31.1 1826 77) = (H.1 1826 77) ∧ (H31.1 1826 74) = (H.1 1826 74) ∧ (H31.1 1826 67) = (H.1 1826 67)) ha35 (by omega : (H31.1 1826 34) = (H.1 1826 34)) (fun (q : (H31.1 1826 35) = 0) => absurd q (by omega)) (Or.inr ⟨(by omega : (H31.1 1826 35) ≠ 0), BD_le (GB_b hx31n (by omega)) hmf⟩) (mu_lt2 hw (by omega : (H1.1 1826 35) = 0) (by omega : (H31.1 1826 29) = (H1.1 1826 29)) (by omega : (H31.1 1826 35) ≠ 0 ∨ ((H1.1 1826 30) ≤ (H31.1 1826 30) ∧ (H31.1 1826 30) ≤ (H1.1 1826 29) ∧ (((H31.1 1826 31) = 0 ∧ (H1.1 1826 31) ≠ 0) ∨ (H1.1 1826 30) < (H31.1 1826 30)))))
              · refine h_run 1 (pc' := 87) (l' := [(0, .inr (.inr 1826)), (1, .inl (H.1 1826 1)), (2, .inl (H.1 1826 3)), (3, .inl (H.1 1826 8)), (4, .inl (H.1 1826 13)), (5, .inl (H.1 1826 19)), (6, .inl dc)]) (st' := [.inr (.inr 1826)]) rfl ?_
                have g103 : -2147483648 ≤ (H1.1 1826 30) ∧ (H1.1 1826 30) ≤ 2147483647 := hrg1.1 1826 13 30 _ .int rfl rfl
                have g104 : -2147483648 ≤ (H1.1 1826 29) ∧ (H1.1 1826 29) ≤ 2147483647 := hrg1.1 1826 13 29 _ .int rfl rfl
                have g105 : -2147483648 ≤ (H1.1 1826 8) ∧ (H1.1 1826 8) ≤ 2147483647 := hrg1.1 1826 13 8 _ .int rfl rfl
                have g107 : -2147483648 ≤ (H1.1 1826 32) ∧ (H1.1 1826 32) ≤ 2147483647 := hrg1.1 1826 13 32 _ .int rfl rfl
                refine h_cv (i := 405) (j := 186) (b := 1826) (M' := mt_186) (xs := []) (rest := []) rfl rfl rfl rfl rfl rfl (Nat.le_of_ble_eq_true rfl) (Nat.le_of_ble_eq_true rfl) (by omega) (n_rule (by omega) (by omega : 0 ≤ (H1.1 1826 30) ∧ (H1.1 1826 30) ≤ (H1.1 1826 29) ∧ (H1.1 1826 29) ≤ 1000) (by omega : 0 ≤ (H1.1 1826 35) ∧ (H1.1 1826 35) ≤ 5) (by omega : 0 ≤ (H1.1 1826 32) ∧ (H1.1 1826 32) ≤ 1000) (hP1 (by omega : (H1.1 1826 35) = 0)) (by omega : (H1.1 1826 35) = 0) hR1 (by omega : (H1.1 1826 8) = (H1.1 1826 8)) hq1 (by omega : tk Y (xi X1) = 6)) ?_
                rintro _ H106 ⟨rfl, hx106n, hx106f, hx106a, hx106c, -, hx106e, hx106g, hx106p⟩
                refine h_rng (fun hrg108 => ?_)
                have hf109 : fr [1, 3, 8, 13, 19, 28, 29, 30, 31, 32, 33, 34, 35, 36, 39, 40, 41, 43, 44, 47, 74, 76, 77] [1827, 1828, 1829, 1830, 1831, 1832, 1833, 1834, 1835, 1836, 1837, 1838, 1839, 1840, 1841, 1842, 1843, 1844, 1845, 1846, 1847, 1849, 1850, 1851, 1852, 1853, 1854] H H106 := fr_t hf hx106f (by decide) (by decide)
                have ha110 : agp H H106 := agp_tr hag hx106g
                replace hx106a : (H1.1 1826 30) ≤ (H106.1 1826 30) ∧ (H106.1 1826 30) ≤ (H1.1 1826 29) := hx106a
                replace hx106p : hid ((H106.1 1826 35) = 0 → PWc H106) := hx106p
                refine h_run 0 (pc' := 90) (l' := [(0, .inr (.inr 1826)), (1, .inl (H.1 1826 1)), (2, .inl (H.1 1826 3)), (3, .inl (H.1 1826 8)), (4, .inl (H.1 1826 13)), (5, .inl (H.1 1826 19)), (6, .inl dc)]) (st' := []) rfl ?_
                refine h_run 2 (pc' := 115) (l' := [(0, .inr (.inr 1826)), (1, .inl (H.1 1826 1)), (2, .inl (H.1 1826 3)), (3, .inl (H.1 1826 8)), (4, .inl (H.1 1826 13)), (5, .inl (H.1 1826 19)), (6, .inl dc)]) (st' := [.inr (.inr 1826)]) rfl ?_
                have g111 : -2147483648 ≤ (H106.1 1826 35) ∧ (H106.1 1826 35) ≤ 2147483647 := hrg108.1 1826 13 35 _ .int rfl rfl
                refine h_cv (i := 293) (j := 158) (b := 1826) (M' := mt_158) (xs := []) (rest := []) rfl rfl rfl rfl rfl rfl (Nat.le_of_ble_eq_true rfl) (Nat.le_of_ble_eq_true rfl) (by omega) (m_good (by omega)) ?_
                rintro _ _ ⟨⟨rfl, b112⟩ | ⟨rfl, b112⟩, rfl⟩
                · have b112x : (H106.1 1826 35) = 0 := b112
                  refine h_run 0 (pc' := 118) (l' := [(0, .inr (.inr 1826)), (1, .inl (H.1 1826 1)), (2, .inl (H.1 1826 3)), (3, .inl (H.1 1826 8)), (4, .inl (H.1 1826 13)), (5, .inl (H.1 1826 19)), (6, .inl dc)]) (st' := [.inl 1]) rfl ?_
                  refine h_zeq (off := 17) (t := 135) rfl rfl (by decide) (fun c => absurd c (by decide)) (fun _ => ?_)
                  have g113 : -2147483648 ≤ (H106.1 1826 8) ∧ (H106.1 1826 8) ≤ 2147483647 := hrg108.1 1826 13 8 _ .int rfl rfl
                  have e114 : (H106.1 1826 8) = (H1.1 1826 8) := hx106f.2.2 8 (by decide)
                  obtain ⟨X2, hq2, hR2x⟩ := GB_g hx106n (by omega)
                  have hR2 : RK Y (H106.1 1826 8) H106 X2 := by rw [show (H106.1 1826 8) = (H1.1 1826 8) from (hx106f.2.2 8 (by decide))]; exact hR2x
                  have htk2 := RK_t hR2
                  have hmf2 : (H.1 1826 8) ≤ (H106.1 1826 8) := by have q9 := hx106g.1.2.2.1; omega
                  refine h_run 2 (pc' := 125) (l' := [(0, .inr (.inr 1826)), (1, .inl (H.1 1826 1)), (2, .inl (H.1 1826 3)), (3, .inl (H.1 1826 8)), (4, .inl (H.1 1826 13)), (5, .inl (H.1 1826 19)), (6, .inl dc)]) (st' := [.inl (H106.1 1826 31)]) rfl ?_
                  have g115 : -2147483648 ≤ (H106.1 1826 31) ∧ (H106.1 1826 31) ≤ 2147483647 := hrg108.1 1826 13 31 _ .int rfl rfl
                  refine h_run 1 (pc' := 127) (l' := [(0, .inr (.inr 1826)), (1, .inl (H.1 1826 1)), (2, .inl (H.1 1826 3)), (3, .inl (H.1 1826 8)), (4, .inl (H.1 1826 13)), (5, .inl (H.1 1826 19)), (6, .inl dc)]) (st' := [.inl 59, .inl (H106.1 1826 31)]) rfl ?_
                  refine h_ieq (off := 8) (t := 135) rfl rfl (by omega) (by decide) (fun c116 => ?_) (fun c116 => ?_)
                  · refine h_run 1 (pc' := 136) (l' := [(0, .inr (.inr 1826)), (1, .inl (H.1 1826 1)), (2, .inl (H.1 1826 3)), (3, .inl (H.1 1826 8)), (4, .inl (H.1 1826 13)), (5, .inl (H.1 1826 19)), (6, .inl dc)]) (st' := [.inr (.inr 1826)]) rfl ?_
                    refine h_cv (i := 293) (j := 158) (b := 1826) (M' := mt_158) (xs := []) (rest := []) rfl rfl rfl rfl rfl rfl (Nat.le_of_ble_eq_true rfl) (Nat.le_of_ble_eq_true rfl) (by omega) (m_good1 (by omega) (by omega : (H106.1 1826 35) = 0)) ?_
                    rintro _ _ ⟨rfl, rfl⟩
                    refine h_run 0 (pc' := 139) (l' := [(0, .inr (.inr 1826)), (1, .inl (H.1 1826 1)), (2, .inl (H.1 1826 3)), (3, .inl (H.1 1826 8)), (4, .inl (H.1 1826 13)), (5, .inl (H.1 1826 19)), (6, .inl dc)]) (st' := [.inl 1]) rfl ?_
                    refine h_zeq (off := -105) (t := 34) rfl rfl (by decide) (fun c => absurd c (by decide)) (fun _ => ?_)
                    have hq3 : rch Y ([(6, 0, 0, 0)], X) ([(6, dc + 1, 0, 0)], adv X2) := rch_st hq2 (by show (if tk Y (xi X2) = 59 then _ else _) = _; (repeat (first | rw [if_pos (by omega)] | rw [if_neg (by omega)])); try (first | rfl | (exfalso; omega)))
                    refine h_run 1 (pc' := 143) (l' := [(0, .inr (.inr 1826)), (1, .inl (H.1 1826 1)), (2, .inl (H.1 1826 3)), (3, .inl (H.1 1826 8)), (4, .inl (H.1 1826 13)), (5, .inl (H.1 1826 19)), (6, .inl dc)]) (st' := [.inr (.inr 1826)]) rfl ?_
                    have g117 : -2147483648 ≤ (H106.1 1826 30) ∧ (H106.1 1826 30) ≤ 2147483647 := hrg108.1 1826 13 30 _ .int rfl rfl
                    have g118 : -2147483648 ≤ (H106.1 1826 29) ∧ (H106.1 1826 29) ≤ 2147483647 := hrg108.1 1826 13 29 _ .int rfl rfl
                    have e119 : (H106.1 1826 29) = (H1.1 1826 29) := hx106f.2.2 29 (by decide)
                    have g120 : -2147483648 ≤ (H106.1 1826 32) ∧ (H106.1 1826 32) ≤ 2147483647 := hrg108.1 1826 13 32 _ .int rfl rfl
                    refine h_cv (i := 297) (j := 165) (b := 1826) (M' := mt_165) (xs := []) (rest := []) rfl rfl rfl rfl rfl rfl (Nat.le_of_ble_eq_true rfl) (Nat.le_of_ble_eq_true rfl) (by omega) (n_nx (by omega) (by omega : 0 ≤ (H106.1 1826 30) ∧ (H106.1 1826 30) ≤ (H106.1 1826 29) ∧ (H106.1 1826 29) ≤ 1000) (by omega : 0 ≤ (H106.1 1826 35) ∧ (H106.1 1826 35) ≤ 5) (by omega : 0 ≤ (H106.1 1826 32) ∧ (H106.1 1826 32) ≤ 1000) (by omega : (H106.1 1826 35) = 0) (X := (adv X2)) (RN_adv hR2 (fr_rf [] [] _) (by decide) (by decide)) hq3 (lk_n (by decide))) ?_
                    rintro _ H121 ⟨rfl, hx121n, hx121f, hx121a, hx121b, hx121c, -, hx121e, hx121g⟩
                    refine h_rng (fun hrg122 => ?_)
                    have hf123 : fr [1, 3, 8, 13, 19, 28, 29, 30, 31, 32, 33, 34, 35, 36, 39, 40, 41, 43, 44, 47, 74, 76, 77] [1827, 1828, 1829, 1830, 1831, 1832, 1833, 1834, 1835, 1836, 1837, 1838, 1839, 1840, 1841, 1842, 1843, 1844, 1845, 1846, 1847, 1849, 1850, 1851, 1852, 1853, 1854] H H121 := fr_t hf109 hx121f (by decide) (by decide)
                    have ha124 : agp H H121 := agp_tr ha110 (agp_fr hx121f (by decide) (by decide))
                    replace hx121a : (H106.1 1826 30) ≤ (H121.1 1826 30) := hx121a
                    replace hx121b : (H121.1 1826 30) ≤ (H106.1 1826 29) := hx121b
                    replace hx121g : (H121.1 1826 35) = 0 → ((H121.1 1826 31) = 0 ∨ (H106.1 1826 30) < (H121.1 1826 30)) := hx121g
                    refine h_run 0 (pc' := 146) (l' := [(0, .inr (.inr 1826)), (1, .inl (H.1 1826 1)), (2, .inl (H.1 1826 3)), (3, .inl (H.1 1826 8)), (4, .inl (H.1 1826 13)), (5, .inl (H.1 1826 19)), (6, .inl dc)]) (st' := []) rfl ?_
                    refine h_run 2 (pc' := 34) (l' := [(0, .inr (.inr 1826)), (1, .inl (H.1 1826 1)), (2, .inl (H.1 1826 3)), (3, .inl (H.1 1826 8)), (4, .inl (H.1 1826 13)), (5, .inl (H.1 1826 19)), (6, .inl (dc + 1))]) (st' := []) rfl ?_
                    have g125 : -2147483648 ≤ (H121.1 1826 30) ∧ (H121.1 1826 30) ≤ 2147483647 := hrg122.1 1826 13 30 _ .int rfl rfl
                    have g126 : -2147483648 ≤ (H121.1 1826 35) ∧ (H121.1 1826 35) ≤ 2147483647 := hrg122.1 1826 13 35 _ .int rfl rfl
                    have g127 : -2147483648 ≤ (H121.1 1826 32) ∧ (H121.1 1826 32) ≤ 2147483647 := hrg122.1 1826 13 32 _ .int rfl rfl
                    have g128 : -2147483648 ≤ (H121.1 1826 31) ∧ (H121.1 1826 31) ≤ 2147483647 := hrg122.1 1826 13 31 _ .int rfl rfl
                    have g129 : -2147483648 ≤ (H121.1 1826 29) ∧ (H121.1 1826 29) ≤ 2147483647 := hrg122.1 1826 13 29 _ .int rfl rfl
                    have e130 : (H121.1 1826 29) = (H106.1 1826 29) := hx121f.2.2 29 (by decide)
                    have g131 : -2147483648 ≤ (H121.1 1826 28) ∧ (H121.1 1826 28) ≤ 2147483647 := hrg122.1 1826 13 28 _ .int rfl rfl
                    have e132 : (H121.1 1826 28) = (H106.1 1826 28) := hx121f.2.2 28 (by decide)
                    have e133 : (H106.1 1826 28) = (H1.1 1826 28) := hx106f.2.2 28 (by decide)
                    have g134 : -2147483648 ≤ (H121.1 1826 77) ∧ (H121.1 1826 77) ≤ 2147483647 := hrg122.1 1826 13 77 _ .int rfl rfl
                    have e135 : (H121.1 1826 77) = (H106.1 1826 77) := hx121f.2.2 77 (by decide)
                    have e136 : (H106.1 1826 77) = (H1.1 1826 77) := hx106f.2.2 77 (by decide)
                    have g137 : -2147483648 ≤ (H121.1 1826 74) ∧ (H121.1 1826 74) ≤ 2147483647 := hrg122.1 1826 13 74 _ .int rfl rfl
                    have e138 : (H121.1 1826 74) = (H106.1 1826 74) := hx121f.2.2 74 (by decide)
                    have e139 : (H106.1 1826 74) = (H1.1 1826 74) := hx106f.2.2 74 (by decide)
                    have g140 : -2147483648 ≤ (H121.1 1826 67) ∧ (H121.1 1826 67) ≤ 2147483647 := hrg122.1 1826 13 67 _ .int rfl rfl
                    have e141 : (H121.1 1826 67) = (H106.1 1826 67) := hx121f.2.2 67 (by decide)
                    have e142 : (H106.1 1826 67) = (H1.1 1826 67) := hx106f.2.2 67 (by decide)
                    have e143 : (H1.1 1826 67) = (H.1 1826 67) := hf.2.2 67 (by decide)
                    have g144 : -2147483648 ≤ (H121.1 1826 34) ∧ (H121.1 1826 34) ≤ 2147483647 := hrg122.1 1826 13 34 _ .int rfl rfl
                    have e145 : (H121.1 1826 34) = (H106.1 1826 34) := hx121f.2.2 34 (by decide)
                    have e146 : (H106.1 1826 34) = (H1.1 1826 34) := hx106f.2.2 34 (by decide)
                    exact ih.1 _ (dc + 1) hf123 (by omega : 0 ≤ (H121.1 1826 30) ∧ (H121.1 1826 30) ≤ (H121.1 1826 29) ∧ (H121.1 1826 29) ≤ 1000) (by omega : 0 ≤ (H121.1 1826 35) ∧ (H121.1 1826 35) ≤ 5) (by omega : 0 ≤ (H121.1 1826 32) ∧ (H121.1 1826 32) ≤ 1000) (by omega : (H121.1 1826 28) = 0) (by omega : (H121.1 1826 77) = (H.1 1826 77) ∧ (H121.1 1826 74) = (H.1 1826 74) ∧ (H121.1 1826 67) = (H.1 1826 67)) ha124 (by omega : (H121.1 1826 34) = (H.1 1826 34)) (fun _ => PWc_fr (hx106p (by omega)) hx121f (by decide) (by decide)) (GB_le hx121n hmf2 (fun q => ⟨_, hq3, (by rw [show (H121.1 1826 8) = _ from (hx121f.2.2 8 (by decide))]; exact q)⟩)) (mu_lt2 hw (by omega : (H1.1 1826 35) = 0) (by omega : (H121.1 1826 29) = (H1.1 1826 29)) (by omega : (H121.1 1826 35) ≠ 0 ∨ ((H1.1 1826 30) ≤ (H121.1 1826 30) ∧ (H121.1 1826 30) ≤ (H1.1 1826 29) ∧ (((H121.1 1826 31) = 0 ∧ (H1.1 1826 31) ≠ 0) ∨ (H1.1 1826 30) < (H121.1 1826 30)))))
                  · refine h_run 2 (pc' := 132) (l' := [(0, .inr (.inr 1826)), (1, .inl (H.1 1826 1)), (2, .inl (H.1 1826 3)), (3, .inl (H.1 1826 8)), (4, .inl (H.1 1826 13)), (5, .inl (H.1 1826 19)), (6, .inl dc)]) (st' := [.inl 2, .inr (.inr 1826)]) rfl ?_
                    refine h_cv (i := 278) (j := 159) (b := 1826) (M' := mt_159) (xs := [.inl 2]) (rest := []) rfl rfl rfl rfl rfl rfl (Nat.le_of_ble_eq_true rfl) (Nat.le_of_ble_eq_true rfl) (by omega) (m_bad0 (by omega) (by omega) (by omega : (H106.1 1826 35) = 0)) ?_
                    rintro _ _ ⟨rfl, rfl⟩
                    refine h_run 0 (pc' := 135) (l' := [(0, .inr (.inr 1826)), (1, .inl (H.1 1826 1)), (2, .inl (H.1 1826 3)), (3, .inl (H.1 1826 8)), (4, .inl (H.1 1826 13)), (5, .inl (H.1 1826 19)), (6, .inl dc)]) (st' := []) rfl ?_
                    refine h_run 1 (pc' := 136) (l' := [(0, .inr (.inr 1826)), (1, .inl (H.1 1826 1)), (2, .inl (H.1 1826 3)), (3, .inl (H.1 1826 8)), (4, .inl (H.1 1826 13)), (5, .inl (H.1 1826 19)), (6, .inl dc)]) (st' := [.inr (.inr 1826)]) rfl ?_
                    refine h_cv (i := 293) (j := 158) (b := 1826) (M' := mt_158) (xs := []) (rest := []) rfl rfl rfl rfl rfl rfl (Nat.le_of_ble_eq_true rfl) (Nat.le_of_ble_eq_true rfl) (by omega) (m_good0 (by omega) (by omega : (2 : Int) ≠ 0)) ?_
                    rintro _ _ ⟨rfl, rfl⟩
                    refine h_run 0 (pc' := 139) (l' := [(0, .inr (.inr 1826)), (1, .inl (H.1 1826 1)), (2, .inl (H.1 1826 3)), (3, .inl (H.1 1826 8)), (4, .inl (H.1 1826 13)), (5, .inl (H.1 1826 19)), (6, .inl dc)]) (st' := [.inl 0]) rfl ?_
                    refine h_zeq (off := -105) (t := 34) rfl rfl (by decide) (fun _ => ?_) (fun c => absurd c (by decide))
                    have g147 : -2147483648 ≤ (H106.1 1826 30) ∧ (H106.1 1826 30) ≤ 2147483647 := hrg108.1 1826 13 30 _ .int rfl rfl
                    have g148 : -2147483648 ≤ (H106.1 1826 32) ∧ (H106.1 1826 32) ≤ 2147483647 := hrg108.1 1826 13 32 _ .int rfl rfl
                    have g149 : -2147483648 ≤ (H106.1 1826 29) ∧ (H106.1 1826 29) ≤ 2147483647 := hrg108.1 1826 13 29 _ .int rfl rfl
                    have e150 : (H106.1 1826 29) = (H1.1 1826 29) := hx106f.2.2 29 (by decide)
                    have g151 : -2147483648 ≤ (H106.1 1826 28) ∧ (H106.1 1826 28) ≤ 2147483647 := hrg108.1 1826 13 28 _ .int rfl rfl
                    have e152 : (H106.1 1826 28) = (H1.1 1826 28) := hx106f.2.2 28 (by decide)
                    have g153 : -2147483648 ≤ (H106.1 1826 77) ∧ (H106.1 1826 77) ≤ 2147483647 := hrg108.1 1826 13 77 _ .int rfl rfl
                    have e154 : (H106.1 1826 77) = (H1.1 1826 77) := hx106f.2.2 77 (by decide)
                    have g155 : -2147483648 ≤ (H106.1 1826 74) ∧ (H106.1 1826 74) ≤ 2147483647 := hrg108.1 1826 13 74 _ .int rfl rfl
                    have e156 : (H106.1 1826 74) = (H1.1 1826 74) := hx106f.2.2 74 (by decide)
                    have g157 : -2147483648 ≤ (H106.1 1826 67) ∧ (H106.1 1826 67) ≤ 2147483647 := hrg108.1 1826 13 67 _ .int rfl rfl
                    have e158 : (H106.1 1826 67) = (H1.1 1826 67) := hx106f.2.2 67 (by decide)
                    have e159 : (H1.1 1826 67) = (H.1 1826 67) := hf.2.2 67 (by decide)
                    have g160 : -2147483648 ≤ (H106.1 1826 34) ∧ (H106.1 1826 34) ≤ 2147483647 := hrg108.1 1826 13 34 _ .int rfl rfl
                    have e161 : (H106.1 1826 34) = (H1.1 1826 34) := hx106f.2.2 34 (by decide)
                    exact ih.1 _ dc (fr_o (fr_o hf109 (by decide)) (by decide)) (by omega : 0 ≤ (H106.1 1826 30) ∧ (H106.1 1826 30) ≤ (H106.1 1826 29) ∧ (H106.1 1826 29) ≤ 1000) (by omega : 0 ≤ (2 : Int) ∧ (2 : Int) ≤ 5) (by omega : 0 ≤ (H106.1 1826 32) ∧ (H106.1 1826 32) ≤ 1000) (by omega : (H106.1 1826 28) = 0) (by omega : (H106.1 1826 77) = (H.1 1826 77) ∧ (H106.1 1826 74) = (H.1 1826 74) ∧ (H106.1 1826 67) = (H.1 1826 67)) (agp_o (agp_o ha110 (by decide)) (by decide)) (by omega : (H106.1 1826 34) = (H.1 1826 34)) (fun (q : (2 : Int) = 0) => absurd q (by omega)) (Or.inr ⟨(by omega : (2 : Int) ≠ 0), BD_le (BD_mk hR2 (fr_o (fr_o (fr_rf [35, 36] [] H106) (by decide)) (by decide)) (by decide) (by decide) (by decide : (2 : Int) ≠ 0) rfl rfl (rch_st hq2 (by show (if tk Y (xi X2) = 59 then _ else _) = _; unfold miss; (repeat (first | rw [if_pos (by omega)] | rw [if_neg (by omega)])); try (first | rfl | (exfalso; omega))))) hmf2⟩) (mu_lt2 hw (by omega : (H1.1 1826 35) = 0) (by omega : (H106.1 1826 29) = (H1.1 1826 29)) (by omega : (2 : Int) ≠ 0 ∨ ((H1.1 1826 30) ≤ (H106.1 1826 30) ∧ (H106.1 1826 30) ≤ (H1.1 1826 29) ∧ (((H106.1 1826 31) = 0 ∧ (H1.1 1826 31) ≠ 0) ∨ (H1.1 1826 30) < (H106.1 1826 30)))))
                · have b112x : (H106.1 1826 35) ≠ 0 := b112
                  refine h_run 0 (pc' := 118) (l' := [(0, .inr (.inr 1826)), (1, .inl (H.1 1826 1)), (2, .inl (H.1 1826 3)), (3, .inl (H.1 1826 8)), (4, .inl (H.1 1826 13)), (5, .inl (H.1 1826 19)), (6, .inl dc)]) (st' := [.inl 0]) rfl ?_
                  refine h_zeq (off := 17) (t := 135) rfl rfl (by decide) (fun _ => ?_) (fun c => absurd c (by decide))
                  refine h_run 1 (pc' := 136) (l' := [(0, .inr (.inr 1826)), (1, .inl (H.1 1826 1)), (2, .inl (H.1 1826 3)), (3, .inl (H.1 1826 8)), (4, .inl (H.1 1826 13)), (5, .inl (H.1 1826 19)), (6, .inl dc)]) (st' := [.inr (.inr 1826)]) rfl ?_
                  refine h_cv (i := 293) (j := 158) (b := 1826) (M' := mt_158) (xs := []) (rest := []) rfl rfl rfl rfl rfl rfl (Nat.le_of_ble_eq_true rfl) (Nat.le_of_ble_eq_true rfl) (by omega) (m_good0 (by omega) (by omega : (H106.1 1826 35) ≠ 0)) ?_
                  rintro _ _ ⟨rfl, rfl⟩
                  refine h_run 0 (pc' := 139) (l' := [(0, .inr (.inr 1826)), (1, .inl (H.1 1826 1)), (2, .inl (H.1 1826 3)), (3, .inl (H.1 1826 8)), (4, .inl (H.1 1826 13)), (5, .inl (H.1 1826 19)), (6, .inl dc)]) (st' := [.inl 0]) rfl ?_
                  refine h_zeq (off := -105) (t := 34) rfl rfl (by decide) (fun _ => ?_) (fun c => absurd c (by decide))
                  have g162 : -2147483648 ≤ (H106.1 1826 30) ∧ (H106.1 1826 30) ≤ 2147483647 := hrg108.1 1826 13 30 _ .int rfl rfl
                  have g163 : -2147483648 ≤ (H106.1 1826 32) ∧ (H106.1 1826 32) ≤ 2147483647 := hrg108.1 1826 13 32 _ .int rfl rfl
                  have g164 : -2147483648 ≤ (H106.1 1826 31) ∧ (H106.1 1826 31) ≤ 2147483647 := hrg108.1 1826 13 31 _ .int rfl rfl
                  have g165 : -2147483648 ≤ (H106.1 1826 29) ∧ (H106.1 1826 29) ≤ 2147483647 := hrg108.1 1826 13 29 _ .int rfl rfl
                  have e166 : (H106.1 1826 29) = (H1.1 1826 29) := hx106f.2.2 29 (by decide)
                  have g167 : -2147483648 ≤ (H106.1 1826 28) ∧ (H106.1 1826 28) ≤ 2147483647 := hrg108.1 1826 13 28 _ .int rfl rfl
                  have e168 : (H106.1 1826 28) = (H1.1 1826 28) := hx106f.2.2 28 (by decide)
                  have g169 : -2147483648 ≤ (H106.1 1826 77) ∧ (H106.1 1826 77) ≤ 2147483647 := hrg108.1 1826 13 77 _ .int rfl rfl
                  have e170 : (H106.1 1826 77) = (H1.1 1826 77) := hx106f.2.2 77 (by decide)
                  have g171 : -2147483648 ≤ (H106.1 1826 74) ∧ (H106.1 1826 74) ≤ 2147483647 := hrg108.1 1826 13 74 _ .int rfl rfl
                  have e172 : (H106.1 1826 74) = (H1.1 1826 74) := hx106f.2.2 74 (by decide)
                  have g173 : -2147483648 ≤ (H106.1 1826 67) ∧ (H106.1 1826 67) ≤ 2147483647 := hrg108.1 1826 13 67 _ .int rfl rfl
                  have e174 : (H106.1 1826 67) = (H1.1 1826 67) := hx106f.2.2 67 (by decide)
                  have e175 : (H1.1 1826 67) = (H.1 1826 67) := hf.2.2 67 (by decide)
                  have g176 : -2147483648 ≤ (H106.1 1826 34) ∧ (H106.1 1826 34) ≤ 2147483647 := hrg108.1 1826 13 34 _ .int rfl rfl
                  have e177 : (H106.1 1826 34) = (H1.1 1826 34) := hx106f.2.2 34 (by decide)
                  exact ih.1 _ dc hf109 (by omega : 0 ≤ (H106.1 1826 30) ∧ (H106.1 1826 30) ≤ (H106.1 1826 29) ∧ (H106.1 1826 29) ≤ 1000) (by omega : 0 ≤ (H106.1 1826 35) ∧ (H106.1 1826 35) ≤ 5) (by omega : 0 ≤ (H106.1 1826 32) ∧ (H106.1 1826 32) ≤ 1000) (by omega : (H106.1 1826 28) = 0) (by omega : (H106.1 1826 77) = (H.1 1826 77) ∧ (H106.1 1826 74) = (H.1 1826 74) ∧ (H106.1 1826 67) = (H.1 1826 67)) ha110 (by omega : (H106.1 1826 34) = (H.1 1826 34)) (fun (q : (H106.1 1826 35) = 0) => absurd q (by omega)) (Or.inr ⟨(by omega : (H106.1 1826 35) ≠ 0), BD_le (GB_b hx106n (by omega)) hmf⟩) (mu_lt2 hw (by omega : (H1.1 1826 35) = 0) (by omega : (H106.1 1826 29) = (H1.1 1826 29)) (by omega : (H106.1 1826 35) ≠ 0 ∨ ((H1.1 1826 30) ≤ (H106.1 1826 30) ∧ (H106.1 1826 30) ≤ (H1.1 1826 29) ∧ (((H106.1 1826 31) = 0 ∧ (H1.1 1826 31) ≠ 0) ∨ (H1.1 1826 30) < (H106.1 1826 30)))))
            · refine h_run 1 (pc' := 72) (l' := [(0, .inr (.inr 1826)), (1, .inl (H.1 1826 1)), (2, .inl (H.1 1826 3)), (3, .inl (H.1 1826 8)), (4, .inl (H.1 1826 13)), (5, .inl (H.1 1826 19)), (6, .inl dc)]) (st' := [.inr (.inr 1826)]) rfl ?_
              have g178 : -2147483648 ≤ (H1.1 1826 30) ∧ (H1.1 1826 30) ≤ 2147483647 := hrg1.1 1826 13 30 _ .int rfl rfl
              have g179 : -2147483648 ≤ (H1.1 1826 29) ∧ (H1.1 1826 29) ≤ 2147483647 := hrg1.1 1826 13 29 _ .int rfl rfl
              have g180 : -2147483648 ≤ (H1.1 1826 8) ∧ (H1.1 1826 8) ≤ 2147483647 := hrg1.1 1826 13 8 _ .int rfl rfl
              have g182 : -2147483648 ≤ (H1.1 1826 32) ∧ (H1.1 1826 32) ≤ 2147483647 := hrg1.1 1826 13 32 _ .int rfl rfl
              refine h_cv (i := 402) (j := 173) (b := 1826) (M' := mt_173) (xs := []) (rest := []) rfl rfl rfl rfl rfl rfl (Nat.le_of_ble_eq_true rfl) (Nat.le_of_ble_eq_true rfl) (by omega) (n_function (by omega) (by omega : 0 ≤ (H1.1 1826 30) ∧ (H1.1 1826 30) ≤ (H1.1 1826 29) ∧ (H1.1 1826 29) ≤ 1000) (by omega : 0 ≤ (H1.1 1826 35) ∧ (H1.1 1826 35) ≤ 5) (by omega : 0 ≤ (H1.1 1826 32) ∧ (H1.1 1826 32) ≤ 1000) (hP1 (by omega : (H1.1 1826 35) = 0)) (by omega : (H1.1 1826 35) = 0) hR1 (by omega : (H1.1 1826 8) = (H1.1 1826 8)) hq1 (by omega : tk Y (xi X1) = 5)) ?_
              rintro _ H181 ⟨rfl, hx181n, hx181f, hx181a, hx181c, -, hx181e, hx181g, hx181p⟩
              refine h_rng (fun hrg183 => ?_)
              have hf184 : fr [1, 3, 8, 13, 19, 28, 29, 30, 31, 32, 33, 34, 35, 36, 39, 40, 41, 43, 44, 47, 74, 76, 77] [1827, 1828, 1829, 1830, 1831, 1832, 1833, 1834, 1835, 1836, 1837, 1838, 1839, 1840, 1841, 1842, 1843, 1844, 1845, 1846, 1847, 1849, 1850, 1851, 1852, 1853, 1854] H H181 := fr_t hf hx181f (by decide) (by decide)
              have ha185 : agp H H181 := agp_tr hag hx181g
              replace hx181a : (H1.1 1826 30) ≤ (H181.1 1826 30) ∧ (H181.1 1826 30) ≤ (H1.1 1826 29) := hx181a
              replace hx181p : hid ((H181.1 1826 35) = 0 → PWc H181) := hx181p
              refine h_run 0 (pc' := 75) (l' := [(0, .inr (.inr 1826)), (1, .inl (H.1 1826 1)), (2, .inl (H.1 1826 3)), (3, .inl (H.1 1826 8)), (4, .inl (H.1 1826 13)), (5, .inl (H.1 1826 19)), (6, .inl dc)]) (st' := []) rfl ?_
              refine h_run 2 (pc' := 115) (l' := [(0, .inr (.inr 1826)), (1, .inl (H.1 1826 1)), (2, .inl (H.1 1826 3)), (3, .inl (H.1 1826 8)), (4, .inl (H.1 1826 13)), (5, .inl (H.1 1826 19)), (6, .inl dc)]) (st' := [.inr (.inr 1826)]) rfl ?_
              have g186 : -2147483648 ≤ (H181.1 1826 35) ∧ (H181.1 1826 35) ≤ 2147483647 := hrg183.1 1826 13 35 _ .int rfl rfl
              refine h_cv (i := 293) (j := 158) (b := 1826) (M' := mt_158) (xs := []) (rest := []) rfl rfl rfl rfl rfl rfl (Nat.le_of_ble_eq_true rfl) (Nat.le_of_ble_eq_true rfl) (by omega) (m_good (by omega)) ?_
              rintro _ _ ⟨⟨rfl, b187⟩ | ⟨rfl, b187⟩, rfl⟩
              · have b187x : (H181.1 1826 35) = 0 := b187
                refine h_run 0 (pc' := 118) (l' := [(0, .inr (.inr 1826)), (1, .inl (H.1 1826 1)), (2, .inl (H.1 1826 3)), (3, .inl (H.1 1826 8)), (4, .inl (H.1 1826 13)), (5, .inl (H.1 1826 19)), (6, .inl dc)]) (st' := [.inl 1]) rfl ?_
                refine h_zeq (off := 17) (t := 135) rfl rfl (by decide) (fun c => absurd c (by decide)) (fun _ => ?_)
                have g188 : -2147483648 ≤ (H181.1 1826 8) ∧ (H181.1 1826 8) ≤ 2147483647 := hrg183.1 1826 13 8 _ .int rfl rfl
                obtain ⟨X2, hq2, hR2x, hfn⟩ := GB_g hx181n (by omega)
                have hR2 : RK Y (H181.1 1826 8) H181 X2 := by rw [hfn]; exact hR2x
                have htk2 := RK_t hR2
                have hmf2 : (H.1 1826 8) ≤ (H181.1 1826 8) := by have q9 := hx181g.1.2.2.1; omega
                refine h_run 2 (pc' := 125) (l' := [(0, .inr (.inr 1826)), (1, .inl (H.1 1826 1)), (2, .inl (H.1 1826 3)), (3, .inl (H.1 1826 8)), (4, .inl (H.1 1826 13)), (5, .inl (H.1 1826 19)), (6, .inl dc)]) (st' := [.inl (H181.1 1826 31)]) rfl ?_
                have g189 : -2147483648 ≤ (H181.1 1826 31) ∧ (H181.1 1826 31) ≤ 2147483647 := hrg183.1 1826 13 31 _ .int rfl rfl
                refine h_run 1 (pc' := 127) (l' := [(0, .inr (.inr 1826)), (1, .inl (H.1 1826 1)), (2, .inl (H.1 1826 3)), (3, .inl (H.1 1826 8)), (4, .inl (H.1 1826 13)), (5, .inl (H.1 1826 19)), (6, .inl dc)]) (st' := [.inl 59, .inl (H181.1 1826 31)]) rfl ?_
                refine h_ieq (off := 8) (t := 135) rfl rfl (by omega) (by decide) (fun c190 => ?_) (fun c190 => ?_)
                · refine h_run 1 (pc' := 136) (l' := [(0, .inr (.inr 1826)), (1, .inl (H.1 1826 1)), (2, .inl (H.1 1826 3)), (3, .inl (H.1 1826 8)), (4, .inl (H.1 1826 13)), (5, .inl (H.1 1826 19)), (6, .inl dc)]) (st' := [.inr (.inr 1826)]) rfl ?_
                  refine h_cv (i := 293) (j := 158) (b := 1826) (M' := mt_158) (xs := []) (rest := []) rfl rfl rfl rfl rfl rfl (Nat.le_of_ble_eq_true rfl) (Nat.le_of_ble_eq_true rfl) (by omega) (m_good1 (by omega) (by omega : (H181.1 1826 35) = 0)) ?_
                  rintro _ _ ⟨rfl, rfl⟩
                  refine h_run 0 (pc' := 139) (l' := [(0, .inr (.inr 1826)), (1, .inl (H.1 1826 1)), (2, .inl (H.1 1826 3)), (3, .inl (H.1 1826 8)), (4, .inl (H.1 1826 13)), (5, .inl (H.1 1826 19)), (6, .inl dc)]) (st' := [.inl 1]) rfl ?_
                  refine h_zeq (off := -105) (t := 34) rfl rfl (by decide) (fun c => absurd c (by decide)) (fun _ => ?_)
                  have hq3 : rch Y ([(6, 0, 0, 0)], X) ([(6, dc + 1, 0, 0)], adv X2) := rch_st hq2 (by show (if tk Y (xi X2) = 59 then _ else _) = _; (repeat (first | rw [if_pos (by omega)] | rw [if_neg (by omega)])); try (first | rfl | (exfalso; omega)))
                  refine h_run 1 (pc' := 143) (l' := [(0, .inr (.inr 1826)), (1, .inl (H.1 1826 1)), (2, .inl (H.1 1826 3)), (3, .inl (H.1 1826 8)), (4, .inl (H.1 1826 13)), (5, .inl (H.1 1826 19)), (6, .inl dc)]) (st' := [.inr (.inr 1826)]) rfl ?_
                  have g191 : -2147483648 ≤ (H181.1 1826 30) ∧ (H181.1 1826 30) ≤ 2147483647 := hrg183.1 1826 13 30 _ .int rfl rfl
                  have g192 : -2147483648 ≤ (H181.1 1826 29) ∧ (H181.1 1826 29) ≤ 2147483647 := hrg183.1 1826 13 29 _ .int rfl rfl
                  have e193 : (H181.1 1826 29) = (H1.1 1826 29) := hx181f.2.2 29 (by decide)
                  have g194 : -2147483648 ≤ (H181.1 1826 32) ∧ (H181.1 1826 32) ≤ 2147483647 := hrg183.1 1826 13 32 _ .int rfl rfl
                  refine h_cv (i := 297) (j := 165) (b := 1826) (M' := mt_165) (xs := []) (rest := []) rfl rfl rfl rfl rfl rfl (Nat.le_of_ble_eq_true rfl) (Nat.le_of_ble_eq_true rfl) (by omega) (n_nx (by omega) (by omega : 0 ≤ (H181.1 1826 30) ∧ (H181.1 1826 30) ≤ (H181.1 1826 29) ∧ (H181.1 1826 29) ≤ 1000) (by omega : 0 ≤ (H181.1 1826 35) ∧ (H181.1 1826 35) ≤ 5) (by omega : 0 ≤ (H181.1 1826 32) ∧ (H181.1 1826 32) ≤ 1000) (by omega : (H181.1 1826 35) = 0) (X := (adv X2)) (RN_adv hR2 (fr_rf [] [] _) (by decide) (by decide)) hq3 (lk_n (by decide))) ?_
                  rintro _ H195 ⟨rfl, hx195n, hx195f, hx195a, hx195b, hx195c, -, hx195e, hx195g⟩
                  refine h_rng (fun hrg196 => ?_)
                  have hf197 : fr [1, 3, 8, 13, 19, 28, 29, 30, 31, 32, 33, 34, 35, 36, 39, 40, 41, 43, 44, 47, 74, 76, 77] [1827, 1828, 1829, 1830, 1831, 1832, 1833, 1834, 1835, 1836, 1837, 1838, 1839, 1840, 1841, 1842, 1843, 1844, 1845, 1846, 1847, 1849, 1850, 1851, 1852, 1853, 1854] H H195 := fr_t hf184 hx195f (by decide) (by decide)
                  have ha198 : agp H H195 := agp_tr ha185 (agp_fr hx195f (by decide) (by decide))
                  replace hx195a : (H181.1 1826 30) ≤ (H195.1 1826 30) := hx195a
                  replace hx195b : (H195.1 1826 30) ≤ (H181.1 1826 29) := hx195b
                  replace hx195g : (H195.1 1826 35) = 0 → ((H195.1 1826 31) = 0 ∨ (H181.1 1826 30) < (H195.1 1826 30)) := hx195g
                  refine h_run 0 (pc' := 146) (l' := [(0, .inr (.inr 1826)), (1, .inl (H.1 1826 1)), (2, .inl (H.1 1826 3)), (3, .inl (H.1 1826 8)), (4, .inl (H.1 1826 13)), (5, .inl (H.1 1826 19)), (6, .inl dc)]) (st' := []) rfl ?_
                  refine h_run 2 (pc' := 34) (l' := [(0, .inr (.inr 1826)), (1, .inl (H.1 1826 1)), (2, .inl (H.1 1826 3)), (3, .inl (H.1 1826 8)), (4, .inl (H.1 1826 13)), (5, .inl (H.1 1826 19)), (6, .inl (dc + 1))]) (st' := []) rfl ?_
                  have g199 : -2147483648 ≤ (H195.1 1826 30) ∧ (H195.1 1826 30) ≤ 2147483647 := hrg196.1 1826 13 30 _ .int rfl rfl
                  have g200 : -2147483648 ≤ (H195.1 1826 35) ∧ (H195.1 1826 35) ≤ 2147483647 := hrg196.1 1826 13 35 _ .int rfl rfl
                  have g201 : -2147483648 ≤ (H195.1 1826 32) ∧ (H195.1 1826 32) ≤ 2147483647 := hrg196.1 1826 13 32 _ .int rfl rfl
                  have g202 : -2147483648 ≤ (H195.1 1826 31) ∧ (H195.1 1826 31) ≤ 2147483647 := hrg196.1 1826 13 31 _ .int rfl rfl
                  have g203 : -2147483648 ≤ (H195.1 1826 29) ∧ (H195.1 1826 29) ≤ 2147483647 := hrg196.1 1826 13 29 _ .int rfl rfl
                  have e204 : (H195.1 1826 29) = (H181.1 1826 29) := hx195f.2.2 29 (by decide)
                  have g205 : -2147483648 ≤ (H195.1 1826 28) ∧ (H195.1 1826 28) ≤ 2147483647 := hrg196.1 1826 13 28 _ .int rfl rfl
                  have e206 : (H195.1 1826 28) = (H181.1 1826 28) := hx195f.2.2 28 (by decide)
                  have e207 : (H181.1 1826 28) = (H1.1 1826 28) := hx181f.2.2 28 (by decide)
                  have g208 : -2147483648 ≤ (H195.1 1826 77) ∧ (H195.1 1826 77) ≤ 2147483647 := hrg196.1 1826 13 77 _ .int rfl rfl
                  have e209 : (H195.1 1826 77) = (H181.1 1826 77) := hx195f.2.2 77 (by decide)
                  have e210 : (H181.1 1826 77) = (H1.1 1826 77) := hx181f.2.2 77 (by decide)
                  have g211 : -2147483648 ≤ (H195.1 1826 74) ∧ (H195.1 1826 74) ≤ 2147483647 := hrg196.1 1826 13 74 _ .int rfl rfl
                  have e212 : (H195.1 1826 74) = (H181.1 1826 74) := hx195f.2.2 74 (by decide)
                  have e213 : (H181.1 1826 74) = (H1.1 1826 74) := hx181f.2.2 74 (by decide)
                  have g214 : -2147483648 ≤ (H195.1 1826 67) ∧ (H195.1 1826 67) ≤ 2147483647 := hrg196.1 1826 13 67 _ .int rfl rfl
                  have e215 : (H195.1 1826 67) = (H181.1 1826 67) := hx195f.2.2 67 (by decide)
                  have e216 : (H181.1 1826 67) = (H1.1 1826 67) := hx181f.2.2 67 (by decide)
                  have e217 : (H1.1 1826 67) = (H.1 1826 67) := hf.2.2 67 (by decide)
                  have g218 : -2147483648 ≤ (H195.1 1826 34) ∧ (H195.1 1826 34) ≤ 2147483647 := hrg196.1 1826 13 34 _ .int rfl rfl
                  have e219 : (H195.1 1826 34) = (H181.1 1826 34) := hx195f.2.2 34 (by decide)
                  have e220 : (H181.1 1826 34) = (H1.1 1826 34) := hx181f.2.2 34 (by decide)
                  exact ih.1 _ (dc + 1) hf197 (by omega : 0 ≤ (H195.1 1826 30) ∧ (H195.1 1826 30) ≤ (H195.1 1826 29) ∧ (H195.1 1826 29) ≤ 1000) (by omega : 0 ≤ (H195.1 1826 35) ∧ (H195.1 1826 35) ≤ 5) (by omega : 0 ≤ (H195.1 1826 32) ∧ (H195.1 1826 32) ≤ 1000) (by omega : (H195.1 1826 28) = 0) (by omega : (H195.1 1826 77) = (H.1 1826 77) ∧ (H195.1 1826 74) = (H.1 1826 74) ∧ (H195.1 1826 67) = (H.1 1826 67)) ha198 (by omega : (H195.1 1826 34) = (H.1 1826 34)) (fun _ => PWc_fr (hx181p (by omega)) hx195f (by decide) (by decide)) (GB_le hx195n hmf2 (fun q => ⟨_, hq3, (by rw [show (H195.1 1826 8) = _ from (hx195f.2.2 8 (by decide))]; exact q)⟩)) (mu_lt2 hw (by omega : (H1.1 1826 35) = 0) (by omega : (H195.1 1826 29) = (H1.1 1826 29)) (by omega : (H195.1 1826 35) ≠ 0 ∨ ((H1.1 1826 30) ≤ (H195.1 1826 30) ∧ (H195.1 1826 30) ≤ (H1.1 1826 29) ∧ (((H195.1 1826 31) = 0 ∧ (H1.1 1826 31) ≠ 0) ∨ (H1.1 1826 30) < (H195.1 1826 30)))))
                · refine h_run 2 (pc' := 132) (l' := [(0, .inr (.inr 1826)), (1, .inl (H.1 1826 1)), (2, .inl (H.1 1826 3)), (3, .inl (H.1 1826 8)), (4, .inl (H.1 1826 13)), (5, .inl (H.1 1826 19)), (6, .inl dc)]) (st' := [.inl 2, .inr (.inr 1826)]) rfl ?_
                  refine h_cv (i := 278) (j := 159) (b := 1826) (M' := mt_159) (xs := [.inl 2]) (rest := []) rfl rfl rfl rfl rfl rfl (Nat.le_of_ble_eq_true rfl) (Nat.le_of_ble_eq_true rfl) (by omega) (m_bad0 (by omega) (by omega) (by omega : (H181.1 1826 35) = 0)) ?_
                  rintro _ _ ⟨rfl, rfl⟩
                  refine h_run 0 (pc' := 135) (l' := [(0, .inr (.inr 1826)), (1, .inl (H.1 1826 1)), (2, .inl (H.1 1826 3)), (3, .inl (H.1 1826 8)), (4, .inl (H.1 1826 13)), (5, .inl (H.1 1826 19)), (6, .inl dc)]) (st' := []) rfl ?_
                  refine h_run 1 (pc' := 136) (l' := [(0, .inr (.inr 1826)), (1, .inl (H.1 1826 1)), (2, .inl (H.1 1826 3)), (3, .inl (H.1 1826 8)), (4, .inl (H.1 1826 13)), (5, .inl (H.1 1826 19)), (6, .inl dc)]) (st' := [.inr (.inr 1826)]) rfl ?_
                  refine h_cv (i := 293) (j := 158) (b := 1826) (M' := mt_158) (xs := []) (rest := []) rfl rfl rfl rfl rfl rfl (Nat.le_of_ble_eq_true rfl) (Nat.le_of_ble_eq_true rfl) (by omega) (m_good0 (by omega) (by omega : (2 : Int) ≠ 0)) ?_
                  rintro _ _ ⟨rfl, rfl⟩
                  refine h_run 0 (pc' := 139) (l' := [(0, .inr (.inr 1826)), (1, .inl (H.1 1826 1)), (2, .inl (H.1 1826 3)), (3, .inl (H.1 1826 8)), (4, .inl (H.1 1826 13)), (5, .inl (H.1 1826 19)), (6, .inl dc)]) (st' := [.inl 0]) rfl ?_
                  refine h_zeq (off := -105) (t := 34) rfl rfl (by decide) (fun _ => ?_) (fun c => absurd c (by decide))
                  have g221 : -2147483648 ≤ (H181.1 1826 30) ∧ (H181.1 1826 30) ≤ 2147483647 := hrg183.1 1826 13 30 _ .int rfl rfl
                  have g222 : -2147483648 ≤ (H181.1 1826 32) ∧ (H181.1 1826 32) ≤ 2147483647 := hrg183.1 1826 13 32 _ .int rfl rfl
                  have g223 : -2147483648 ≤ (H181.1 1826 29) ∧ (H181.1 1826 29) ≤ 2147483647 := hrg183.1 1826 13 29 _ .int rfl rfl
                  have e224 : (H181.1 1826 29) = (H1.1 1826 29) := hx181f.2.2 29 (by decide)
                  have g225 : -2147483648 ≤ (H181.1 1826 28) ∧ (H181.1 1826 28) ≤ 2147483647 := hrg183.1 1826 13 28 _ .int rfl rfl
                  have e226 : (H181.1 1826 28) = (H1.1 1826 28) := hx181f.2.2 28 (by decide)
                  have g227 : -2147483648 ≤ (H181.1 1826 77) ∧ (H181.1 1826 77) ≤ 2147483647 := hrg183.1 1826 13 77 _ .int rfl rfl
                  have e228 : (H181.1 1826 77) = (H1.1 1826 77) := hx181f.2.2 77 (by decide)
                  have g229 : -2147483648 ≤ (H181.1 1826 74) ∧ (H181.1 1826 74) ≤ 2147483647 := hrg183.1 1826 13 74 _ .int rfl rfl
                  have e230 : (H181.1 1826 74) = (H1.1 1826 74) := hx181f.2.2 74 (by decide)
                  have g231 : -2147483648 ≤ (H181.1 1826 67) ∧ (H181.1 1826 67) ≤ 2147483647 := hrg183.1 1826 13 67 _ .int rfl rfl
                  have e232 : (H181.1 1826 67) = (H1.1 1826 67) := hx181f.2.2 67 (by decide)
                  have e233 : (H1.1 1826 67) = (H.1 1826 67) := hf.2.2 67 (by decide)
                  have g234 : -2147483648 ≤ (H181.1 1826 34) ∧ (H181.1 1826 34) ≤ 2147483647 := hrg183.1 1826 13 34 _ .int rfl rfl
                  have e235 : (H181.1 1826 34) = (H1.1 1826 34) := hx181f.2.2 34 (by decide)
                  exact ih.1 _ dc (fr_o (fr_o hf184 (by decide)) (by decide)) (by omega : 0 ≤ (H181.1 1826 30) ∧ (H181.1 1826 30) ≤ (H181.1 1826 29) ∧ (H181.1 1826 29) ≤ 1000) (by omega : 0 ≤ (2 : Int) ∧ (2 : Int) ≤ 5) (by omega : 0 ≤ (H181.1 1826 32) ∧ (H181.1 1826 32) ≤ 1000) (by omega : (H181.1 1826 28) = 0) (by omega : (H181.1 1826 77) = (H.1 1826 77) ∧ (H181.1 1826 74) = (H.1 1826 74) ∧ (H181.1 1826 67) = (H.1 1826 67)) (agp_o (agp_o ha185 (by decide)) (by decide)) (by omega : (H181.1 1826 34) = (H.1 1826 34)) (fun (q : (2 : Int) = 0) => absurd q (by omega)) (Or.inr ⟨(by omega : (2 : Int) ≠ 0), BD_le (BD_mk hR2 (fr_o (fr_o (fr_rf [35, 36] [] H181) (by decide)) (by decide)) (by decide) (by decide) (by decide : (2 : Int) ≠ 0) rfl rfl (rch_st hq2 (by show (if tk Y (xi X2) = 59 then _ else _) = _; unfold miss; (repeat (first | rw [if_pos (by omega)] | rw [if_neg (by omega)])); try (first | rfl | (exfalso; omega))))) hmf2⟩) (mu_lt2 hw (by omega : (H1.1 1826 35) = 0) (by omega : (H181.1 1826 29) = (H1.1 1826 29)) (by omega : (2 : Int) ≠ 0 ∨ ((H1.1 1826 30) ≤ (H181.1 1826 30) ∧ (H181.1 1826 30) ≤ (H1.1 1826 29) ∧ (((H181.1 1826 31) = 0 ∧ (H1.1 1826 31) ≠ 0) ∨ (H1.1 1826 30) < (H181.1 1826 30)))))
              · have b187x : (H181.1 1826 35) ≠ 0 := b187
                refine h_run 0 (pc' := 118) (l' := [(0, .inr (.inr 1826)), (1, .inl (H.1 1826 1)), (2, .inl (H.1 1826 3)), (3, .inl (H.1 1826 8)), (4, .inl (H.1 1826 13)), (5, .inl (H.1 1826 19)), (6, .inl dc)]) (st' := [.inl 0]) rfl ?_
                refine h_zeq (off := 17) (t := 135) rfl rfl (by decide) (fun _ => ?_) (fun c => absurd c (by decide))
                refine h_run 1 (pc' := 136) (l' := [(0, .inr (.inr 1826)), (1, .inl (H.1 1826 1)), (2, .inl (H.1 1826 3)), (3, .inl (H.1 1826 8)), (4, .inl (H.1 1826 13)), (5, .inl (H.1 1826 19)), (6, .inl dc)]) (st' := [.inr (.inr 1826)]) rfl ?_
                refine h_cv (i := 293) (j := 158) (b := 1826) (M' := mt_158) (xs := []) (rest := []) rfl rfl rfl rfl rfl rfl (Nat.le_of_ble_eq_true rfl) (Nat.le_of_ble_eq_true rfl) (by omega) (m_good0 (by omega) (by omega : (H181.1 1826 35) ≠ 0)) ?_
                rintro _ _ ⟨rfl, rfl⟩
                refine h_run 0 (pc' := 139) (l' := [(0, .inr (.inr 1826)), (1, .inl (H.1 1826 1)), (2, .inl (H.1 1826 3)), (3, .inl (H.1 1826 8)), (4, .inl (H.1 1826 13)), (5, .inl (H.1 1826 19)), (6, .inl dc)]) (st' := [.inl 0]) rfl ?_
                refine h_zeq (off := -105) (t := 34) rfl rfl (by decide) (fun _ => ?_) (fun c => absurd c (by decide))
                have g236 : -2147483648 ≤ (H181.1 1826 30) ∧ (H181.1 1826 30) ≤ 2147483647 := hrg183.1 1826 13 30 _ .int rfl rfl
                have g237 : -2147483648 ≤ (H181.1 1826 32) ∧ (H181.1 1826 32) ≤ 2147483647 := hrg183.1 1826 13 32 _ .int rfl rfl
                have g238 : -2147483648 ≤ (H181.1 1826 31) ∧ (H181.1 1826 31) ≤ 2147483647 := hrg183.1 1826 13 31 _ .int rfl rfl
                have g239 : -2147483648 ≤ (H181.1 1826 29) ∧ (H181.1 1826 29) ≤ 2147483647 := hrg183.1 1826 13 29 _ .int rfl rfl
                have e240 : (H181.1 1826 29) = (H1.1 1826 29) := hx181f.2.2 29 (by decide)
                have g241 : -2147483648 ≤ (H181.1 1826 28) ∧ (H181.1 1826 28) ≤ 2147483647 := hrg183.1 1826 13 28 _ .int rfl rfl
                have e242 : (H181.1 1826 28) = (H1.1 1826 28) := hx181f.2.2 28 (by decide)
                have g243 : -2147483648 ≤ (H181.1 1826 77) ∧ (H181.1 1826 77) ≤ 2147483647 := hrg183.1 1826 13 77 _ .int rfl rfl
                have e244 : (H181.1 1826 77) = (H1.1 1826 77) := hx181f.2.2 77 (by decide)
                have g245 : -2147483648 ≤ (H181.1 1826 74) ∧ (H181.1 1826 74) ≤ 2147483647 := hrg183.1 1826 13 74 _ .int rfl rfl
                have e246 : (H181.1 1826 74) = (H1.1 1826 74) := hx181f.2.2 74 (by decide)
                have g247 : -2147483648 ≤ (H181.1 1826 67) ∧ (H181.1 1826 67) ≤ 2147483647 := hrg183.1 1826 13 67 _ .int rfl rfl
                have e248 : (H181.1 1826 67) = (H1.1 1826 67) := hx181f.2.2 67 (by decide)
                have e249 : (H1.1 1826 67) = (H.1 1826 67) := hf.2.2 67 (by decide)
                have g250 : -2147483648 ≤ (H181.1 1826 34) ∧ (H181.1 1826 34) ≤ 2147483647 := hrg183.1 1826 13 34 _ .int rfl rfl
                have e251 : (H181.1 1826 34) = (H1.1 1826 34) := hx181f.2.2 34 (by decide)
                exact ih.1 _ dc hf184 (by omega : 0 ≤ (H181.1 1826 30) ∧ (H181.1 1826 30) ≤ (H181.1 1826 29) ∧ (H181.1 1826 29) ≤ 1000) (by omega : 0 ≤ (H181.1 1826 35) ∧ (H181.1 1826 35) ≤ 5) (by omega : 0 ≤ (H181.1 1826 32) ∧ (H181.1 1826 32) ≤ 1000) (by omega : (H181.1 1826 28) = 0) (by omega : (H181.1 1826 77) = (H.1 1826 77) ∧ (H181.1 1826 74) = (H.1 1826 74) ∧ (H181.1 1826 67) = (H.1 1826 67)) ha185 (by omega : (H181.1 1826 34) = (H.1 1826 34)) (fun (q : (H181.1 1826 35) = 0) => absurd q (by omega)) (Or.inr ⟨(by omega : (H181.1 1826 35) ≠ 0), BD_le (GB_b hx181n (by omega)) hmf⟩) (mu_lt2 hw (by omega : (H1.1 1826 35) = 0) (by omega : (H181.1 1826 29) = (H1.1 1826 29)) (by omega : (H181.1 1826 35) ≠ 0 ∨ ((H1.1 1826 30) ≤ (H181.1 1826 30) ∧ (H181.1 1826 30) ≤ (H1.1 1826 29) ∧ (((H181.1 1826 31) = 0 ∧ (H1.1 1826 31) ≠ 0) ∨ (H1.1 1826 30) < (H181.1 1826 30)))))
          · refine h_run 1 (pc' := 57) (l' := [(0, .inr (.inr 1826)), (1, .inl (H.1 1826 1)), (2, .inl (H.1 1826 3)), (3, .inl (H.1 1826 8)), (4, .inl (H.1 1826 13)), (5, .inl (H.1 1826 19)), (6, .inl dc)]) (st' := [.inr (.inr 1826)]) rfl ?_
            have g252 : -2147483648 ≤ (H1.1 1826 30) ∧ (H1.1 1826 30) ≤ 2147483647 := hrg1.1 1826 13 30 _ .int rfl rfl
            have g253 : -2147483648 ≤ (H1.1 1826 29) ∧ (H1.1 1826 29) ≤ 2147483647 := hrg1.1 1826 13 29 _ .int rfl rfl
            have g254 : -2147483648 ≤ (H1.1 1826 8) ∧ (H1.1 1826 8) ≤ 2147483647 := hrg1.1 1826 13 8 _ .int rfl rfl
            have g256 : -2147483648 ≤ (H1.1 1826 32) ∧ (H1.1 1826 32) ≤ 2147483647 := hrg1.1 1826 13 32 _ .int rfl rfl
            refine h_cv (i := 399) (j := 170) (b := 1826) (M' := mt_170) (xs := []) (rest := []) rfl rfl rfl rfl rfl rfl (Nat.le_of_ble_eq_true rfl) (Nat.le_of_ble_eq_true rfl) (by omega) (n_data (by omega) (by omega : 0 ≤ (H1.1 1826 30) ∧ (H1.1 1826 30) ≤ (H1.1 1826 29) ∧ (H1.1 1826 29) ≤ 1000) (by omega : 0 ≤ (H1.1 1826 35) ∧ (H1.1 1826 35) ≤ 5) (by omega : 0 ≤ (H1.1 1826 32) ∧ (H1.1 1826 32) ≤ 1000) (hP1 (by omega : (H1.1 1826 35) = 0)) (by omega : (H1.1 1826 35) = 0) hR1 hq1 (by omega : tk Y (xi X1) = 4)) ?_
            rintro _ H255 ⟨rfl, hx255n, hx255f, hx255a, hx255c, -, hx255e, hx255g, hx255p⟩
            refine h_rng (fun hrg257 => ?_)
            have hf258 : fr [1, 3, 8, 13, 19, 28, 29, 30, 31, 32, 33, 34, 35, 36, 39, 40, 41, 43, 44, 47, 74, 76, 77] [1827, 1828, 1829, 1830, 1831, 1832, 1833, 1834, 1835, 1836, 1837, 1838, 1839, 1840, 1841, 1842, 1843, 1844, 1845, 1846, 1847, 1849, 1850, 1851, 1852, 1853, 1854] H H255 := fr_t hf hx255f (by decide) (by decide)
            have ha259 : agp H H255 := agp_tr hag hx255g
            replace hx255a : (H1.1 1826 30) ≤ (H255.1 1826 30) ∧ (H255.1 1826 30) ≤ (H1.1 1826 29) := hx255a
            replace hx255p : hid ((H255.1 1826 35) = 0 → PWc H255) := hx255p
            refine h_run 0 (pc' := 60) (l' := [(0, .inr (.inr 1826)), (1, .inl (H.1 1826 1)), (2, .inl (H.1 1826 3)), (3, .inl (H.1 1826 8)), (4, .inl (H.1 1826 13)), (5, .inl (H.1 1826 19)), (6, .inl dc)]) (st' := []) rfl ?_
            refine h_run 2 (pc' := 115) (l' := [(0, .inr (.inr 1826)), (1, .inl (H.1 1826 1)), (2, .inl (H.1 1826 3)), (3, .inl (H.1 1826 8)), (4, .inl (H.1 1826 13)), (5, .inl (H.1 1826 19)), (6, .inl dc)]) (st' := [.inr (.inr 1826)]) rfl ?_
            have g260 : -2147483648 ≤ (H255.1 1826 35) ∧ (H255.1 1826 35) ≤ 2147483647 := hrg257.1 1826 13 35 _ .int rfl rfl
            refine h_cv (i := 293) (j := 158) (b := 1826) (M' := mt_158) (xs := []) (rest := []) rfl rfl rfl rfl rfl rfl (Nat.le_of_ble_eq_true rfl) (Nat.le_of_ble_eq_true rfl) (by omega) (m_good (by omega)) ?_
            rintro _ _ ⟨⟨rfl, b261⟩ | ⟨rfl, b261⟩, rfl⟩
            · have b261x : (H255.1 1826 35) = 0 := b261
              refine h_run 0 (pc' := 118) (l' := [(0, .inr (.inr 1826)), (1, .inl (H.1 1826 1)), (2, .inl (H.1 1826 3)), (3, .inl (H.1 1826 8)), (4, .inl (H.1 1826 13)), (5, .inl (H.1 1826 19)), (6, .inl dc)]) (st' := [.inl 1]) rfl ?_
              refine h_zeq (off := 17) (t := 135) rfl rfl (by decide) (fun c => absurd c (by decide)) (fun _ => ?_)
              have g262 : -2147483648 ≤ (H255.1 1826 8) ∧ (H255.1 1826 8) ≤ 2147483647 := hrg257.1 1826 13 8 _ .int rfl rfl
              have e263 : (H255.1 1826 8) = (H1.1 1826 8) := hx255f.2.2 8 (by decide)
              obtain ⟨X2, hq2, hR2x⟩ := GB_g hx255n (by omega)
              have hR2 : RK Y (H255.1 1826 8) H255 X2 := by rw [show (H255.1 1826 8) = (H1.1 1826 8) from (hx255f.2.2 8 (by decide))]; exact hR2x
              have htk2 := RK_t hR2
              have hmf2 : (H.1 1826 8) ≤ (H255.1 1826 8) := by have q9 := hx255g.1.2.2.1; omega
              refine h_run 2 (pc' := 125) (l' := [(0, .inr (.inr 1826)), (1, .inl (H.1 1826 1)), (2, .inl (H.1 1826 3)), (3, .inl (H.1 1826 8)), (4, .inl (H.1 1826 13)), (5, .inl (H.1 1826 19)), (6, .inl dc)]) (st' := [.inl (H255.1 1826 31)]) rfl ?_
              have g264 : -2147483648 ≤ (H255.1 1826 31) ∧ (H255.1 1826 31) ≤ 2147483647 := hrg257.1 1826 13 31 _ .int rfl rfl
              refine h_run 1 (pc' := 127) (l' := [(0, .inr (.inr 1826)), (1, .inl (H.1 1826 1)), (2, .inl (H.1 1826 3)), (3, .inl (H.1 1826 8)), (4, .inl (H.1 1826 13)), (5, .inl (H.1 1826 19)), (6, .inl dc)]) (st' := [.inl 59, .inl (H255.1 1826 31)]) rfl ?_
              refine h_ieq (off := 8) (t := 135) rfl rfl (by omega) (by decide) (fun c265 => ?_) (fun c265 => ?_)
              · refine h_run 1 (pc' := 136) (l' := [(0, .inr (.inr 1826)), (1, .inl (H.1 1826 1)), (2, .inl (H.1 1826 3)), (3, .inl (H.1 1826 8)), (4, .inl (H.1 1826 13)), (5, .inl (H.1 1826 19)), (6, .inl dc)]) (st' := [.inr (.inr 1826)]) rfl ?_
                refine h_cv (i := 293) (j := 158) (b := 1826) (M' := mt_158) (xs := []) (rest := []) rfl rfl rfl rfl rfl rfl (Nat.le_of_ble_eq_true rfl) (Nat.le_of_ble_eq_true rfl) (by omega) (m_good1 (by omega) (by omega : (H255.1 1826 35) = 0)) ?_
                rintro _ _ ⟨rfl, rfl⟩
                refine h_run 0 (pc' := 139) (l' := [(0, .inr (.inr 1826)), (1, .inl (H.1 1826 1)), (2, .inl (H.1 1826 3)), (3, .inl (H.1 1826 8)), (4, .inl (H.1 1826 13)), (5, .inl (H.1 1826 19)), (6, .inl dc)]) (st' := [.inl 1]) rfl ?_
                refine h_zeq (off := -105) (t := 34) rfl rfl (by decide) (fun c => absurd c (by decide)) (fun _ => ?_)
                have hq3 : rch Y ([(6, 0, 0, 0)], X) ([(6, dc + 1, 0, 0)], adv X2) := rch_st hq2 (by show (if tk Y (xi X2) = 59 then _ else _) = _; (repeat (first | rw [if_pos (by omega)] | rw [if_neg (by omega)])); try (first | rfl | (exfalso; omega)))
                refine h_run 1 (pc' := 143) (l' := [(0, .inr (.inr 1826)), (1, .inl (H.1 1826 1)), (2, .inl (H.1 1826 3)), (3, .inl (H.1 1826 8)), (4, .inl (H.1 1826 13)), (5, .inl (H.1 1826 19)), (6, .inl dc)]) (st' := [.inr (.inr 1826)]) rfl ?_
                have g266 : -2147483648 ≤ (H255.1 1826 30) ∧ (H255.1 1826 30) ≤ 2147483647 := hrg257.1 1826 13 30 _ .int rfl rfl
                have g267 : -2147483648 ≤ (H255.1 1826 29) ∧ (H255.1 1826 29) ≤ 2147483647 := hrg257.1 1826 13 29 _ .int rfl rfl
                have e268 : (H255.1 1826 29) = (H1.1 1826 29) := hx255f.2.2 29 (by decide)
                have g269 : -2147483648 ≤ (H255.1 1826 32) ∧ (H255.1 1826 32) ≤ 2147483647 := hrg257.1 1826 13 32 _ .int rfl rfl
                refine h_cv (i := 297) (j := 165) (b := 1826) (M' := mt_165) (xs := []) (rest := []) rfl rfl rfl rfl rfl rfl (Nat.le_of_ble_eq_true rfl) (Nat.le_of_ble_eq_true rfl) (by omega) (n_nx (by omega) (by omega : 0 ≤ (H255.1 1826 30) ∧ (H255.1 1826 30) ≤ (H255.1 1826 29) ∧ (H255.1 1826 29) ≤ 1000) (by omega : 0 ≤ (H255.1 1826 35) ∧ (H255.1 1826 35) ≤ 5) (by omega : 0 ≤ (H255.1 1826 32) ∧ (H255.1 1826 32) ≤ 1000) (by omega : (H255.1 1826 35) = 0) (X := (adv X2)) (RN_adv hR2 (fr_rf [] [] _) (by decide) (by decide)) hq3 (lk_n (by decide))) ?_
                rintro _ H270 ⟨rfl, hx270n, hx270f, hx270a, hx270b, hx270c, -, hx270e, hx270g⟩
                refine h_rng (fun hrg271 => ?_)
                have hf272 : fr [1, 3, 8, 13, 19, 28, 29, 30, 31, 32, 33, 34, 35, 36, 39, 40, 41, 43, 44, 47, 74, 76, 77] [1827, 1828, 1829, 1830, 1831, 1832, 1833, 1834, 1835, 1836, 1837, 1838, 1839, 1840, 1841, 1842, 1843, 1844, 1845, 1846, 1847, 1849, 1850, 1851, 1852, 1853, 1854] H H270 := fr_t hf258 hx270f (by decide) (by decide)
                have ha273 : agp H H270 := agp_tr ha259 (agp_fr hx270f (by decide) (by decide))
                replace hx270a : (H255.1 1826 30) ≤ (H270.1 1826 30) := hx270a
                replace hx270b : (H270.1 1826 30) ≤ (H255.1 1826 29) := hx270b
                replace hx270g : (H270.1 1826 35) = 0 → ((H270.1 1826 31) = 0 ∨ (H255.1 1826 30) < (H270.1 1826 30)) := hx270g
                refine h_run 0 (pc' := 146) (l' := [(0, .inr (.inr 1826)), (1, .inl (H.1 1826 1)), (2, .inl (H.1 1826 3)), (3, .inl (H.1 1826 8)), (4, .inl (H.1 1826 13)), (5, .inl (H.1 1826 19)), (6, .inl dc)]) (st' := []) rfl ?_
                refine h_run 2 (pc' := 34) (l' := [(0, .inr (.inr 1826)), (1, .inl (H.1 1826 1)), (2, .inl (H.1 1826 3)), (3, .inl (H.1 1826 8)), (4, .inl (H.1 1826 13)), (5, .inl (H.1 1826 19)), (6, .inl (dc + 1))]) (st' := []) rfl ?_
                have g274 : -2147483648 ≤ (H270.1 1826 30) ∧ (H270.1 1826 30) ≤ 2147483647 := hrg271.1 1826 13 30 _ .int rfl rfl
                have g275 : -2147483648 ≤ (H270.1 1826 35) ∧ (H270.1 1826 35) ≤ 2147483647 := hrg271.1 1826 13 35 _ .int rfl rfl
                have g276 : -2147483648 ≤ (H270.1 1826 32) ∧ (H270.1 1826 32) ≤ 2147483647 := hrg271.1 1826 13 32 _ .int rfl rfl
                have g277 : -2147483648 ≤ (H270.1 1826 31) ∧ (H270.1 1826 31) ≤ 2147483647 := hrg271.1 1826 13 31 _ .int rfl rfl
                have g278 : -2147483648 ≤ (H270.1 1826 29) ∧ (H270.1 1826 29) ≤ 2147483647 := hrg271.1 1826 13 29 _ .int rfl rfl
                have e279 : (H270.1 1826 29) = (H255.1 1826 29) := hx270f.2.2 29 (by decide)
                have g280 : -2147483648 ≤ (H270.1 1826 28) ∧ (H270.1 1826 28) ≤ 2147483647 := hrg271.1 1826 13 28 _ .int rfl rfl
                have e281 : (H270.1 1826 28) = (H255.1 1826 28) := hx270f.2.2 28 (by decide)
                have e282 : (H255.1 1826 28) = (H1.1 1826 28) := hx255f.2.2 28 (by decide)
                have g283 : -2147483648 ≤ (H270.1 1826 77) ∧ (H270.1 1826 77) ≤ 2147483647 := hrg271.1 1826 13 77 _ .int rfl rfl
                have e284 : (H270.1 1826 77) = (H255.1 1826 77) := hx270f.2.2 77 (by decide)
                have e285 : (H255.1 1826 77) = (H1.1 1826 77) := hx255f.2.2 77 (by decide)
                have g286 : -2147483648 ≤ (H270.1 1826 74) ∧ (H270.1 1826 74) ≤ 2147483647 := hrg271.1 1826 13 74 _ .int rfl rfl
                have e287 : (H270.1 1826 74) = (H255.1 1826 74) := hx270f.2.2 74 (by decide)
                have e288 : (H255.1 1826 74) = (H1.1 1826 74) := hx255f.2.2 74 (by decide)
                have g289 : -2147483648 ≤ (H270.1 1826 67) ∧ (H270.1 1826 67) ≤ 2147483647 := hrg271.1 1826 13 67 _ .int rfl rfl
                have e290 : (H270.1 1826 67) = (H255.1 1826 67) := hx270f.2.2 67 (by decide)
                have e291 : (H255.1 1826 67) = (H1.1 1826 67) := hx255f.2.2 67 (by decide)
                have e292 : (H1.1 1826 67) = (H.1 1826 67) := hf.2.2 67 (by decide)
                have g293 : -2147483648 ≤ (H270.1 1826 34) ∧ (H270.1 1826 34) ≤ 2147483647 := hrg271.1 1826 13 34 _ .int rfl rfl
                have e294 : (H270.1 1826 34) = (H255.1 1826 34) := hx270f.2.2 34 (by decide)
                have e295 : (H255.1 1826 34) = (H1.1 1826 34) := hx255f.2.2 34 (by decide)
                exact ih.1 _ (dc + 1) hf272 (by omega : 0 ≤ (H270.1 1826 30) ∧ (H270.1 1826 30) ≤ (H270.1 1826 29) ∧ (H270.1 1826 29) ≤ 1000) (by omega : 0 ≤ (H270.1 1826 35) ∧ (H270.1 1826 35) ≤ 5) (by omega : 0 ≤ (H270.1 1826 32) ∧ (H270.1 1826 32) ≤ 1000) (by omega : (H270.1 1826 28) = 0) (by omega : (H270.1 1826 77) = (H.1 1826 77) ∧ (H270.1 1826 74) = (H.1 1826 74) ∧ (H270.1 1826 67) = (H.1 1826 67)) ha273 (by omega : (H270.1 1826 34) = (H.1 1826 34)) (fun _ => PWc_fr (hx255p (by omega)) hx270f (by decide) (by decide)) (GB_le hx270n hmf2 (fun q => ⟨_, hq3, (by rw [show (H270.1 1826 8) = _ from (hx270f.2.2 8 (by decide))]; exact q)⟩)) (mu_lt2 hw (by omega : (H1.1 1826 35) = 0) (by omega : (H270.1 1826 29) = (H1.1 1826 29)) (by omega : (H270.1 1826 35) ≠ 0 ∨ ((H1.1 1826 30) ≤ (H270.1 1826 30) ∧ (H270.1 1826 30) ≤ (H1.1 1826 29) ∧ (((H270.1 1826 31) = 0 ∧ (H1.1 1826 31) ≠ 0) ∨ (H1.1 1826 30) < (H270.1 1826 30)))))
              · refine h_run 2 (pc' := 132) (l' := [(0, .inr (.inr 1826)), (1, .inl (H.1 1826 1)), (2, .inl (H.1 1826 3)), (3, .inl (H.1 1826 8)), (4, .inl (H.1 1826 13)), (5, .inl (H.1 1826 19)), (6, .inl dc)]) (st' := [.inl 2, .inr (.inr 1826)]) rfl ?_
                refine h_cv (i := 278) (j := 159) (b := 1826) (M' := mt_159) (xs := [.inl 2]) (rest := []) rfl rfl rfl rfl rfl rfl (Nat.le_of_ble_eq_true rfl) (Nat.le_of_ble_eq_true rfl) (by omega) (m_bad0 (by omega) (by omega) (by omega : (H255.1 1826 35) = 0)) ?_
                rintro _ _ ⟨rfl, rfl⟩
                refine h_run 0 (pc' := 135) (l' := [(0, .inr (.inr 1826)), (1, .inl (H.1 1826 1)), (2, .inl (H.1 1826 3)), (3, .inl (H.1 1826 8)), (4, .inl (H.1 1826 13)), (5, .inl (H.1 1826 19)), (6, .inl dc)]) (st' := []) rfl ?_
                refine h_run 1 (pc' := 136) (l' := [(0, .inr (.inr 1826)), (1, .inl (H.1 1826 1)), (2, .inl (H.1 1826 3)), (3, .inl (H.1 1826 8)), (4, .inl (H.1 1826 13)), (5, .inl (H.1 1826 19)), (6, .inl dc)]) (st' := [.inr (.inr 1826)]) rfl ?_
                refine h_cv (i := 293) (j := 158) (b := 1826) (M' := mt_158) (xs := []) (rest := []) rfl rfl rfl rfl rfl rfl (Nat.le_of_ble_eq_true rfl) (Nat.le_of_ble_eq_true rfl) (by omega) (m_good0 (by omega) (by omega : (2 : Int) ≠ 0)) ?_
                rintro _ _ ⟨rfl, rfl⟩
                refine h_run 0 (pc' := 139) (l' := [(0, .inr (.inr 1826)), (1, .inl (H.1 1826 1)), (2, .inl (H.1 1826 3)), (3, .inl (H.1 1826 8)), (4, .inl (H.1 1826 13)), (5, .inl (H.1 1826 19)), (6, .inl dc)]) (st' := [.inl 0]) rfl ?_
                refine h_zeq (off := -105) (t := 34) rfl rfl (by decide) (fun _ => ?_) (fun c => absurd c (by decide))
                have g296 : -2147483648 ≤ (H255.1 1826 30) ∧ (H255.1 1826 30) ≤ 2147483647 := hrg257.1 1826 13 30 _ .int rfl rfl
                have g297 : -2147483648 ≤ (H255.1 1826 32) ∧ (H255.1 1826 32) ≤ 2147483647 := hrg257.1 1826 13 32 _ .int rfl rfl
                have g298 : -2147483648 ≤ (H255.1 1826 29) ∧ (H255.1 1826 29) ≤ 2147483647 := hrg257.1 1826 13 29 _ .int rfl rfl
                have e299 : (H255.1 1826 29) = (H1.1 1826 29) := hx255f.2.2 29 (by decide)
                have g300 : -2147483648 ≤ (H255.1 1826 28) ∧ (H255.1 1826 28) ≤ 2147483647 := hrg257.1 1826 13 28 _ .int rfl rfl
                have e301 : (H255.1 1826 28) = (H1.1 1826 28) := hx255f.2.2 28 (by decide)
                have g302 : -2147483648 ≤ (H255.1 1826 77) ∧ (H255.1 1826 77) ≤ 2147483647 := hrg257.1 1826 13 77 _ .int rfl rfl
                have e303 : (H255.1 1826 77) = (H1.1 1826 77) := hx255f.2.2 77 (by decide)
                have g304 : -2147483648 ≤ (H255.1 1826 74) ∧ (H255.1 1826 74) ≤ 2147483647 := hrg257.1 1826 13 74 _ .int rfl rfl
                have e305 : (H255.1 1826 74) = (H1.1 1826 74) := hx255f.2.2 74 (by decide)
                have g306 : -2147483648 ≤ (H255.1 1826 67) ∧ (H255.1 1826 67) ≤ 2147483647 := hrg257.1 1826 13 67 _ .int rfl rfl
                have e307 : (H255.1 1826 67) = (H1.1 1826 67) := hx255f.2.2 67 (by decide)
                have e308 : (H1.1 1826 67) = (H.1 1826 67) := hf.2.2 67 (by decide)
                have g309 : -2147483648 ≤ (H255.1 1826 34) ∧ (H255.1 1826 34) ≤ 2147483647 := hrg257.1 1826 13 34 _ .int rfl rfl
                have e310 : (H255.1 1826 34) = (H1.1 1826 34) := hx255f.2.2 34 (by decide)
                exact ih.1 _ dc (fr_o (fr_o hf258 (by decide)) (by decide)) (by omega : 0 ≤ (H255.1 1826 30) ∧ (H255.1 1826 30) ≤ (H255.1 1826 29) ∧ (H255.1 1826 29) ≤ 1000) (by omega : 0 ≤ (2 : Int) ∧ (2 : Int) ≤ 5) (by omega : 0 ≤ (H255.1 1826 32) ∧ (H255.1 1826 32) ≤ 1000) (by omega : (H255.1 1826 28) = 0) (by omega : (H255.1 1826 77) = (H.1 1826 77) ∧ (H255.1 1826 74) = (H.1 1826 74) ∧ (H255.1 1826 67) = (H.1 1826 67)) (agp_o (agp_o ha259 (by decide)) (by decide)) (by omega : (H255.1 1826 34) = (H.1 1826 34)) (fun (q : (2 : Int) = 0) => absurd q (by omega)) (Or.inr ⟨(by omega : (2 : Int) ≠ 0), BD_le (BD_mk hR2 (fr_o (fr_o (fr_rf [35, 36] [] H255) (by decide)) (by decide)) (by decide) (by decide) (by decide : (2 : Int) ≠ 0) rfl rfl (rch_st hq2 (by show (if tk Y (xi X2) = 59 then _ else _) = _; unfold miss; (repeat (first | rw [if_pos (by omega)] | rw [if_neg (by omega)])); try (first | rfl | (exfalso; omega))))) hmf2⟩) (mu_lt2 hw (by omega : (H1.1 1826 35) = 0) (by omega : (H255.1 1826 29) = (H1.1 1826 29)) (by omega : (2 : Int) ≠ 0 ∨ ((H1.1 1826 30) ≤ (H255.1 1826 30) ∧ (H255.1 1826 30) ≤ (H1.1 1826 29) ∧ (((H255.1 1826 31) = 0 ∧ (H1.1 1826 31) ≠ 0) ∨ (H1.1 1826 30) < (H255.1 1826 30)))))
            · have b261x : (H255.1 1826 35) ≠ 0 := b261
              refine h_run 0 (pc' := 118) (l' := [(0, .inr (.inr 1826)), (1, .inl (H.1 1826 1)), (2, .inl (H.1 1826 3)), (3, .inl (H.1 1826 8)), (4, .inl (H.1 1826 13)), (5, .inl (H.1 1826 19)), (6, .inl dc)]) (st' := [.inl 0]) rfl ?_
              refine h_zeq (off := 17) (t := 135) rfl rfl (by decide) (fun _ => ?_) (fun c => absurd c (by decide))
              refine h_run 1 (pc' := 136) (l' := [(0, .inr (.inr 1826)), (1, .inl (H.1 1826 1)), (2, .inl (H.1 1826 3)), (3, .inl (H.1 1826 8)), (4, .inl (H.1 1826 13)), (5, .inl (H.1 1826 19)), (6, .inl dc)]) (st' := [.inr (.inr 1826)]) rfl ?_
              refine h_cv (i := 293) (j := 158) (b := 1826) (M' := mt_158) (xs := []) (rest := []) rfl rfl rfl rfl rfl rfl (Nat.le_of_ble_eq_true rfl) (Nat.le_of_ble_eq_true rfl) (by omega) (m_good0 (by omega) (by omega : (H255.1 1826 35) ≠ 0)) ?_
              rintro _ _ ⟨rfl, rfl⟩
              refine h_run 0 (pc' := 139) (l' := [(0, .inr (.inr 1826)), (1, .inl (H.1 1826 1)), (2, .inl (H.1 1826 3)), (3, .inl (H.1 1826 8)), (4, .inl (H.1 1826 13)), (5, .inl (H.1 1826 19)), (6, .inl dc)]) (st' := [.inl 0]) rfl ?_
              refine h_zeq (off := -105) (t := 34) rfl rfl (by decide) (fun _ => ?_) (fun c => absurd c (by decide))
              have g311 : -2147483648 ≤ (H255.1 1826 30) ∧ (H255.1 1826 30) ≤ 2147483647 := hrg257.1 1826 13 30 _ .int rfl rfl
              have g312 : -2147483648 ≤ (H255.1 1826 32) ∧ (H255.1 1826 32) ≤ 2147483647 := hrg257.1 1826 13 32 _ .int rfl rfl
              have g313 : -2147483648 ≤ (H255.1 1826 31) ∧ (H255.1 1826 31) ≤ 2147483647 := hrg257.1 1826 13 31 _ .int rfl rfl
              have g314 : -2147483648 ≤ (H255.1 1826 29) ∧ (H255.1 1826 29) ≤ 2147483647 := hrg257.1 1826 13 29 _ .int rfl rfl
              have e315 : (H255.1 1826 29) = (H1.1 1826 29) := hx255f.2.2 29 (by decide)
              have g316 : -2147483648 ≤ (H255.1 1826 28) ∧ (H255.1 1826 28) ≤ 2147483647 := hrg257.1 1826 13 28 _ .int rfl rfl
              have e317 : (H255.1 1826 28) = (H1.1 1826 28) := hx255f.2.2 28 (by decide)
              have g318 : -2147483648 ≤ (H255.1 1826 77) ∧ (H255.1 1826 77) ≤ 2147483647 := hrg257.1 1826 13 77 _ .int rfl rfl
              have e319 : (H255.1 1826 77) = (H1.1 1826 77) := hx255f.2.2 77 (by decide)
              have g320 : -2147483648 ≤ (H255.1 1826 74) ∧ (H255.1 1826 74) ≤ 2147483647 := hrg257.1 1826 13 74 _ .int rfl rfl
              have e321 : (H255.1 1826 74) = (H1.1 1826 74) := hx255f.2.2 74 (by decide)
              have g322 : -2147483648 ≤ (H255.1 1826 67) ∧ (H255.1 1826 67) ≤ 2147483647 := hrg257.1 1826 13 67 _ .int rfl rfl
              have e323 : (H255.1 1826 67) = (H1.1 1826 67) := hx255f.2.2 67 (by decide)
              have e324 : (H1.1 1826 67) = (H.1 1826 67) := hf.2.2 67 (by decide)
              have g325 : -2147483648 ≤ (H255.1 1826 34) ∧ (H255.1 1826 34) ≤ 2147483647 := hrg257.1 1826 13 34 _ .int rfl rfl
              have e326 : (H255.1 1826 34) = (H1.1 1826 34) := hx255f.2.2 34 (by decide)
              exact ih.1 _ dc hf258 (by omega : 0 ≤ (H255.1 1826 30) ∧ (H255.1 1826 30) ≤ (H255.1 1826 29) ∧ (H255.1 1826 29) ≤ 1000) (by omega : 0 ≤ (H255.1 1826 35) ∧ (H255.1 1826 35) ≤ 5) (by omega : 0 ≤ (H255.1 1826 32) ∧ (H255.1 1826 32) ≤ 1000) (by omega : (H255.1 1826 28) = 0) (by omega : (H255.1 1826 77) = (H.1 1826 77) ∧ (H255.1 1826 74) = (H.1 1826 74) ∧ (H255.1 1826 67) = (H.1 1826 67)) ha259 (by omega : (H255.1 1826 34) = (H.1 1826 34)) (fun (q : (H255.1 1826 35) = 0) => absurd q (by omega)) (Or.inr ⟨(by omega : (H255.1 1826 35) ≠ 0), BD_le (GB_b hx255n (by omega)) hmf⟩) (mu_lt2 hw (by omega : (H1.1 1826 35) = 0) (by omega : (H255.1 1826 29) = (H1.1 1826 29)) (by omega : (H255.1 1826 35) ≠ 0 ∨ ((H1.1 1826 30) ≤ (H255.1 1826 30) ∧ (H255.1 1826 30) ≤ (H1.1 1826 29) ∧ (((H255.1 1826 31) = 0 ∧ (H1.1 1826 31) ≠ 0) ∨ (H1.1 1826 30) < (H255.1 1826 30)))))
      · have b3x : (H1.1 1826 35) ≠ 0 := b3
        refine h_run 0 (pc' := 38) (l' := [(0, .inr (.inr 1826)), (1, .inl (H.1 1826 1)), (2, .inl (H.1 1826 3)), (3, .inl (H.1 1826 8)), (4, .inl (H.1 1826 13)), (5, .inl (H.1 1826 19)), (6, .inl dc)]) (st' := [.inl 0]) rfl ?_
        refine h_zeq (off := 114) (t := 152) rfl rfl (by decide) (fun _ => ?_) (fun c => absurd c (by decide))
        refine h_run 1 (pc' := 153) (l' := [(0, .inr (.inr 1826)), (1, .inl (H.1 1826 1)), (2, .inl (H.1 1826 3)), (3, .inl (H.1 1826 8)), (4, .inl (H.1 1826 13)), (5, .inl (H.1 1826 19)), (6, .inl dc)]) (st' := [.inr (.inr 1826)]) rfl ?_
        refine h_cv (i := 293) (j := 158) (b := 1826) (M' := mt_158) (xs := []) (rest := []) rfl rfl rfl rfl rfl rfl (Nat.le_of_ble_eq_true rfl) (Nat.le_of_ble_eq_true rfl) (by omega) (m_good0 (by omega) (by omega : (H1.1 1826 35) ≠ 0)) ?_
        rintro _ _ ⟨rfl, rfl⟩
        refine h_run 0 (pc' := 156) (l' := [(0, .inr (.inr 1826)), (1, .inl (H.1 1826 1)), (2, .inl (H.1 1826 3)), (3, .inl (H.1 1826 8)), (4, .inl (H.1 1826 13)), (5, .inl (H.1 1826 19)), (6, .inl dc)]) (st' := [.inl 0]) rfl ?_
        refine h_zne (off := 47) (t := 203) rfl rfl (by decide) (fun c => absurd c (by decide)) (fun _ => ?_)
        refine h_run 2 (pc' := 161) (l' := [(0, .inr (.inr 1826)), (1, .inl (H.1 1826 1)), (2, .inl (H.1 1826 3)), (3, .inl (H.1 1826 8)), (4, .inl (H.1 1826 13)), (5, .inl (H.1 1826 19)), (6, .inl dc)]) (st' := [.inl (H.1 1826 1), .inr (.inr 1826)]) rfl ?_
        refine h_puti (i := 306) (ci := 13) (k := 1) (a := 1826) (x := (H.1 1826 1)) rfl rfl rfl rfl rfl rfl (by decide) (by omega) ?_
        refine h_run 2 (pc' := 166) (l' := [(0, .inr (.inr 1826)), (1, .inl (H.1 1826 1)), (2, .inl (H.1 1826 3)), (3, .inl (H.1 1826 8)), (4, .inl (H.1 1826 13)), (5, .inl (H.1 1826 19)), (6, .inl dc)]) (st' := [.inl (H.1 1826 3), .inr (.inr 1826)]) rfl ?_
        refine h_puti (i := 319) (ci := 13) (k := 3) (a := 1826) (x := (H.1 1826 3)) rfl rfl rfl rfl rfl rfl (by decide) (by omega) ?_
        refine h_run 2 (pc' := 171) (l' := [(0, .inr (.inr 1826)), (1, .inl (H.1 1826 1)), (2, .inl (H.1 1826 3)), (3, .inl (H.1 1826 8)), (4, .inl (H.1 1826 13)), (5, .inl (H.1 1826 19)), (6, .inl dc)]) (st' := [.inl (H.1 1826 8), .inr (.inr 1826)]) rfl ?_
        refine h_puti (i := 325) (ci := 13) (k := 8) (a := 1826) (x := (H.1 1826 8)) rfl rfl rfl rfl rfl rfl (by decide) (by omega) ?_
        refine h_run 2 (pc' := 177) (l' := [(0, .inr (.inr 1826)), (1, .inl (H.1 1826 1)), (2, .inl (H.1 1826 3)), (3, .inl (H.1 1826 8)), (4, .inl (H.1 1826 13)), (5, .inl (H.1 1826 19)), (6, .inl dc)]) (st' := [.inl (H.1 1826 13), .inr (.inr 1826)]) rfl ?_
        refine h_puti (i := 376) (ci := 13) (k := 13) (a := 1826) (x := (H.1 1826 13)) rfl rfl rfl rfl rfl rfl (by decide) (by omega) ?_
        refine h_run 2 (pc' := 183) (l' := [(0, .inr (.inr 1826)), (1, .inl (H.1 1826 1)), (2, .inl (H.1 1826 3)), (3, .inl (H.1 1826 8)), (4, .inl (H.1 1826 13)), (5, .inl (H.1 1826 19)), (6, .inl dc)]) (st' := [.inl (H.1 1826 19), .inr (.inr 1826)]) rfl ?_
        refine h_puti (i := 387) (ci := 13) (k := 19) (a := 1826) (x := (H.1 1826 19)) rfl rfl rfl rfl rfl rfl (by decide) (by omega) ?_
        refine h_run 3 (pc' := 191) (l' := [(0, .inr (.inr 1826)), (1, .inl (H.1 1826 1)), (2, .inl (H.1 1826 3)), (3, .inl (H.1 1826 8)), (4, .inl (H.1 1826 13)), (5, .inl (H.1 1826 19)), (6, .inl dc)]) (st' := [.inl (H1.1 1826 35), .inr (.inr 1826)]) rfl ?_
        refine h_puti (i := 411) (ci := 13) (k := 34) (a := 1826) (x := (H1.1 1826 35)) rfl rfl rfl rfl rfl rfl (by decide) (by omega) ?_
        refine h_run 3 (pc' := 201) (l' := [(0, .inr (.inr 1826)), (1, .inl (H.1 1826 1)), (2, .inl (H.1 1826 3)), (3, .inl (H.1 1826 8)), (4, .inl (H.1 1826 13)), (5, .inl (H.1 1826 19)), (6, .inl dc)]) (st' := [.inl (H1.1 1826 36), .inl (-1000)]) rfl ?_
        have g327 : -2147483648 ≤ (H1.1 1826 36) ∧ (H1.1 1826 36) ≤ 2147483647 := hrg1.1 1826 13 36 _ .int rfl rfl
        refine h_run 1 (pc' := 202) (l' := [(0, .inr (.inr 1826)), (1, .inl (H.1 1826 1)), (2, .inl (H.1 1826 3)), (3, .inl (H.1 1826 8)), (4, .inl (H.1 1826 13)), (5, .inl (H.1 1826 19)), (6, .inl dc)]) (st' := [.inl ((-1000) - (H1.1 1826 36))]) rfl ?_
        refine h_reti (x := ((-1000) - (H1.1 1826 36))) rfl rfl ?_
        have g328 : -2147483648 ≤ (H1.1 1826 32) ∧ (H1.1 1826 32) ≤ 2147483647 := hrg1.1 1826 13 32 _ .int rfl rfl
        have g329 : -2147483648 ≤ (H1.1 1826 28) ∧ (H1.1 1826 28) ≤ 2147483647 := hrg1.1 1826 13 28 _ .int rfl rfl
        have g330 : -2147483648 ≤ (H1.1 1826 77) ∧ (H1.1 1826 77) ≤ 2147483647 := hrg1.1 1826 13 77 _ .int rfl rfl
        have g331 : -2147483648 ≤ (H1.1 1826 74) ∧ (H1.1 1826 74) ≤ 2147483647 := hrg1.1 1826 13 74 _ .int rfl rfl
        exact ⟨⟨_, rfl, (Or.inr (by obtain ⟨q1, ⟨Xf, q2⟩, K2, X2, q3, q4⟩ := GB_b hRG (by omega); exact ⟨Xf, _, _, q2, rfl, rfl, (by show TA (H.1 1826 8) _ X; exact TA_back q4 (J_all hP0 hN0 q3) hA (Int.le_of_eq hT.2.2.1.1) (fr_o (fr_o (fr_o (fr_o (fr_o (fr_o (fr_rf [1, 3, 8, 13, 19, 34] [] H1) (by decide)) (by decide)) (by decide)) (by decide)) (by decide)) (by decide)) (by decide) hT.1.1 hT.2.1.1 hT.2.2.1.1 hT.2.2.2.1.1.1 hT.2.2.2.1.1.2)⟩))⟩, (fr_o (fr_o (fr_o (fr_o (fr_o (fr_o hf (by decide)) (by decide)) (by decide)) (by decide)) (by decide)) (by decide)), (by omega : (H1.1 1826 28) = 0), (by omega : 0 ≤ (H1.1 1826 32) ∧ (H1.1 1826 32) ≤ 1000), (agp_o (agp_n19 (agp_n13 (agp_n8 (agp_n3 (agp_n1 hag (by omega : (H.1 1826 1) ≤ (H.1 1826 1))) (by omega : (H.1 1826 3) ≤ (H.1 1826 3))) (by omega : (H.1 1826 8) ≤ (H.1 1826 8))) (by omega : (H.1 1826 13) ≤ (H.1 1826 13))) (by omega : (H.1 1826 19) ≤ (H.1 1826 19))) (by decide)), (id (PW_agp hP hag (Int.le_refl _) (Int.le_refl _) (Int.le_refl _) (Int.le_refl _)) : PW H1 (H.1 1826 1) (H.1 1826 3) (H.1 1826 8) (H.1 1826 13) (H.1 1826 19)), (by omega : (H1.1 1826 77) = 0 ∨ ((H1.1 1826 77) = (H.1 1826 77) ∧ (H1.1 1826 74) = (H.1 1826 74) ∧ (H.1 1826 19) = (H.1 1826 19) ∧ (H.1 1826 3) = (H.1 1826 3) ∧ (H.1 1826 8) = (H.1 1826 8)))⟩
    · intro H1 dc i hf ha hk hst1 htp hgl hag hfk hP2 hi hRE hw
      refine h_rng (fun hrg332 => ?_)
      obtain ⟨⟨pb1, pb2, pb3, pb4, pb5⟩, pw1, pw2, pw3, pw4⟩ := (id hP : PW H (H.1 1826 1) (H.1 1826 3) (H.1 1826 8) (H.1 1826 13) (H.1 1826 19))
      obtain ⟨⟨qb1, qb2, qb3, qb4, qb5⟩, -⟩ := (id hP2 : PW H1 (H1.1 1826 1) (H1.1 1826 3) (H1.1 1826 8) (H1.1 1826 13) (H1.1 1826 19))
      refine h_run 3 (pc' := 212) (l' := [(0, .inr (.inr 1826)), (4, .inl (H.1 1826 13)), (6, .inl dc), (7, .inl (i : Int))]) (st' := [.inl (H1.1 1826 19), .inl (i : Int)]) rfl ?_
      have g333 : -2147483648 ≤ (H1.1 1826 19) ∧ (H1.1 1826 19) ≤ 2147483647 := hrg332.1 1826 13 19 _ .int rfl rfl
      refine h_ige (off := 26) (t := 238) rfl rfl (by omega) (by omega) (fun c334 => ?_) (fun c334 => ?_)
      · refine h_run 2 (pc' := 240) (l' := [(0, .inr (.inr 1826)), (4, .inl (H.1 1826 13)), (6, .inl dc), (7, .inl (i : Int))]) (st' := [.inl (-1), .inr (.inr 1826)]) rfl ?_
        refine h_puti (i := 150) (ci := 13) (k := 74) (a := 1826) (x := (-1)) rfl rfl rfl rfl rfl rfl (by decide) (by decide) ?_
        refine h_run 2 (pc' := 245) (l' := [(0, .inr (.inr 1826)), (4, .inl (H.1 1826 13)), (6, .inl dc), (7, .inl (i : Int))]) (st' := [.inl 0, .inr (.inr 1826)]) rfl ?_
        refine h_puti (i := 414) (ci := 13) (k := 77) (a := 1826) (x := 0) rfl rfl rfl rfl rfl rfl (by decide) (by decide) ?_
        refine h_run 2 (pc' := 250) (l' := [(0, .inr (.inr 1826)), (4, .inl (H.1 1826 13)), (6, .inl dc), (7, .inl (i : Int))]) (st' := [.inl 0, .inr (.inr 1826)]) rfl ?_
        refine h_puti (i := 417) (ci := 13) (k := 76) (a := 1826) (x := 0) rfl rfl rfl rfl rfl rfl (by decide) (by decide) ?_
        refine h_run 1 (pc' := 255) (l' := [(0, .inr (.inr 1826)), (4, .inl (H.1 1826 13)), (6, .inl dc), (7, .inl (i : Int))]) (st' := [.inl dc]) rfl ?_
        refine h_reti (x := dc) rfl rfl ?_
        have g335 : -2147483648 ≤ (H1.1 1826 34) ∧ (H1.1 1826 34) ≤ 2147483647 := hrg332.1 1826 13 34 _ .int rfl rfl
        have g336 : -2147483648 ≤ (H1.1 1826 32) ∧ (H1.1 1826 32) ≤ 2147483647 := hrg332.1 1826 13 32 _ .int rfl rfl
        have g337 : -2147483648 ≤ (H1.1 1826 28) ∧ (H1.1 1826 28) ≤ 2147483647 := hrg332.1 1826 13 28 _ .int rfl rfl
        have g338 : -2147483648 ≤ (H1.1 1826 3) ∧ (H1.1 1826 3) ≤ 2147483647 := hrg332.1 1826 13 3 _ .int rfl rfl
        have g339 : -2147483648 ≤ (H1.1 1826 8) ∧ (H1.1 1826 8) ≤ 2147483647 := hrg332.1 1826 13 8 _ .int rfl rfl
        exact ⟨⟨_, rfl, (Or.inl (by obtain ⟨X1, q1, q2⟩ := hRE; exact ⟨X1, q1, (by show TA (H1.1 1826 8) _ X1; exact TA_fr q2 (fr_o (fr_o (fr_o (fr_rf [74, 76, 77] [] H1) (by decide)) (by decide)) (by decide)) (by decide) (by decide)), (by omega : (H1.1 1826 34) = (H.1 1826 34))⟩))⟩, (fr_o (fr_o (fr_o hf (by decide)) (by decide)) (by decide)), (by omega : (H1.1 1826 28) = 0), (by omega : 0 ≤ (H1.1 1826 32) ∧ (H1.1 1826 32) ≤ 1000), (agp_o (agp_o (agp_o hag (by decide)) (by decide)) (by decide)), (PWc_o (PWc_o (PWc_o hP2 (by decide)) (by decide)) (by decide)), (by omega : (0 : Int) = 0 ∨ ((0 : Int) = (H.1 1826 77) ∧ (-1 : Int) = (H.1 1826 74) ∧ (H1.1 1826 19) = (H.1 1826 19) ∧ (H1.1 1826 3) = (H.1 1826 3) ∧ (H1.1 1826 8) = (H.1 1826 8)))⟩
      · refine h_run 2 (pc' := 219) (l' := [(0, .inr (.inr 1826)), (4, .inl (H.1 1826 13)), (6, .inl dc), (7, .inl (i : Int))]) (st' := [.inl (H1.1 1826 13)]) rfl ?_
        have g340 : -2147483648 ≤ (H1.1 1826 13) ∧ (H1.1 1826 13) ≤ 2147483647 := hrg332.1 1826 13 13 _ .int rfl rfl
        refine h_run 1 (pc' := 221) (l' := [(0, .inr (.inr 1826)), (4, .inl (H.1 1826 13)), (6, .inl dc), (7, .inl (i : Int))]) (st' := [.inl (H.1 1826 13), .inl (H1.1 1826 13)]) rfl ?_
        refine h_ile (off := 17) (t := 238) rfl rfl (by omega) (by omega) (fun c341 => ?_) (fun c341 => ?_)
        · refine h_run 2 (pc' := 240) (l' := [(0, .inr (.inr 1826)), (4, .inl (H.1 1826 13)), (6, .inl dc), (7, .inl (i : Int))]) (st' := [.inl (-1), .inr (.inr 1826)]) rfl ?_
          refine h_puti (i := 150) (ci := 13) (k := 74) (a := 1826) (x := (-1)) rfl rfl rfl rfl rfl rfl (by decide) (by decide) ?_
          refine h_run 2 (pc' := 245) (l' := [(0, .inr (.inr 1826)), (4, .inl (H.1 1826 13)), (6, .inl dc), (7, .inl (i : Int))]) (st' := [.inl 0, .inr (.inr 1826)]) rfl ?_
          refine h_puti (i := 414) (ci := 13) (k := 77) (a := 1826) (x := 0) rfl rfl rfl rfl rfl rfl (by decide) (by decide) ?_
          refine h_run 2 (pc' := 250) (l' := [(0, .inr (.inr 1826)), (4, .inl (H.1 1826 13)), (6, .inl dc), (7, .inl (i : Int))]) (st' := [.inl 0, .inr (.inr 1826)]) rfl ?_
          refine h_puti (i := 417) (ci := 13) (k := 76) (a := 1826) (x := 0) rfl rfl rfl rfl rfl rfl (by decide) (by decide) ?_
          refine h_run 1 (pc' := 255) (l' := [(0, .inr (.inr 1826)), (4, .inl (H.1 1826 13)), (6, .inl dc), (7, .inl (i : Int))]) (st' := [.inl dc]) rfl ?_
          refine h_reti (x := dc) rfl rfl ?_
          have g342 : -2147483648 ≤ (H1.1 1826 34) ∧ (H1.1 1826 34) ≤ 2147483647 := hrg332.1 1826 13 34 _ .int rfl rfl
          have g343 : -2147483648 ≤ (H1.1 1826 32) ∧ (H1.1 1826 32) ≤ 2147483647 := hrg332.1 1826 13 32 _ .int rfl rfl
          have g344 : -2147483648 ≤ (H1.1 1826 28) ∧ (H1.1 1826 28) ≤ 2147483647 := hrg332.1 1826 13 28 _ .int rfl rfl
          have g345 : -2147483648 ≤ (H1.1 1826 3) ∧ (H1.1 1826 3) ≤ 2147483647 := hrg332.1 1826 13 3 _ .int rfl rfl
          have g346 : -2147483648 ≤ (H1.1 1826 8) ∧ (H1.1 1826 8) ≤ 2147483647 := hrg332.1 1826 13 8 _ .int rfl rfl
          exact ⟨⟨_, rfl, (Or.inl (by obtain ⟨X1, q1, q2⟩ := hRE; exact ⟨X1, q1, (by show TA (H1.1 1826 8) _ X1; exact TA_fr q2 (fr_o (fr_o (fr_o (fr_rf [74, 76, 77] [] H1) (by decide)) (by decide)) (by decide)) (by decide) (by decide)), (by omega : (H1.1 1826 34) = (H.1 1826 34))⟩))⟩, (fr_o (fr_o (fr_o hf (by decide)) (by decide)) (by decide)), (by omega : (H1.1 1826 28) = 0), (by omega : 0 ≤ (H1.1 1826 32) ∧ (H1.1 1826 32) ≤ 1000), (agp_o (agp_o (agp_o hag (by decide)) (by decide)) (by decide)), (PWc_o (PWc_o (PWc_o hP2 (by decide)) (by decide)) (by decide)), (by omega : (0 : Int) = 0 ∨ ((0 : Int) = (H.1 1826 77) ∧ (-1 : Int) = (H.1 1826 74) ∧ (H1.1 1826 19) = (H.1 1826 19) ∧ (H1.1 1826 3) = (H.1 1826 3) ∧ (H1.1 1826 8) = (H.1 1826 8)))⟩
        · refine h_run 4 (pc' := 231) (l' := [(0, .inr (.inr 1826)), (4, .inl (H.1 1826 13)), (6, .inl dc), (7, .inl (i : Int))]) (st' := [.inl 0, .inl (i : Int), .inr (.inr 1847)]) rfl ?_
          refine h_ist (c := 1847) (j := i) (i := (i : Int)) (x := 0) rfl rfl (by decide) (by decide) rfl (by omega) (by decide) ?_
          refine h_run 2 (pc' := 206) (l' := [(0, .inr (.inr 1826)), (4, .inl (H.1 1826 13)), (6, .inl dc), (7, .inl ((i : Int) + 1))]) (st' := []) rfl ?_
          have g347 : -2147483648 ≤ (H1.1 1826 30) ∧ (H1.1 1826 30) ≤ 2147483647 := hrg332.1 1826 13 30 _ .int rfl rfl
          have g348 : -2147483648 ≤ (H1.1 1826 35) ∧ (H1.1 1826 35) ≤ 2147483647 := hrg332.1 1826 13 35 _ .int rfl rfl
          have g349 : -2147483648 ≤ (H1.1 1826 32) ∧ (H1.1 1826 32) ≤ 2147483647 := hrg332.1 1826 13 32 _ .int rfl rfl
          have g350 : -2147483648 ≤ (H1.1 1826 31) ∧ (H1.1 1826 31) ≤ 2147483647 := hrg332.1 1826 13 31 _ .int rfl rfl
          have g351 : -2147483648 ≤ (H1.1 1826 29) ∧ (H1.1 1826 29) ≤ 2147483647 := hrg332.1 1826 13 29 _ .int rfl rfl
          have g352 : -2147483648 ≤ (H1.1 1826 28) ∧ (H1.1 1826 28) ≤ 2147483647 := hrg332.1 1826 13 28 _ .int rfl rfl
          have g353 : -2147483648 ≤ (H1.1 1826 77) ∧ (H1.1 1826 77) ≤ 2147483647 := hrg332.1 1826 13 77 _ .int rfl rfl
          have g354 : -2147483648 ≤ (H1.1 1826 74) ∧ (H1.1 1826 74) ≤ 2147483647 := hrg332.1 1826 13 74 _ .int rfl rfl
          have g355 : -2147483648 ≤ (H1.1 1826 67) ∧ (H1.1 1826 67) ≤ 2147483647 := hrg332.1 1826 13 67 _ .int rfl rfl
          have e356 : (H1.1 1826 67) = (H.1 1826 67) := hf.2.2 67 (by decide)
          have g357 : -2147483648 ≤ (H1.1 1826 34) ∧ (H1.1 1826 34) ≤ 2147483647 := hrg332.1 1826 13 34 _ .int rfl rfl
          rw [show ((i : Int) + 1) = (((i + 1) : Nat) : Int) by omega]
          exact ih.2 _ dc (i + 1) (fr_a hf (by decide)) (by omega : 0 ≤ (H1.1 1826 30) ∧ (H1.1 1826 30) ≤ (H1.1 1826 29) ∧ (H1.1 1826 29) ≤ 1000) (by omega : 0 ≤ (H1.1 1826 35) ∧ (H1.1 1826 35) ≤ 5) (by omega : 0 ≤ (H1.1 1826 32) ∧ (H1.1 1826 32) ≤ 1000) (by omega : (H1.1 1826 28) = 0) (by omega : (H1.1 1826 77) = (H.1 1826 77) ∧ (H1.1 1826 74) = (H.1 1826 74) ∧ (H1.1 1826 67) = (H.1 1826 67)) (agp_a hag (by decide)) (by omega : (H1.1 1826 34) = (H.1 1826 34)) (PWc_a hP2 (by decide)) (by omega) (hRE.imp (fun X1 g => ⟨g.1, TA_fr g.2 (fr_a (fr_rf [] [1847] H1) (by decide)) (by decide) (by decide)⟩)) (by omega : 16 - (i + 1) < w)
set_option maxRecDepth 100000 in
theorem n_read5 {zC : Nat → Option zsh} {d : Nat} (hd : 10 ≤ d) {H : hp} {Y : yx} {X : rx} (ht : 0 ≤ (H.1 1826 28) ∧ (H.1 1826 28) ≤ 1000) (hst : 0 ≤ (H.1 1826 32) ∧ (H.1 1826 32) ≤ 1000) (hP : PWc H) (hB : TB Y H) (h00 : X 0 0 = 0) (hT : TA (H.1 1826 8) H X) (hA : AB X) (hP0 : P0 X) (hN0 : NN X) : hG (zs zC) d mt_192 0 (zargs 0 [.inr (.inr 1826)]) [] H (fun r H2 => (∃ r0 : Int, r = some (.inl r0) ∧ RQ5 Y X r0 H H2) ∧ fr [1, 3, 8, 13, 19, 28, 29, 30, 31, 32, 33, 34, 35, 36, 39, 40, 41, 43, 44, 47, 74, 76, 77] [1827, 1828, 1829, 1830, 1831, 1832, 1833, 1834, 1835, 1836, 1837, 1838, 1839, 1840, 1841, 1842, 1843, 1844, 1845, 1846, 1847, 1849, 1850, 1851, 1852, 1853, 1854] H H2 ∧ (H2.1 1826 28) = 0 ∧ (0 ≤ (H2.1 1826 32) ∧ (H2.1 1826 32) ≤ 1000) ∧ agp H H2 ∧ PWc H2 ∧ ((H2.1 1826 77) = 0 ∨ ((H2.1 1826 77) = (H.1 1826 77) ∧ (H2.1 1826 74) = (H.1 1826 74) ∧ (H2.1 1826 19) = (H.1 1826 19) ∧ (H2.1 1826 3) = (H.1 1826 3) ∧ (H2.1 1826 8) = (H.1 1826 8)))) := by
  refine h_rng (fun hrg0 => ?_)
  refine h_run 0 (pc' := 0) (l' := [(0, .inr (.inr 1826))]) (st' := []) rfl ?_
  obtain ⟨⟨pb1, pb2, pb3, pb4, pb5⟩, pw1, pw2, pw3, pw4⟩ := (id hP : PW H (H.1 1826 1) (H.1 1826 3) (H.1 1826 8) (H.1 1826 13) (H.1 1826 19))
  refine h_run 2 (pc' := 4) (l' := [(0, .inr (.inr 1826))]) (st' := [.inl (H.1 1826 1)]) rfl ?_
  have g358 : -2147483648 ≤ (H.1 1826 1) ∧ (H.1 1826 1) ≤ 2147483647 := hrg0.1 1826 13 1 _ .int rfl rfl
  refine h_run 3 (pc' := 9) (l' := [(0, .inr (.inr 1826)), (1, .inl (H.1 1826 1))]) (st' := [.inl (H.1 1826 3)]) rfl ?_
  have g359 : -2147483648 ≤ (H.1 1826 3) ∧ (H.1 1826 3) ≤ 2147483647 := hrg0.1 1826 13 3 _ .int rfl rfl
  refine h_run 3 (pc' := 14) (l' := [(0, .inr (.inr 1826)), (1, .inl (H.1 1826 1)), (2, .inl (H.1 1826 3))]) (st' := [.inl (H.1 1826 8)]) rfl ?_
  have g360 : -2147483648 ≤ (H.1 1826 8) ∧ (H.1 1826 8) ≤ 2147483647 := hrg0.1 1826 13 8 _ .int rfl rfl
  refine h_run 3 (pc' := 19) (l' := [(0, .inr (.inr 1826)), (1, .inl (H.1 1826 1)), (2, .inl (H.1 1826 3)), (3, .inl (H.1 1826 8))]) (st' := [.inl (H.1 1826 13)]) rfl ?_
  have g361 : -2147483648 ≤ (H.1 1826 13) ∧ (H.1 1826 13) ≤ 2147483647 := hrg0.1 1826 13 13 _ .int rfl rfl
  refine h_run 3 (pc' := 25) (l' := [(0, .inr (.inr 1826)), (1, .inl (H.1 1826 1)), (2, .inl (H.1 1826 3)), (3, .inl (H.1 1826 8)), (4, .inl (H.1 1826 13))]) (st' := [.inl (H.1 1826 19)]) rfl ?_
  have g362 : -2147483648 ≤ (H.1 1826 19) ∧ (H.1 1826 19) ≤ 2147483647 := hrg0.1 1826 13 19 _ .int rfl rfl
  refine h_run 4 (pc' := 31) (l' := [(0, .inr (.inr 1826)), (1, .inl (H.1 1826 1)), (2, .inl (H.1 1826 3)), (3, .inl (H.1 1826 8)), (4, .inl (H.1 1826 13)), (5, .inl (H.1 1826 19)), (6, .inl 0)]) (st' := [.inr (.inr 1826)]) rfl ?_
  have g363 : -2147483648 ≤ (H.1 1826 28) ∧ (H.1 1826 28) ≤ 2147483647 := hrg0.1 1826 13 28 _ .int rfl rfl
  have g364 : -2147483648 ≤ (H.1 1826 32) ∧ (H.1 1826 32) ≤ 2147483647 := hrg0.1 1826 13 32 _ .int rfl rfl
  refine h_cv (i := 396) (j := 191) (b := 1826) (M' := mt_191) (xs := []) (rest := []) rfl rfl rfl rfl rfl rfl (Nat.le_of_ble_eq_true rfl) (Nat.le_of_ble_eq_true rfl) (by omega) (n_openTape (by omega) (by omega : 0 ≤ (H.1 1826 28) ∧ (H.1 1826 28) ≤ 1000) (by omega : 0 ≤ (H.1 1826 32) ∧ (H.1 1826 32) ≤ 1000) hB h00 hT (rch_rf Y ([(6, 0, 0, 0)], X)) (lk_n (n := 6) (by decide))) ?_
  rintro _ H365 ⟨rfl, hx365n, hx365f, hx365t, hx365a, hx365c, hx365e⟩
  refine h_rng (fun hrg366 => ?_)
  have hf367 : fr [1, 3, 8, 13, 19, 28, 29, 30, 31, 32, 33, 34, 35, 36, 39, 40, 41, 43, 44, 47, 74, 76, 77] [1827, 1828, 1829, 1830, 1831, 1832, 1833, 1834, 1835, 1836, 1837, 1838, 1839, 1840, 1841, 1842, 1843, 1844, 1845, 1846, 1847, 1849, 1850, 1851, 1852, 1853, 1854] H H365 := fr_t (fr_rf _ _ _) hx365f (by decide) (by decide)
  have ha368 : agp H H365 := agp_tr (agp_rf _) (agp_fr hx365f (by decide) (by decide))
  replace hx365t : (H365.1 1826 28) = 0 ∧ (H365.1 1826 29) = (H.1 1826 28) := hx365t
  refine h_run 0 (pc' := 34) (l' := [(0, .inr (.inr 1826)), (1, .inl (H.1 1826 1)), (2, .inl (H.1 1826 3)), (3, .inl (H.1 1826 8)), (4, .inl (H.1 1826 13)), (5, .inl (H.1 1826 19)), (6, .inl 0)]) (st' := []) rfl ?_
  have g369 : -2147483648 ≤ (H365.1 1826 30) ∧ (H365.1 1826 30) ≤ 2147483647 := hrg366.1 1826 13 30 _ .int rfl rfl
  have g370 : -2147483648 ≤ (H365.1 1826 35) ∧ (H365.1 1826 35) ≤ 2147483647 := hrg366.1 1826 13 35 _ .int rfl rfl
  have g371 : -2147483648 ≤ (H365.1 1826 32) ∧ (H365.1 1826 32) ≤ 2147483647 := hrg366.1 1826 13 32 _ .int rfl rfl
  have g372 : -2147483648 ≤ (H365.1 1826 31) ∧ (H365.1 1826 31) ≤ 2147483647 := hrg366.1 1826 13 31 _ .int rfl rfl
  have g373 : -2147483648 ≤ (H365.1 1826 29) ∧ (H365.1 1826 29) ≤ 2147483647 := hrg366.1 1826 13 29 _ .int rfl rfl
  have g374 : -2147483648 ≤ (H365.1 1826 28) ∧ (H365.1 1826 28) ≤ 2147483647 := hrg366.1 1826 13 28 _ .int rfl rfl
  have g375 : -2147483648 ≤ (H365.1 1826 77) ∧ (H365.1 1826 77) ≤ 2147483647 := hrg366.1 1826 13 77 _ .int rfl rfl
  have e376 : (H365.1 1826 77) = (H.1 1826 77) := hx365f.2.2 77 (by decide)
  have g377 : -2147483648 ≤ (H365.1 1826 74) ∧ (H365.1 1826 74) ≤ 2147483647 := hrg366.1 1826 13 74 _ .int rfl rfl
  have e378 : (H365.1 1826 74) = (H.1 1826 74) := hx365f.2.2 74 (by decide)
  have g379 : -2147483648 ≤ (H365.1 1826 67) ∧ (H365.1 1826 67) ≤ 2147483647 := hrg366.1 1826 13 67 _ .int rfl rfl
  have e380 : (H365.1 1826 67) = (H.1 1826 67) := hx365f.2.2 67 (by decide)
  have g381 : -2147483648 ≤ (H365.1 1826 34) ∧ (H365.1 1826 34) ≤ 2147483647 := hrg366.1 1826 13 34 _ .int rfl rfl
  have e382 : (H365.1 1826 34) = (H.1 1826 34) := hx365f.2.2 34 (by decide)
  exact (n_read5_cut hd ht hst hP hB h00 hT hA hP0 hN0 _).1 _ (0 : Int) hf367 (by omega : 0 ≤ (H365.1 1826 30) ∧ (H365.1 1826 30) ≤ (H365.1 1826 29) ∧ (H365.1 1826 29) ≤ 1000) (by omega : 0 ≤ (H365.1 1826 35) ∧ (H365.1 1826 35) ≤ 5) (by omega : 0 ≤ (H365.1 1826 32) ∧ (H365.1 1826 32) ≤ 1000) (by omega : (H365.1 1826 28) = 0) (by omega : (H365.1 1826 77) = (H.1 1826 77) ∧ (H365.1 1826 74) = (H.1 1826 74) ∧ (H365.1 1826 67) = (H.1 1826 67)) ha368 (by omega : (H365.1 1826 34) = (H.1 1826 34)) (fun _ => PWc_fr hP hx365f (by decide) (by decide)) (GB_i hx365n (fun q => ⟨X, rch_rf _ _, (by rw [show (H365.1 1826 8) = (H.1 1826 8) from (hx365f.2.2 8 (by decide))]; exact q)⟩)) (Nat.lt_succ_self _)

/-! fault -/
set_option maxRecDepth 100000 in
theorem n_fault {zC : Nat → Option zsh} {d : Nat} (hd : 1 ≤ d) {H : hp}   : hG (zs zC) d mt_193 0 (zargs 0 [.inr (.inr 1826)]) [] H (fun r9 H2 => r9 = some (.inl (H.1 1826 34)) ∧ H = H2) := by
  refine h_rng (fun hrg0 => ?_)
  refine h_run 0 (pc' := 0) (l' := [(0, .inr (.inr 1826))]) (st' := []) rfl ?_
  refine h_run 2 (pc' := 4) (l' := [(0, .inr (.inr 1826))]) (st' := [.inl (H.1 1826 34)]) rfl ?_
  have g1 : -2147483648 ≤ (H.1 1826 34) ∧ (H.1 1826 34) ≤ 2147483647 := hrg0.1 1826 13 34 _ .int rfl rfl
  refine h_reti (x := (H.1 1826 34)) rfl rfl ?_
  exact ⟨rfl, rfl⟩

def FK (H : hp) : Prop := H.1 361 4 = H.1 1826 34
def GX5 (H : hp) : Prop := GX H ∧ FK H
def BX5 (s t : Int) (r9 : Option zv) (K : hp) : Prop := (∃ r0 : Int, r9 = some (.inl r0)) ∧ Inv K ∧ GX5 K ∧ K.1 2 1 = s ∧ K.1 1826 28 = t
theorem BX5_of {s t : Int} {r9 : Option zv} {K : hp} (h : BX s t r9 K) (g : FK K) : BX5 s t r9 K := ⟨h.1, h.2.1, ⟨h.2.2.1, g⟩, h.2.2.2.1, h.2.2.2.2⟩
theorem FK_c {ob : List (Nat × Nat)} {ar : List Nat} {gl : Bool} {H K : hp} (h : FK H) (f : fq ob ar gl H K) (h1 : 361 ∉ ar) (h2 : (361, 4) ∉ ob) (g : ∀ c, 1826 ≤ c → K.1 c = H.1 c) : FK K := by
  unfold FK
  rw [(f.1 361 4 rfl h1 h2).1, g 1826 (by decide)]
  exact h
theorem FK_r {H K : hp} (h : FK H) (g : cl H K) (e : K.1 1826 34 = H.1 1826 34) : FK K := by
  unfold FK
  rw [g.2 361 (by decide), e]
  exact h
def GZ5 (H : hp) (t : Int) (r9 : Option zv) (K : hp) : Prop := GZ9 H t r9 K ∧ K.1 1826 34 = H.1 1826 34
theorem GZ5_BX {H K : hp} {t : Int} {r9 : Option zv} (hI : Inv H) (hG : GX5 H) (h : GZ5 H t r9 K) : BX5 (H.1 2 1) t r9 K := BX5_of (GZ9_BX hI hG.1 h.1) (FK_r hG.2 h.1.2.2.1 h.2)
theorem GZ5_rf {H : hp} {r9 : Option zv} (h : GI H) (hr : ∃ r0 : Int, r9 = some (.inl r0)) : GZ5 H (H.1 1826 28) r9 H := ⟨GZ9_rf h hr, rfl⟩
theorem u5_count {zC : Nat → Option zsh} {d : Nat} (hd : 12 ≤ d) {H : hp} {x : Int} (hI : GI H) (hx : -2147483648 ≤ x ∧ x ≤ 2147483647) : hG (zs zC) d mt_194 0 (zargs 0 [.inr (.inr 1826), .inl x]) [] H (GZ5 H (H.1 1826 28)) := by
  obtain ⟨hP, ht, hst, hou, hG9, hT⟩ := id hI
  refine h_mono (m_count (by omega) hx) (fun r K h => ?_)
  obtain ⟨h1, rfl⟩ := h
  exact GZ5_rf hI h1
theorem u5_about {zC : Nat → Option zsh} {d : Nat} (hd : 12 ≤ d) {H : hp} {x y : Int} (hI : GI H) (hx : -2147483648 ≤ x ∧ x ≤ 2147483647) (hy : -2147483648 ≤ y ∧ y ≤ 2147483647) : hG (zs zC) d mt_195 0 (zargs 0 [.inr (.inr 1826), .inl x, .inl y]) [] H (GZ5 H (H.1 1826 28)) := by
  obtain ⟨hP, ht, hst, hou, hG9, hT⟩ := id hI
  obtain ⟨⟨b1, b2, b3, b4, b5⟩, -⟩ := (id hP : PW H (H.1 1826 1) (H.1 1826 3) (H.1 1826 8) (H.1 1826 13) (H.1 1826 19))
  refine h_mono (m_about (by omega) hx hy (by omega)) (fun r K h => ?_)
  obtain ⟨h1, rfl⟩ := h
  exact GZ5_rf hI h1
theorem u5_steps {zC : Nat → Option zsh} {d : Nat} (hd : 12 ≤ d) {H : hp} (hI : GI H)  : hG (zs zC) d mt_202 0 (zargs 0 [.inr (.inr 1826)]) [] H (GZ5 H (H.1 1826 28)) := by
  obtain ⟨hP, ht, hst, hou, hG9, hT⟩ := id hI
  refine h_mono (m_steps (by omega)) (fun r K h => ?_)
  obtain ⟨h1, rfl⟩ := h
  exact GZ5_rf hI h1
theorem u5_printed {zC : Nat → Option zsh} {d : Nat} (hd : 12 ≤ d) {H : hp} {x : Int} (hI : GI H) (hx : -2147483648 ≤ x ∧ x ≤ 2147483647) : hG (zs zC) d mt_207 0 (zargs 0 [.inr (.inr 1826), .inl x]) [] H (GZ5 H (H.1 1826 28)) := by
  obtain ⟨hP, ht, hst, hou, hG9, hT⟩ := id hI
  refine h_mono (m_printed (by omega) hx hou.2) (fun r K h => ?_)
  obtain ⟨h1, rfl⟩ := h
  exact GZ5_rf hI h1
theorem u5_unfold {zC : Nat → Option zsh} {d : Nat} (hd : 12 ≤ d) {H : hp} {s y : Int} (hI : GI H) (hs : -2147483648 ≤ s ∧ s ≤ 2147483647) (hy : -2147483648 ≤ y ∧ y ≤ 2147483647) : hG (zs zC) d mt_237 0 (zargs 0 [.inr (.inr 1826), .inl s, .inl y]) [] H (GZ5 H (H.1 1826 28)) := by
  obtain ⟨hP, ht, hst, hou, hG9, hT⟩ := id hI
  refine h_mono (m_unfold (by omega) hP hG9 hs hy) (fun r K h => ?_)
  obtain ⟨f, h1, h2⟩ := h
  exact ⟨⟨h2, GI_k hI f (by decide) (by decide) (by decide) (by rw [f.2.2 59 (by decide)]; exact hou) h1 (TV_fr hT f (by decide) (by decide) (by decide)), cl_fr f rfl, f.2.2 28 (by decide), ft_fr f (by decide) (by decide)⟩, f.2.2 34 (by decide)⟩
theorem u5_law {zC : Nat → Option zsh} {d : Nat} (hd : 12 ≤ d) {H : hp} {x b s y : Int} (hI : GI H) (hx : -2147483648 ≤ x ∧ x ≤ 2147483647) (hb : 0 ≤ b ∧ b ≤ 1) (hs : -2147483648 ≤ s ∧ s ≤ 2147483647) (hy : -2147483648 ≤ y ∧ y ≤ 2147483647) : hG (zs zC) d mt_243 0 (zargs 0 [.inr (.inr 1826), .inl x, .inl b, .inl s, .inl y]) [] H (GZ5 H (H.1 1826 28)) := by
  obtain ⟨hP, ht, hst, hou, hG9, hT⟩ := id hI
  refine h_mono (m_lawC (by omega) hP hG9 hx hs hy hb) (fun r K h => ?_)
  obtain ⟨f, h1, h2⟩ := h
  exact ⟨⟨h2, GI_k hI f (by decide) (by decide) (by decide) (by rw [f.2.2 59 (by decide)]; exact hou) h1 (TV_fr hT f (by decide) (by decide) (by decide)), cl_fr f rfl, f.2.2 28 (by decide), ft_fr f (by decide) (by decide)⟩, f.2.2 34 (by decide)⟩
theorem u5_hypothesis {zC : Nat → Option zsh} {d : Nat} (hd : 12 ≤ d) {H : hp} {x b s y : Int} (hI : GI H) (hx : -2147483648 ≤ x ∧ x ≤ 2147483647) (hb : 0 ≤ b ∧ b ≤ 1) (hs : -2147483648 ≤ s ∧ s ≤ 2147483647) (hy : -2147483648 ≤ y ∧ y ≤ 2147483647) : hG (zs zC) d mt_245 0 (zargs 0 [.inr (.inr 1826), .inl x, .inl b, .inl s, .inl y]) [] H (GZ5 H (H.1 1826 28)) := by
  obtain ⟨hP, ht, hst, hou, hG9, hT⟩ := id hI
  refine h_mono (m_hypothesis (by omega) hP hG9 hx hs hy hb) (fun r K h => ?_)
  obtain ⟨f, h1, h2⟩ := h
  exact ⟨⟨h2, GI_k hI f (by decide) (by decide) (by decide) (by rw [f.2.2 59 (by decide)]; exact hou) h1 (TV_fr hT f (by decide) (by decide) (by decide)), cl_fr f rfl, f.2.2 28 (by decide), ft_fr f (by decide) (by decide)⟩, f.2.2 34 (by decide)⟩
theorem u5_induction {zC : Nat → Option zsh} {d : Nat} (hd : 12 ≤ d) {H : hp} {v : Int} (hI : GI H) (hv : -2147483648 ≤ v ∧ v ≤ 2147483647) : hG (zs zC) d mt_252 0 (zargs 0 [.inr (.inr 1826), .inl v]) [] H (GZ5 H (H.1 1826 28)) := by
  obtain ⟨hP, ht, hst, hou, hG9, hT⟩ := id hI
  refine h_mono (m_induction (by omega) hP hG9 hv) (fun r K h => ?_)
  obtain ⟨f, h1, h2⟩ := h
  exact ⟨⟨h2, GI_k hI f (by decide) (by decide) (by decide) (by rw [f.2.2 59 (by decide)]; exact hou) h1 (TV_fr hT f (by decide) (by decide) (by decide)), cl_fr f rfl, f.2.2 28 (by decide), ft_fr f (by decide) (by decide)⟩, f.2.2 34 (by decide)⟩
theorem u5_cases {zC : Nat → Option zsh} {d : Nat} (hd : 12 ≤ d) {H : hp} {s y : Int} (hI : GI H) (hs : -2147483648 ≤ s ∧ s ≤ 2147483647) (hy : -2147483648 ≤ y ∧ y ≤ 2147483647) : hG (zs zC) d mt_255 0 (zargs 0 [.inr (.inr 1826), .inl s, .inl y]) [] H (GZ5 H (H.1 1826 28)) := by
  obtain ⟨hP, ht, hst, hou, hG9, hT⟩ := id hI
  refine h_mono (m_cases (by omega) hP hG9 hs hy) (fun r K h => ?_)
  obtain ⟨f, h1, h2⟩ := h
  exact ⟨⟨h2, GI_k hI f (by decide) (by decide) (by decide) (by rw [f.2.2 59 (by decide)]; exact hou) h1 (TV_fr hT f (by decide) (by decide) (by decide)), cl_fr f rfl, f.2.2 28 (by decide), ft_fr f (by decide) (by decide)⟩, f.2.2 34 (by decide)⟩
theorem u5_same {zC : Nat → Option zsh} {d : Nat} (hd : 12 ≤ d) {H : hp} (hI : GI H)  : hG (zs zC) d mt_261 0 (zargs 0 [.inr (.inr 1826)]) [] H (GZ5 H (H.1 1826 28)) := by
  obtain ⟨hP, ht, hst, hou, hG9, hT⟩ := id hI
  by_cases hz : (H.1 1826 77) = 0
  · refine h_mono (m_same0 (by omega) hz) (fun r K h => ?_)
    obtain ⟨h1, rfl⟩ := h
    exact GZ5_rf hI ⟨_, h1⟩
  · obtain ⟨n, o, hS, ho, ho2, -⟩ := GP_SI hP hG9 hz
    refine h_mono (m_same (by omega) hP hS.2.1 hS.2.2.1 hS.2.2.2.1 ho) (fun r K h => ?_)
    obtain ⟨f, hor, hvv, h3⟩ := h
    have hPF : PF2 K ∧ ∃ r0 : Int, r = some (.inl r0) := by
      rcases h3 with (⟨h4, hO⟩ | ⟨h4, hO⟩) | ⟨n2, h4, hn, hO⟩
      · exact ⟨SI_PF (SI_v hS f (by decide) (by decide) (by decide) hO hvv), _, h4⟩
      · exact ⟨SI_PF (SI_v hS f (by decide) (by decide) (by decide) hO hvv), _, h4⟩
      · exact ⟨PF_v hS f (by decide) (by decide) (by decide) hor hvv hn hO, _, h4⟩
    exact ⟨⟨hPF.2, GI_k hI f (by decide) (by decide) (by decide) (by rw [f.2.2 59 (by decide)]; exact hou) (PF_GP hPF.1) (TV_fr hT f (by decide) (by decide) (by decide)), cl_fr f rfl, f.2.2 28 (by decide), ft_fr f (by decide) (by decide)⟩, f.2.2 34 (by decide)⟩
theorem u5_parts {zC : Nat → Option zsh} {d : Nat} (hd : 12 ≤ d) {H : hp} (hI : GI H)  : hG (zs zC) d mt_262 0 (zargs 0 [.inr (.inr 1826)]) [] H (GZ5 H (H.1 1826 28)) := by
  obtain ⟨hP, ht, hst, hou, hG9, hT⟩ := id hI
  by_cases hz : (H.1 1826 77) = 0
  · refine h_mono (m_parts0 (by omega) hz) (fun r K h => ?_)
    obtain ⟨h1, rfl⟩ := h
    exact GZ5_rf hI ⟨_, h1⟩
  · obtain ⟨n, o, hS, ho, ho2, -⟩ := GP_SI hP hG9 hz
    refine h_mono (m_parts (by omega) hP hS.2.1 hS.2.2.1 hS.2.2.2.1 ho) (fun r K h => ?_)
    obtain ⟨f, hor, hvv, h3⟩ := h
    have hPF : PF2 K ∧ ∃ r0 : Int, r = some (.inl r0) := by
      rcases h3 with (⟨h4, hO⟩ | ⟨h4, hO⟩) | ⟨n2, h4, hn, hO⟩
      · exact ⟨SI_PF (SI_v hS f (by decide) (by decide) (by decide) hO hvv), _, h4⟩
      · exact ⟨SI_PF (SI_v hS f (by decide) (by decide) (by decide) hO hvv), _, h4⟩
      · exact ⟨PF_v hS f (by decide) (by decide) (by decide) hor hvv hn hO, _, h4⟩
    exact ⟨⟨hPF.2, GI_k hI f (by decide) (by decide) (by decide) (by rw [f.2.2 59 (by decide)]; exact hou) (PF_GP hPF.1) (TV_fr hT f (by decide) (by decide) (by decide)), cl_fr f rfl, f.2.2 28 (by decide), ft_fr f (by decide) (by decide)⟩, f.2.2 34 (by decide)⟩
theorem u5_search {zC : Nat → Option zsh} {d : Nat} (hd : 12 ≤ d) {H : hp} {x : Int} (hI : GI H) (hx : -2147483648 ≤ x ∧ x ≤ 2147483647) : hG (zs zC) d mt_266 0 (zargs 0 [.inr (.inr 1826), .inl x]) [] H (GZ5 H (H.1 1826 28)) := by
  obtain ⟨hP, ht, hst, hou, hG9, hT⟩ := id hI
  by_cases hz : (H.1 1826 77) = 0
  · refine h_mono (m_search0 (by omega) hz hx) (fun r K h => ?_)
    obtain ⟨h1, rfl⟩ := h
    exact GZ5_rf hI h1
  · obtain ⟨n, o, hS, ho, ho2, -⟩ := GP_SI hP hG9 hz
    refine h_mono (m_search (by omega) hS hx) (fun r K h => ?_)
    obtain ⟨f, h1, h2⟩ := h
    exact ⟨⟨h2, GI_k hI f (by decide) (by decide) (by decide) (by rw [f.2.2 59 (by decide)]; exact hou) (PF_GP h1) (TV_fr hT f (by decide) (by decide) (by decide)), cl_fr f rfl, f.2.2 28 (by decide), ft_fr f (by decide) (by decide)⟩, f.2.2 34 (by decide)⟩
theorem u5_show {zC : Nat → Option zsh} {d : Nat} (hd : 12 ≤ d) {H : hp} {k s : Int} (hI : GI H) (hk : -2147483648 ≤ k ∧ k ≤ 2147483647) (hs : -2147483648 ≤ s ∧ s ≤ 2147483647) : hG (zs zC) d mt_270 0 (zargs 0 [.inr (.inr 1826), .inl k, .inl s]) [] H (GZ5 H (H.1 1826 28)) := by
  obtain ⟨hP, ht, hst, hou, hG9, hT⟩ := id hI
  refine h_mono (m_show (by omega) hP hG9 hou hk hs) (fun r K h => ?_)
  obtain ⟨f, h1, h2⟩ := h
  exact ⟨⟨h2, GI_k hI f (by decide) (by decide) (by decide) h1 (GP_fr hG9 f (by decide) (by decide) (by decide) (by decide)) (TV_fr hT f (by decide) (by decide) (by decide)), cl_fr f rfl, f.2.2 28 (by decide), ft_fr f (by decide) (by decide)⟩, f.2.2 34 (by decide)⟩
theorem u5_showHypothesis {zC : Nat → Option zsh} {d : Nat} (hd : 12 ≤ d) {H : hp} {k s : Int} (hI : GI H) (hk : -2147483648 ≤ k ∧ k ≤ 2147483647) (hs : -2147483648 ≤ s ∧ s ≤ 2147483647) : hG (zs zC) d mt_271 0 (zargs 0 [.inr (.inr 1826), .inl k, .inl s]) [] H (GZ5 H (H.1 1826 28)) := by
  obtain ⟨hP, ht, hst, hou, hG9, hT⟩ := id hI
  refine h_mono (m_showHypothesis (by omega) hP hG9 hou hk hs) (fun r K h => ?_)
  obtain ⟨f, h1, h2⟩ := h
  exact ⟨⟨h2, GI_k hI f (by decide) (by decide) (by decide) h1 (GP_fr hG9 f (by decide) (by decide) (by decide) (by decide)) (TV_fr hT f (by decide) (by decide) (by decide)), cl_fr f rfl, f.2.2 28 (by decide), ft_fr f (by decide) (by decide)⟩, f.2.2 34 (by decide)⟩
theorem u5_showLaw {zC : Nat → Option zsh} {d : Nat} (hd : 12 ≤ d) {H : hp} {l s : Int} (hI : GI H) (hl : -2147483648 ≤ l ∧ l ≤ 2147483647) (hs : -2147483648 ≤ s ∧ s ≤ 2147483647) : hG (zs zC) d mt_272 0 (zargs 0 [.inr (.inr 1826), .inl l, .inl s]) [] H (GZ5 H (H.1 1826 28)) := by
  obtain ⟨hP, ht, hst, hou, hG9, hT⟩ := id hI
  refine h_mono (m_showLaw (by omega) hP hou hl hs) (fun r K h => ?_)
  obtain ⟨f, h1, h2⟩ := h
  exact ⟨⟨h2, GI_k hI f (by decide) (by decide) (by decide) h1 (GP_fr hG9 f (by decide) (by decide) (by decide) (by decide)) (TV_fr hT f (by decide) (by decide) (by decide)), cl_fr f rfl, f.2.2 28 (by decide), ft_fr f (by decide) (by decide)⟩, f.2.2 34 (by decide)⟩
theorem u5_told {zC : Nat → Option zsh} {d : Nat} (hd : 12 ≤ d) {H : hp} {x : Int} (hI : GI H) (hx : -2147483648 ≤ x ∧ x ≤ 2147483647) : hG (zs zC) d mt_220 0 (zargs 0 [.inr (.inr 1826), .inl x]) [] H (GZ5 H (H.1 1826 28)) := by
  obtain ⟨hP, ht, hst, hou, hG9, hT⟩ := id hI
  refine h_mono (m_told (by omega) hP hT hou hx) (fun r K h => ?_)
  obtain ⟨f, h1, h2⟩ := h
  exact ⟨⟨h2, GI_k hI f (by decide) (by decide) (by decide) h1 (GP_fr hG9 f (by decide) (by decide) (by decide) (by decide)) (TV_fr hT f (by decide) (by decide) (by decide)), cl_fr f rfl, f.2.2 28 (by decide), ft_fr f (by decide) (by decide)⟩, f.2.2 34 (by decide)⟩
theorem u5_test {zC : Nat → Option zsh} {d : Nat} (hd : 12 ≤ d) {H : hp} {x y b : Int} (hI : GI H) (hx : -2147483648 ≤ x ∧ x ≤ 2147483647) (hy : -2147483648 ≤ y ∧ y ≤ 2147483647) (hb : 0 ≤ b ∧ b ≤ 1) : hG (zs zC) d mt_218 0 (zargs 0 [.inr (.inr 1826), .inl x, .inl y, .inl b]) [] H (GZ5 H (H.1 1826 28)) := by
  obtain ⟨hP, ht, hst, hou, hG9, hT⟩ := id hI
  refine h_mono (m_test (by omega) hP hT hb hx hy) (fun r K h => ?_)
  obtain ⟨f, h1, h2⟩ := h
  exact ⟨⟨h2, GI_k hI f (by decide) (by decide) (by decide) (by rw [f.2.2 59 (by decide)]; exact hou) (GP_fr hG9 f (by decide) (by decide) (by decide) (by decide)) h1, cl_fr f rfl, f.2.2 28 (by decide), ft_fr f (by decide) (by decide)⟩, f.2.2 34 (by decide)⟩
theorem u5_begin {zC : Nat → Option zsh} {d : Nat} (hd : 12 ≤ d) {H : hp} {x b : Int} (hI : GI H) (hx : -2147483648 ≤ x ∧ x ≤ 2147483647) (hb : 0 ≤ b ∧ b ≤ 1) : hG (zs zC) d mt_227 0 (zargs 0 [.inr (.inr 1826), .inl x, .inl b]) [] H (GZ5 H (H.1 1826 28)) := by
  obtain ⟨hP, ht, hst, hou, hG9, hT⟩ := id hI
  obtain ⟨⟨b1, b2, b3, b4, b5⟩, -⟩ := (id hP : PW H (H.1 1826 1) (H.1 1826 3) (H.1 1826 8) (H.1 1826 13) (H.1 1826 19))
  refine h_mono (m_begin (by omega) hP hx hb) (fun r K h => ?_)
  rcases h with ⟨h1, rfl⟩ | ⟨h1, f, hO, hor, hvv, hpr⟩
  · exact GZ5_rf hI ⟨_, h1⟩
  · have hG8 : GP K := ⟨hor, hvv, by rw [f.2.2 97 (by decide)]; exact hG9.2.2.1, 1, hO.1.1, Or.inr ⟨OS_P (sP_fr2 f (by decide) (by decide)) hO, hpr.1, by omega⟩⟩
    exact ⟨⟨⟨_, h1⟩, GI_k hI f (by decide) (by decide) (by decide) (by rw [f.2.2 59 (by decide)]; exact hou) hG8 (TV_fr hT f (by decide) (by decide) (by decide)), cl_fr f rfl, f.2.2 28 (by decide), ft_fr f (by decide) (by decide)⟩, f.2.2 34 (by decide)⟩
theorem v5_c_count {d : Nat} (hd : 50 ≤ d) {H : hp} (hI : Inv H) (hG9 : GX5 H) {a : Int} (ha : -2147483648 ≤ a ∧ a ≤ 2147483647) : hG (zs zK) d mt_5 0 (zargs 0 [.inr (.inr 1), .inl a]) [] H (BX5 (H.1 2 1) (H.1 1826 28)) := by
  refine h_mono (k_count (by omega) hI ha) (fun r K h => ?_)
  obtain ⟨z, h1, -, rfl⟩ := h
  exact ⟨⟨z, h1⟩, hI, hG9, rfl, rfl⟩
theorem v5_c_about {d : Nat} (hd : 50 ≤ d) {H : hp} (hI : Inv H) (hG9 : GX5 H) {a : Int} {b : Int} (ha : -2147483648 ≤ a ∧ a ≤ 2147483647) (hb : -2147483648 ≤ b ∧ b ≤ 2147483647) : hG (zs zK) d mt_6 0 (zargs 0 [.inr (.inr 1), .inl a, .inl b]) [] H (BX5 (H.1 2 1) (H.1 1826 28)) := by
  refine h_mono (k_about (by omega) hI ha hb) (fun r K h => ?_)
  obtain ⟨z, h1, -, rfl⟩ := h
  exact ⟨⟨z, h1⟩, hI, hG9, rfl, rfl⟩
theorem v5_c_steps {d : Nat} (hd : 50 ≤ d) {H : hp} (hI : Inv H) (hG9 : GX5 H)   : hG (zs zK) d mt_8 0 (zargs 0 [.inr (.inr 1)]) [] H (BX5 (H.1 2 1) (H.1 1826 28)) := by
  refine h_mono (k_steps (by omega) hI ) (fun r K h => ?_)
  obtain ⟨z, h1, -, rfl⟩ := h
  exact ⟨⟨z, h1⟩, hI, hG9, rfl, rfl⟩
theorem v5_c_test {d : Nat} (hd : 50 ≤ d) {H : hp} (hI : Inv H) (hG9 : GX5 H) {a : Int} {b : Int} {c : Int} (ha : -2147483648 ≤ a ∧ a ≤ 2147483647) (hb : -2147483648 ≤ b ∧ b ≤ 2147483647) (hc : 0 ≤ c ∧ c ≤ 1) : hG (zs zK) d mt_9 0 (zargs 0 [.inr (.inr 1), .inl a, .inl b, .inl c]) [] H (BX5 (H.1 2 1) (H.1 1826 28)) := by
  refine h_mono (h_names (by decide +kernel : gM gG mt_9 = true) (k_test (by omega) hI ha hb hc)) (fun r K h9 => ?_)
  obtain ⟨h, hn⟩ := h9
  obtain ⟨z, h1, -, h3, f⟩ := h
  exact BX5_of (fq_BX hG9.1 hn h1 h3 f (f.1 2 1 rfl (by decide) (by decide)).1 (by first | exact Or.inl rfl | exact Or.inr rfl) rfl rfl (by decide) (by decide)) (FK_c hG9.2 f (by decide) (by decide) (fq_up f rfl rfl))
theorem v5_c_told {d : Nat} (hd : 50 ≤ d) {H : hp} (hI : Inv H) (hG9 : GX5 H) {a : Int} (ha : -2147483648 ≤ a ∧ a ≤ 2147483647) : hG (zs zK) d mt_10 0 (zargs 0 [.inr (.inr 1), .inl a]) [] H (BX5 (H.1 2 1) (H.1 1826 28)) := by
  refine h_mono (h_names (by decide +kernel : gM gG mt_10 = true) (k_told (by omega) hI ha)) (fun r K h9 => ?_)
  obtain ⟨h, hn⟩ := h9
  obtain ⟨z, h1, -, h3, f⟩ := h
  exact BX5_of (fq_BX hG9.1 hn h1 h3 f (f.1 2 1 rfl (by decide) (by decide)).1 (by first | exact Or.inl rfl | exact Or.inr rfl) rfl rfl (by decide) (by decide)) (FK_c hG9.2 f (by decide) (by decide) (fq_up f rfl rfl))
theorem v5_c_begin {d : Nat} (hd : 50 ≤ d) {H : hp} (hI : Inv H) (hG9 : GX5 H) {a : Int} {b : Int} (ha : -2147483648 ≤ a ∧ a ≤ 2147483647) (hb : 0 ≤ b ∧ b ≤ 1) : hG (zs zK) d mt_11 0 (zargs 0 [.inr (.inr 1), .inl a, .inl b]) [] H (BX5 (H.1 2 1) (H.1 1826 28)) := by
  refine h_mono (h_names (by decide +kernel : gM gG mt_11 = true) (k_begin (by omega) hI ha hb)) (fun r K h9 => ?_)
  obtain ⟨h, hn⟩ := h9
  obtain ⟨z, h1, -, h3, f⟩ := h
  exact BX5_of (fq_BX hG9.1 hn h1 h3 f (f.1 2 1 rfl (by decide) (by decide)).1 (by first | exact Or.inl rfl | exact Or.inr rfl) rfl rfl (by decide) (by decide)) (FK_c hG9.2 f (by decide) (by decide) (fq_up f rfl rfl))
theorem v5_c_unfold {d : Nat} (hd : 50 ≤ d) {H : hp} (hI : Inv H) (hG9 : GX5 H) {a : Int} {b : Int} (ha : -2147483648 ≤ a ∧ a ≤ 2147483647) (hb : -2147483648 ≤ b ∧ b ≤ 2147483647) : hG (zs zK) d mt_12 0 (zargs 0 [.inr (.inr 1), .inl a, .inl b]) [] H (BX5 (H.1 2 1) (H.1 1826 28)) := by
  refine h_mono (h_names (by decide +kernel : gM gG mt_12 = true) (k_unfold (by omega) hI ha hb)) (fun r K h9 => ?_)
  obtain ⟨h, hn⟩ := h9
  obtain ⟨z, h1, -, h3, f⟩ := h
  exact BX5_of (fq_BX hG9.1 hn h1 h3 f (f.1 2 1 rfl (by decide) (by decide)).1 (by first | exact Or.inl rfl | exact Or.inr rfl) rfl rfl (by decide) (by decide)) (FK_c hG9.2 f (by decide) (by decide) (fq_up f rfl rfl))
theorem v5_c_law {d : Nat} (hd : 50 ≤ d) {H : hp} (hI : Inv H) (hG9 : GX5 H) {a : Int} {b : Int} {c : Int} {e : Int} (ha : -2147483648 ≤ a ∧ a ≤ 2147483647) (hb : 0 ≤ b ∧ b ≤ 1) (hc : -2147483648 ≤ c ∧ c ≤ 2147483647) (he : -2147483648 ≤ e ∧ e ≤ 2147483647) : hG (zs zK) d mt_13 0 (zargs 0 [.inr (.inr 1), .inl a, .inl b, .inl c, .inl e]) [] H (BX5 (H.1 2 1) (H.1 1826 28)) := by
  refine h_mono (h_names (by decide +kernel : gM gG mt_13 = true) (k_law (by omega) hI ha hb hc he)) (fun r K h9 => ?_)
  obtain ⟨h, hn⟩ := h9
  obtain ⟨z, h1, -, h3, f⟩ := h
  exact BX5_of (fq_BX hG9.1 hn h1 h3 f (f.1 2 1 rfl (by decide) (by decide)).1 (by first | exact Or.inl rfl | exact Or.inr rfl) rfl rfl (by decide) (by decide)) (FK_c hG9.2 f (by decide) (by decide) (fq_up f rfl rfl))
theorem v5_c_hypothesis {d : Nat} (hd : 50 ≤ d) {H : hp} (hI : Inv H) (hG9 : GX5 H) {a : Int} {b : Int} {c : Int} {e : Int} (ha : -2147483648 ≤ a ∧ a ≤ 2147483647) (hb : 0 ≤ b ∧ b ≤ 1) (hc : -2147483648 ≤ c ∧ c ≤ 2147483647) (he : -2147483648 ≤ e ∧ e ≤ 2147483647) : hG (zs zK) d mt_14 0 (zargs 0 [.inr (.inr 1), .inl a, .inl b, .inl c, .inl e]) [] H (BX5 (H.1 2 1) (H.1 1826 28)) := by
  refine h_mono (h_names (by decide +kernel : gM gG mt_14 = true) (k_hypothesis (by omega) hI ha hb hc he)) (fun r K h9 => ?_)
  obtain ⟨h, hn⟩ := h9
  obtain ⟨z, h1, -, h3, f⟩ := h
  exact BX5_of (fq_BX hG9.1 hn h1 h3 f (f.1 2 1 rfl (by decide) (by decide)).1 (by first | exact Or.inl rfl | exact Or.inr rfl) rfl rfl (by decide) (by decide)) (FK_c hG9.2 f (by decide) (by decide) (fq_up f rfl rfl))
theorem v5_c_induction {d : Nat} (hd : 50 ≤ d) {H : hp} (hI : Inv H) (hG9 : GX5 H) {a : Int} (ha : -2147483648 ≤ a ∧ a ≤ 2147483647) : hG (zs zK) d mt_15 0 (zargs 0 [.inr (.inr 1), .inl a]) [] H (BX5 (H.1 2 1) (H.1 1826 28)) := by
  refine h_mono (h_names (by decide +kernel : gM gG mt_15 = true) (k_induction (by omega) hI ha)) (fun r K h9 => ?_)
  obtain ⟨h, hn⟩ := h9
  obtain ⟨z, h1, -, h3, f⟩ := h
  exact BX5_of (fq_BX hG9.1 hn h1 h3 f (f.1 2 1 rfl (by decide) (by decide)).1 (by first | exact Or.inl rfl | exact Or.inr rfl) rfl rfl (by decide) (by decide)) (FK_c hG9.2 f (by decide) (by decide) (fq_up f rfl rfl))
theorem v5_c_cases {d : Nat} (hd : 50 ≤ d) {H : hp} (hI : Inv H) (hG9 : GX5 H) {a : Int} {b : Int} (ha : -2147483648 ≤ a ∧ a ≤ 2147483647) (hb : -2147483648 ≤ b ∧ b ≤ 2147483647) : hG (zs zK) d mt_16 0 (zargs 0 [.inr (.inr 1), .inl a, .inl b]) [] H (BX5 (H.1 2 1) (H.1 1826 28)) := by
  refine h_mono (h_names (by decide +kernel : gM gG mt_16 = true) (k_cases (by omega) hI ha hb)) (fun r K h9 => ?_)
  obtain ⟨h, hn⟩ := h9
  obtain ⟨z, h1, -, h3, f⟩ := h
  exact BX5_of (fq_BX hG9.1 hn h1 h3 f (f.1 2 1 rfl (by decide) (by decide)).1 (by first | exact Or.inl rfl | exact Or.inr rfl) rfl rfl (by decide) (by decide)) (FK_c hG9.2 f (by decide) (by decide) (fq_up f rfl rfl))
theorem v5_c_same {d : Nat} (hd : 50 ≤ d) {H : hp} (hI : Inv H) (hG9 : GX5 H)   : hG (zs zK) d mt_17 0 (zargs 0 [.inr (.inr 1)]) [] H (BX5 (H.1 2 1) (H.1 1826 28)) := by
  refine h_mono (h_names (by decide +kernel : gM gG mt_17 = true) (k_same (by omega) hI )) (fun r K h9 => ?_)
  obtain ⟨h, hn⟩ := h9
  obtain ⟨z, h1, -, h3, f⟩ := h
  exact BX5_of (fq_BX hG9.1 hn h1 h3 f (f.1 2 1 rfl (by decide) (by decide)).1 (by first | exact Or.inl rfl | exact Or.inr rfl) rfl rfl (by decide) (by decide)) (FK_c hG9.2 f (by decide) (by decide) (fq_up f rfl rfl))
theorem v5_c_parts {d : Nat} (hd : 50 ≤ d) {H : hp} (hI : Inv H) (hG9 : GX5 H)   : hG (zs zK) d mt_18 0 (zargs 0 [.inr (.inr 1)]) [] H (BX5 (H.1 2 1) (H.1 1826 28)) := by
  refine h_mono (h_names (by decide +kernel : gM gG mt_18 = true) (k_parts (by omega) hI )) (fun r K h9 => ?_)
  obtain ⟨h, hn⟩ := h9
  obtain ⟨z, h1, -, h3, f⟩ := h
  exact BX5_of (fq_BX hG9.1 hn h1 h3 f (f.1 2 1 rfl (by decide) (by decide)).1 (by first | exact Or.inl rfl | exact Or.inr rfl) rfl rfl (by decide) (by decide)) (FK_c hG9.2 f (by decide) (by decide) (fq_up f rfl rfl))
theorem v5_c_search {d : Nat} (hd : 50 ≤ d) {H : hp} (hI : Inv H) (hG9 : GX5 H) {a : Int} (ha : -2147483648 ≤ a ∧ a ≤ 2147483647) : hG (zs zK) d mt_19 0 (zargs 0 [.inr (.inr 1), .inl a]) [] H (BX5 (H.1 2 1) (H.1 1826 28)) := by
  refine h_mono (h_names (by decide +kernel : gM gG mt_19 = true) (k_search (by omega) hI ha)) (fun r K h9 => ?_)
  obtain ⟨h, hn⟩ := h9
  obtain ⟨z, h1, -, h3, f⟩ := h
  exact BX5_of (fq_BX hG9.1 hn h1 h3 f (f.1 2 1 rfl (by decide) (by decide)).1 (by first | exact Or.inl rfl | exact Or.inr rfl) rfl rfl (by decide) (by decide)) (FK_c hG9.2 f (by decide) (by decide) (fq_up f rfl rfl))
theorem v5_c_show {d : Nat} (hd : 50 ≤ d) {H : hp} (hI : Inv H) (hG9 : GX5 H) {a : Int} {b : Int} (ha : -2147483648 ≤ a ∧ a ≤ 2147483647) (hb : -2147483648 ≤ b ∧ b ≤ 2147483647) : hG (zs zK) d mt_20 0 (zargs 0 [.inr (.inr 1), .inl a, .inl b]) [] H (BX5 (H.1 2 1) (H.1 1826 28)) := by
  refine h_mono (h_names (by decide +kernel : gM gG mt_20 = true) (k_show (by omega) hI ha hb)) (fun r K h9 => ?_)
  obtain ⟨h, hn⟩ := h9
  obtain ⟨z, h1, -, h3, f⟩ := h
  exact BX5_of (fq_BX hG9.1 hn h1 h3 f (f.1 2 1 rfl (by decide) (by decide)).1 (by first | exact Or.inl rfl | exact Or.inr rfl) rfl rfl (by decide) (by decide)) (FK_c hG9.2 f (by decide) (by decide) (fq_up f rfl rfl))
theorem v5_c_showHypothesis {d : Nat} (hd : 50 ≤ d) {H : hp} (hI : Inv H) (hG9 : GX5 H) {a : Int} {b : Int} (ha : -2147483648 ≤ a ∧ a ≤ 2147483647) (hb : -2147483648 ≤ b ∧ b ≤ 2147483647) : hG (zs zK) d mt_21 0 (zargs 0 [.inr (.inr 1), .inl a, .inl b]) [] H (BX5 (H.1 2 1) (H.1 1826 28)) := by
  refine h_mono (h_names (by decide +kernel : gM gG mt_21 = true) (k_showHypothesis (by omega) hI ha hb)) (fun r K h9 => ?_)
  obtain ⟨h, hn⟩ := h9
  obtain ⟨z, h1, -, h3, f⟩ := h
  exact BX5_of (fq_BX hG9.1 hn h1 h3 f (f.1 2 1 rfl (by decide) (by decide)).1 (by first | exact Or.inl rfl | exact Or.inr rfl) rfl rfl (by decide) (by decide)) (FK_c hG9.2 f (by decide) (by decide) (fq_up f rfl rfl))
theorem v5_c_showLaw {d : Nat} (hd : 50 ≤ d) {H : hp} (hI : Inv H) (hG9 : GX5 H) {a : Int} {b : Int} (ha : -2147483648 ≤ a ∧ a ≤ 2147483647) (hb : -2147483648 ≤ b ∧ b ≤ 2147483647) : hG (zs zK) d mt_22 0 (zargs 0 [.inr (.inr 1), .inl a, .inl b]) [] H (BX5 (H.1 2 1) (H.1 1826 28)) := by
  refine h_mono (h_names (by decide +kernel : gM gG mt_22 = true) (k_showLaw (by omega) hI ha hb)) (fun r K h9 => ?_)
  obtain ⟨h, hn⟩ := h9
  obtain ⟨z, h1, -, h3, f⟩ := h
  exact BX5_of (fq_BX hG9.1 hn h1 h3 f (f.1 2 1 rfl (by decide) (by decide)).1 (by first | exact Or.inl rfl | exact Or.inr rfl) rfl rfl (by decide) (by decide)) (FK_c hG9.2 f (by decide) (by decide) (fq_up f rfl rfl))
theorem v5_c_printed {d : Nat} (hd : 50 ≤ d) {H : hp} (hI : Inv H) (hG9 : GX5 H) {a : Int} (ha : -2147483648 ≤ a ∧ a ≤ 2147483647) : hG (zs zK) d mt_23 0 (zargs 0 [.inr (.inr 1), .inl a]) [] H (BX5 (H.1 2 1) (H.1 1826 28)) := by
  refine h_mono (k_printed (by omega) hI ha) (fun r K h => ?_)
  obtain ⟨z, h1, -, rfl⟩ := h
  exact ⟨⟨z, h1⟩, hI, hG9, rfl, rfl⟩
theorem v5_r_count {d : Nat} (hd : 50 ≤ d) {H : hp} (hK : Inv H) (hI : GX5 H) {x : Int} (hx : -2147483648 ≤ x ∧ x ≤ 2147483647) : hG (zs zK) d mt_194 0 (zargs 0 [.inr (.inr 1826), .inl x]) [] H (BX5 (H.1 2 1) (H.1 1826 28)) := h_mono (u5_count (by omega) hI.1.1 hx) (fun _ _ h => GZ5_BX hK hI h)
theorem v5_r_about {d : Nat} (hd : 50 ≤ d) {H : hp} (hK : Inv H) (hI : GX5 H) {x y : Int} (hx : -2147483648 ≤ x ∧ x ≤ 2147483647) (hy : -2147483648 ≤ y ∧ y ≤ 2147483647) : hG (zs zK) d mt_195 0 (zargs 0 [.inr (.inr 1826), .inl x, .inl y]) [] H (BX5 (H.1 2 1) (H.1 1826 28)) := h_mono (u5_about (by omega) hI.1.1 hx hy) (fun _ _ h => GZ5_BX hK hI h)
theorem v5_r_steps {d : Nat} (hd : 50 ≤ d) {H : hp} (hK : Inv H) (hI : GX5 H)  : hG (zs zK) d mt_202 0 (zargs 0 [.inr (.inr 1826)]) [] H (BX5 (H.1 2 1) (H.1 1826 28)) := h_mono (u5_steps (by omega) hI.1.1 ) (fun _ _ h => GZ5_BX hK hI h)
theorem v5_r_test {d : Nat} (hd : 50 ≤ d) {H : hp} (hK : Inv H) (hI : GX5 H) {x y b : Int} (hx : -2147483648 ≤ x ∧ x ≤ 2147483647) (hy : -2147483648 ≤ y ∧ y ≤ 2147483647) (hb : 0 ≤ b ∧ b ≤ 1) : hG (zs zK) d mt_218 0 (zargs 0 [.inr (.inr 1826), .inl x, .inl y, .inl b]) [] H (BX5 (H.1 2 1) (H.1 1826 28)) := h_mono (u5_test (by omega) hI.1.1 hx hy hb) (fun _ _ h => GZ5_BX hK hI h)
theorem v5_r_told {d : Nat} (hd : 50 ≤ d) {H : hp} (hK : Inv H) (hI : GX5 H) {x : Int} (hx : -2147483648 ≤ x ∧ x ≤ 2147483647) : hG (zs zK) d mt_220 0 (zargs 0 [.inr (.inr 1826), .inl x]) [] H (BX5 (H.1 2 1) (H.1 1826 28)) := h_mono (u5_told (by omega) hI.1.1 hx) (fun _ _ h => GZ5_BX hK hI h)
theorem v5_r_begin {d : Nat} (hd : 50 ≤ d) {H : hp} (hK : Inv H) (hI : GX5 H) {x b : Int} (hx : -2147483648 ≤ x ∧ x ≤ 2147483647) (hb : 0 ≤ b ∧ b ≤ 1) : hG (zs zK) d mt_227 0 (zargs 0 [.inr (.inr 1826), .inl x, .inl b]) [] H (BX5 (H.1 2 1) (H.1 1826 28)) := h_mono (u5_begin (by omega) hI.1.1 hx hb) (fun _ _ h => GZ5_BX hK hI h)
theorem v5_r_unfold {d : Nat} (hd : 50 ≤ d) {H : hp} (hK : Inv H) (hI : GX5 H) {s y : Int} (hs : -2147483648 ≤ s ∧ s ≤ 2147483647) (hy : -2147483648 ≤ y ∧ y ≤ 2147483647) : hG (zs zK) d mt_237 0 (zargs 0 [.inr (.inr 1826), .inl s, .inl y]) [] H (BX5 (H.1 2 1) (H.1 1826 28)) := h_mono (u5_unfold (by omega) hI.1.1 hs hy) (fun _ _ h => GZ5_BX hK hI h)
theorem v5_r_law {d : Nat} (hd : 50 ≤ d) {H : hp} (hK : Inv H) (hI : GX5 H) {x b s y : Int} (hx : -2147483648 ≤ x ∧ x ≤ 2147483647) (hb : 0 ≤ b ∧ b ≤ 1) (hs : -2147483648 ≤ s ∧ s ≤ 2147483647) (hy : -2147483648 ≤ y ∧ y ≤ 2147483647) : hG (zs zK) d mt_243 0 (zargs 0 [.inr (.inr 1826), .inl x, .inl b, .inl s, .inl y]) [] H (BX5 (H.1 2 1) (H.1 1826 28)) := h_mono (u5_law (by omega) hI.1.1 hx hb hs hy) (fun _ _ h => GZ5_BX hK hI h)
theorem v5_r_hypothesis {d : Nat} (hd : 50 ≤ d) {H : hp} (hK : Inv H) (hI : GX5 H) {x b s y : Int} (hx : -2147483648 ≤ x ∧ x ≤ 2147483647) (hb : 0 ≤ b ∧ b ≤ 1) (hs : -2147483648 ≤ s ∧ s ≤ 2147483647) (hy : -2147483648 ≤ y ∧ y ≤ 2147483647) : hG (zs zK) d mt_245 0 (zargs 0 [.inr (.inr 1826), .inl x, .inl b, .inl s, .inl y]) [] H (BX5 (H.1 2 1) (H.1 1826 28)) := h_mono (u5_hypothesis (by omega) hI.1.1 hx hb hs hy) (fun _ _ h => GZ5_BX hK hI h)
theorem v5_r_induction {d : Nat} (hd : 50 ≤ d) {H : hp} (hK : Inv H) (hI : GX5 H) {v : Int} (hv : -2147483648 ≤ v ∧ v ≤ 2147483647) : hG (zs zK) d mt_252 0 (zargs 0 [.inr (.inr 1826), .inl v]) [] H (BX5 (H.1 2 1) (H.1 1826 28)) := h_mono (u5_induction (by omega) hI.1.1 hv) (fun _ _ h => GZ5_BX hK hI h)
theorem v5_r_cases {d : Nat} (hd : 50 ≤ d) {H : hp} (hK : Inv H) (hI : GX5 H) {s y : Int} (hs : -2147483648 ≤ s ∧ s ≤ 2147483647) (hy : -2147483648 ≤ y ∧ y ≤ 2147483647) : hG (zs zK) d mt_255 0 (zargs 0 [.inr (.inr 1826), .inl s, .inl y]) [] H (BX5 (H.1 2 1) (H.1 1826 28)) := h_mono (u5_cases (by omega) hI.1.1 hs hy) (fun _ _ h => GZ5_BX hK hI h)
theorem v5_r_same {d : Nat} (hd : 50 ≤ d) {H : hp} (hK : Inv H) (hI : GX5 H)  : hG (zs zK) d mt_261 0 (zargs 0 [.inr (.inr 1826)]) [] H (BX5 (H.1 2 1) (H.1 1826 28)) := h_mono (u5_same (by omega) hI.1.1 ) (fun _ _ h => GZ5_BX hK hI h)
theorem v5_r_parts {d : Nat} (hd : 50 ≤ d) {H : hp} (hK : Inv H) (hI : GX5 H)  : hG (zs zK) d mt_262 0 (zargs 0 [.inr (.inr 1826)]) [] H (BX5 (H.1 2 1) (H.1 1826 28)) := h_mono (u5_parts (by omega) hI.1.1 ) (fun _ _ h => GZ5_BX hK hI h)
theorem v5_r_search {d : Nat} (hd : 50 ≤ d) {H : hp} (hK : Inv H) (hI : GX5 H) {x : Int} (hx : -2147483648 ≤ x ∧ x ≤ 2147483647) : hG (zs zK) d mt_266 0 (zargs 0 [.inr (.inr 1826), .inl x]) [] H (BX5 (H.1 2 1) (H.1 1826 28)) := h_mono (u5_search (by omega) hI.1.1 hx) (fun _ _ h => GZ5_BX hK hI h)
theorem v5_r_show {d : Nat} (hd : 50 ≤ d) {H : hp} (hK : Inv H) (hI : GX5 H) {k s : Int} (hk : -2147483648 ≤ k ∧ k ≤ 2147483647) (hs : -2147483648 ≤ s ∧ s ≤ 2147483647) : hG (zs zK) d mt_270 0 (zargs 0 [.inr (.inr 1826), .inl k, .inl s]) [] H (BX5 (H.1 2 1) (H.1 1826 28)) := h_mono (u5_show (by omega) hI.1.1 hk hs) (fun _ _ h => GZ5_BX hK hI h)
theorem v5_r_showHypothesis {d : Nat} (hd : 50 ≤ d) {H : hp} (hK : Inv H) (hI : GX5 H) {k s : Int} (hk : -2147483648 ≤ k ∧ k ≤ 2147483647) (hs : -2147483648 ≤ s ∧ s ≤ 2147483647) : hG (zs zK) d mt_271 0 (zargs 0 [.inr (.inr 1826), .inl k, .inl s]) [] H (BX5 (H.1 2 1) (H.1 1826 28)) := h_mono (u5_showHypothesis (by omega) hI.1.1 hk hs) (fun _ _ h => GZ5_BX hK hI h)
theorem v5_r_showLaw {d : Nat} (hd : 50 ≤ d) {H : hp} (hK : Inv H) (hI : GX5 H) {l s : Int} (hl : -2147483648 ≤ l ∧ l ≤ 2147483647) (hs : -2147483648 ≤ s ∧ s ≤ 2147483647) : hG (zs zK) d mt_272 0 (zargs 0 [.inr (.inr 1826), .inl l, .inl s]) [] H (BX5 (H.1 2 1) (H.1 1826 28)) := h_mono (u5_showLaw (by omega) hI.1.1 hl hs) (fun _ _ h => GZ5_BX hK hI h)
theorem v5_r_printed {d : Nat} (hd : 50 ≤ d) {H : hp} (hK : Inv H) (hI : GX5 H) {x : Int} (hx : -2147483648 ≤ x ∧ x ≤ 2147483647) : hG (zs zK) d mt_207 0 (zargs 0 [.inr (.inr 1826), .inl x]) [] H (BX5 (H.1 2 1) (H.1 1826 28)) := h_mono (u5_printed (by omega) hI.1.1 hx) (fun _ _ h => GZ5_BX hK hI h)
theorem u5_feed {zC : Nat → Option zsh} {d : Nat} (hd : 12 ≤ d) {H : hp} {x1 x2 x3 x4 x5 : Int} (hI : GI H) : hG (zs zC) d mt_189 0 (zargs 0 [.inr (.inr 1826), .inl x1, .inl x2, .inl x3, .inl x4, .inl x5]) [] H (fun r9 K => ∃ r0 : Int, r9 = some (.inl r0) ∧ GI K ∧ cl H K ∧ (((K.1 1826 0) = 1 ∧ (K.1 1826 28) = (H.1 1826 28) ∧ 980 < (H.1 1826 28) ∧ ft H K) ∨ ((K.1 1826 0) = 0 ∧ (K.1 1826 28) = (H.1 1826 28) + 20 ∧ (H.1 1826 28) ≤ 980 ∧ r0 = (H.1 1826 28) + 20 ∧ FR x1 x2 x3 x4 x5 20 H K ∧ fr [0, 28] [1848] H K)) ∧ (K.1 1826 34) = (H.1 1826 34)) := by
  obtain ⟨hP, ht, hst, hou, hG9, hT⟩ := id hI
  refine h_mono (n_feed (by omega) ht) (fun r K h => ?_)
  obtain ⟨r0, h1, f, h2⟩ := h
  refine ⟨r0, h1, ⟨PWc_fr hP f (by decide) (by decide), by rcases h2 with ⟨-, h3, h4, -⟩ | ⟨-, h3, h4, -⟩ <;> omega, by rw [f.2.2 32 (by decide)]; exact hst, by rw [f.2.2 59 (by decide)]; exact hou, GP_fr hG9 f (by decide) (by decide) (by decide) (by decide), TV_fr hT f (by decide) (by decide) (by decide)⟩, cl_fr f rfl, ?_, f.2.2 34 (by decide)⟩
  rcases h2 with ⟨a, b, c, e⟩ | ⟨a, b, c, e, q⟩
  · refine Or.inl ⟨a, b, c, fun c9 hc => ?_, fun j hj => f.2.2 j (fun m => ?_)⟩
    · by_cases e9 : c9 = 1848
      · rw [e9]; exact e
      · refine f.2.1 c9 (fun q9 => ?_) (fun m => e9 (List.mem_singleton.mp m))
        rw [q9] at hc
        exact absurd hc (by decide)
    · simp only [List.mem_cons, List.not_mem_nil, or_false] at m hj
      omega
  · exact Or.inr ⟨a, b, c, e, q, f⟩
theorem u5_end {zC : Nat → Option zsh} {d : Nat} (hd : 12 ≤ d) {H : hp} {x : Int} (hI : GI H) (hx : -2147483648 ≤ x ∧ x ≤ 2147483647) : hG (zs zC) d mt_190 0 (zargs 0 [.inr (.inr 1826), .inl x]) [] H (fun r9 K => r9 = none ∧ GI K ∧ cl H K ∧ (((K.1 1826 0) = 1 ∧ (K.1 1826 28) = (H.1 1826 28) ∧ (x < 0 ∨ (H.1 1826 28) < x)) ∨ ((K.1 1826 0) = 0 ∧ (K.1 1826 28) = x ∧ 0 ≤ x ∧ x ≤ (H.1 1826 28))) ∧ ft H K ∧ (K.1 1826 34) = (H.1 1826 34)) := by
  obtain ⟨hP, ht, hst, hou, hG9, hT⟩ := id hI
  refine h_mono (m_end (by omega) hx ht) (fun r K h => ?_)
  obtain ⟨h1, f, h2⟩ := h
  exact ⟨h1, ⟨PWc_fr hP f (by decide) (by decide), by rcases h2 with ⟨-, h3, h4⟩ | ⟨-, h3, h4, h5⟩ <;> omega, by rw [f.2.2 32 (by decide)]; exact hst, by rw [f.2.2 59 (by decide)]; exact hou, GP_fr hG9 f (by decide) (by decide) (by decide) (by decide), TV_fr hT f (by decide) (by decide) (by decide)⟩, cl_fr f rfl, h2, ft_fr f (by decide) (by decide), f.2.2 34 (by decide)⟩
/-- the class reads -/
theorem w5_c_read {d : Nat} (hd : 50 ≤ d) {H : hp} {X : rx} (hI : Inv H) (hg : GI H) (hE : ER H) (hT : TC H X) (h0 : X 0 0 = 0) (hA : TA (H.1 1826 8) H X) : hG (zs zK) d mt_3 0 (zargs 0 [.inr (.inr 1)]) [] H (fun r K => ∃ z : Int, r = some (.inl z) ∧ (-2147483648 ≤ z ∧ z ≤ 2147483647) ∧ Inv K ∧ GI K ∧ K.1 2 1 = 0 ∧ (∀ c, 1826 ≤ c → K.1 c = H.1 c) ∧ RX (H.1 3, (H.1 2 1).toNat) X z K ∧ (z < 0 ∨ K.1 361 4 = H.1 361 4)) := by
  obtain ⟨q1, q2, q3⟩ := TA_P hg.1 hA
  refine h_mono (h_fk (q_read (by omega) hI hT hE q1 h0 (fun K X1 r => J_all q2 q3 r) (fun n X1 r => V_all h0 r)) (f_read (by omega) hI)) (fun r K h => ?_)
  obtain ⟨z, h1, hr, ⟨h3, f, h4, h5⟩, h6⟩ := h
  exact ⟨z, h1, hr, h3, GI_up hg (fq_up f rfl rfl), h4, fq_up f rfl rfl, h5, h6⟩

theorem w5_r_read {zC : Nat → Option zsh} {d : Nat} (hd : 50 ≤ d) {H : hp} {Y : yx} {X : rx} (hI : GI H) (hB : TB Y H) (h00 : X 0 0 = 0) (hA : TA (H.1 1826 8) H X) : hG (zs zC) d mt_192 0 (zargs 0 [.inr (.inr 1826)]) [] H (fun r K => ∃ z : Int, r = some (.inl z) ∧ RQ5 Y X z H K ∧ GI K ∧ cl H K ∧ K.1 1826 28 = 0) := by
  obtain ⟨hP, ht, hst, hou, hG9, hT⟩ := id hI
  obtain ⟨q1, q2, q3⟩ := TA_P hP hA
  obtain ⟨⟨b1, b2, b3, b4, b5⟩, -⟩ := (id hP : PW H (H.1 1826 1) (H.1 1826 3) (H.1 1826 8) (H.1 1826 13) (H.1 1826 19))
  refine h_mono (n_read5 (by omega) ht hst hP hB h00 hA q1 q2 q3) (fun r K h => ?_)
  obtain ⟨⟨r0, h1, hRQ⟩, f, h2, h3, ha, hPK, h4⟩ := h
  have hG8 : GP K := by
    obtain ⟨g1, g2, g3, n, g4, g5⟩ := hG9
    have o1 := f.2.1 1871 (by decide) (by decide)
    rcases h4 with h4 | ⟨h4, h5, -⟩
    · exact ⟨by rw [o1]; exact g1, by rw [f.2.2 89 (by decide)]; exact g2, by rw [f.2.2 97 (by decide)]; exact g3, 0, h4, Or.inl rfl⟩
    · refine ⟨by rw [o1]; exact g1, by rw [f.2.2 89 (by decide)]; exact g2, by rw [f.2.2 97 (by decide)]; exact g3, n, h4.trans g4, ?_⟩
      rcases g5 with q | ⟨q1, q2⟩
      · exact Or.inl q
      · refine Or.inr ⟨OS_agp hP ha (RS_s q1 h4 o1 (f.2.1 1872 (by decide) (by decide)) (fun x => ⟨sS_fr f (by decide) x, sH_fr f (by decide) x⟩)), by rw [h5]; exact q2⟩
  exact ⟨r0, h1, hRQ, ⟨hPK, by rw [h2]; decide, h3, by rw [f.2.2 59 (by decide)]; exact hou, hG8, TV_agp hP hT f ha (by decide)⟩, cl_fr f rfl, h2⟩
theorem read_kind {Y : yx} {X : rx} {z z' : Int} {H K K2 : hp} (h1 : RX Y X z K) (h6 : z < 0 ∨ K.1 361 4 = H.1 361 4) (g : ∀ c, 1826 ≤ c → K.1 c = H.1 c) (h2 : RQ5 Y X z' K K2) (hc : cl K K2) (hf : FK H) : FK K2 := by
  unfold FK at hf ⊢
  rw [hc.2 361 (by decide)]
  rcases h1 with ⟨X1, a1, z0, t1, -, e1⟩ | ⟨Xf, k, p, a1, b1, c1, t1, e1⟩
  · rcases h2 with ⟨X2, a2, t2, e2⟩ | ⟨Xg, k2, p2, a2, b2, c2, t2⟩
    · rw [e2, g 1826 (by decide), ← hf]
      exact h6.resolve_left (by omega)
    · have e := congrArg Prod.fst (rch_fin a1 a2 (Or.inl rfl) (Or.inr ⟨_, _, _, _, rfl⟩))
      cases e
  · rcases h2 with ⟨X2, a2, t2, e2⟩ | ⟨Xg, k2, p2, a2, b2, c2, t2⟩
    · have e := congrArg Prod.fst (rch_fin a1 a2 (Or.inr ⟨_, _, _, _, rfl⟩) (Or.inl rfl))
      cases e
    · have e := congrArg Prod.fst (rch_fin a1 a2 (Or.inr ⟨_, _, _, _, rfl⟩) (Or.inr ⟨_, _, _, _, rfl⟩))
      have e2 : [((0 : Nat), k, p, (0 : Int))] = [(0, k2, p2, 0)] := e
      injection e2 with e3 _
      injection e3 with _ e4
      injection e4 with e5 e6
      rw [c1, c2, e5]
/-- both work -/
theorem w5_c_work {d : Nat} (hd : 50 ≤ d) {H : hp} {X : rx} {a : Int} (hI : Inv H) (hG9 : GX5 H) (ha : -2147483648 ≤ a ∧ a ≤ 2147483647) (hE : ER H) (hT : TC H X) (h0 : X 0 0 = 0) : hG (zs zK) d mt_7 0 (zargs 0 [.inr (.inr 1), .inl a]) [] H (fun r K => BX 0 (H.1 1826 28) r K ∧ (∀ c, 1826 ≤ c → K.1 c = H.1 c) ∧ RCW (H.1 3, (H.1 2 1).toNat) X a H K) := by
  refine h_mono (h_names (by decide +kernel : gM gG mt_7 = true) (q_work (by omega) hI ha hT hE h0)) (fun r K h9 => ?_)
  obtain ⟨⟨z, h1, -, h3, f, h4, h5⟩, hn⟩ := h9
  exact ⟨fq_BX hG9.1 hn h1 h3 f h4 (Or.inl rfl) rfl rfl (by decide) (by decide), fq_up f rfl rfl, h5⟩
theorem w5_r_work {d : Nat} (hd : 50 ≤ d) {H : hp} {Y : yx} {X : rx} {x : Int} (hK : Inv H) (hI : GX H) (hx : -2147483648 ≤ x ∧ x ≤ 2147483647) (hB : TB Y H) (h00 : X 0 0 = 0) (hA : TA (H.1 1826 8) H X) : hG (zs zK) d mt_201 0 (zargs 0 [.inr (.inr 1826), .inl x]) [] H (fun r K => BX (H.1 2 1) 0 r K ∧ cl H K ∧ RQW Y X x H K) := by
  obtain ⟨hP, ht, hst, hou, hG9, hT⟩ := id hI.1
  refine h_mono (n_work (by omega) hx ht hst hP hou hB h00 rfl hA) (fun r K h => ?_)
  obtain ⟨h1, f, h2, h3, h4, h5⟩ := h
  exact ⟨GZ9_BX hK hI ⟨h1, ⟨PWc_fr hP f (by decide) (by decide), by rw [h2]; decide, h3, h4, GP_fr hG9 f (by decide) (by decide) (by decide) (by decide), TV_fr hT f (by decide) (by decide) (by decide)⟩, cl_fr f rfl, h2, ft_fr f (by decide) (by decide)⟩, cl_fr f rfl, h5⟩
theorem work_kind {Y : yx} {X : rx} {x : Int} {H K K2 : hp} (h1 : RCW Y X x H K) (g : ∀ c, 1826 ≤ c → K.1 c = H.1 c) (h2 : RQW Y X x K K2) (hc : cl K K2) (hf : FK H) : FK K2 := by
  unfold FK at hf ⊢
  rw [hc.2 361 (by decide)]
  have e9 : K.1 1826 34 = H.1 1826 34 := by rw [g 1826 (by decide)]
  have nx : ∀ {X1 : rx}, rch Y ([(2, -1, 0, 0), (1, 0, 0, 0)], xw X) ([(1, 0, 0, 0)], X1) → tk Y (xi X1) = 0 → rch Y ([(2, -1, 0, 0), (1, 0, 0, 0)], xw X) ([], adv X1) := by
    intro X1 r t
    exact rch_st r (by show (if tk Y (xi X1) = 0 then _ else _) = _; rw [if_pos t])
  rcases h1 with ⟨q1, a1⟩ | ⟨q1, ⟨a1, X1, r1, t1⟩ | ⟨Xf, p, r1⟩⟩
  · rcases h2 with ⟨q2, a2⟩ | ⟨q2, -⟩
    · rw [a1, a2, e9]; exact hf
    · omega
  · rcases h2 with ⟨q2, a2⟩ | ⟨q2, ⟨a2, -⟩ | ⟨Xg, p2, r2⟩⟩
    · omega
    · rw [a1, a2, e9]; exact hf
    · have e := congrArg Prod.fst (rch_fin (nx r1 t1) r2 (Or.inl rfl) (Or.inr ⟨_, _, _, _, rfl⟩))
      cases e
  · rcases h2 with ⟨q2, a2⟩ | ⟨q2, ⟨a2, X2, r2, t2⟩ | ⟨Xg, p2, r2⟩⟩
    · omega
    · have e := congrArg Prod.fst (rch_fin r1 (nx r2 t2) (Or.inr ⟨_, _, _, _, rfl⟩) (Or.inl rfl))
      cases e
    · have e := congrArg Prod.fst (rch_fin r1 r2 (Or.inr ⟨_, _, _, _, rfl⟩) (Or.inr ⟨_, _, _, _, rfl⟩))
      have e2 : [((0 : Nat), K.1 361 4, p, (0 : Int))] = [(0, K2.1 1826 34, p2, 0)] := e
      injection e2 with e3 _
      injection e3 with _ e4
      injection e4 with e5 _

