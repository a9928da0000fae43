/-! the reference: the rows' calls -/
def GP (H : hp) : Prop := (0 ≤ (H.1 1871) 0 ∧ (H.1 1871) 0 < 40) ∧ (0 ≤ (H.1 1826 89) ∧ (H.1 1826 89) ≤ 60) ∧ (H.1 1826 97) = -1 ∧ ∃ n : Nat, (H.1 1826 77) = (n : Int) ∧ (n = 0 ∨ (OS H H n ∧ 0 ≤ (H.1 1826 74) ∧ (H.1 1826 74) < 16))
theorem GP_SI {H : hp} (hP : PWc H) (h : GP H) (hg : (H.1 1826 77) ≠ 0) : ∃ n o : Nat, SI H n ∧ (H.1 1871) 0 = (o : Int) ∧ o < 40 ∧ gok H H o := by
  obtain ⟨h1, h2, h3, n, h4, h5⟩ := h
  rcases h5 with q | ⟨q1, q2, q3⟩
  · exact absurd h4 (by rw [q]; exact hg)
  · obtain ⟨g, a1, a2, a3, a4⟩ := q1.2.1 0 (by have := q1.1; omega)
    exact ⟨n, g, ⟨hP, q1, h2, ⟨q2, q3⟩, h3⟩, a1, a2, a4⟩
theorem PF_GP {H : hp} (h : PF2 H) : GP H := by
  obtain ⟨-, h2, h3, h4, h5, n, h6, h7⟩ := h
  refine ⟨h2, h3, h5, n, h6, ?_⟩
  rcases h7 with q | q
  · exact Or.inl q
  · exact Or.inr ⟨q, h4.1, h4.2⟩
theorem SI_GP {H : hp} {n : Nat} (h : SI H n) : GP H := PF_GP (SI_PF h)
theorem GP_fr {H K : hp} {ob ar : List Nat} (h : GP H) (f : fr ob ar H K) (h1 : ∀ c ∈ [1829, 1830, 1831, 1833, 1834, 1835, 1836, 1837, 1838, 1839, 1840, 1842, 1843, 1845, 1846], c ∉ ar) (h2 : ∀ j ∈ [1, 3, 8, 13, 19], j ∉ ob) (h3 : ∀ j ∈ [74, 77, 89, 97], j ∉ ob) (h4 : ∀ c ∈ [1871, 1872, 1873, 1874, 1879, 1880, 1881], c ∉ ar) : GP K := by
  obtain ⟨g1, g2, g3, n, g4, g5⟩ := h
  refine ⟨by rw [f.2.1 1871 (by decide) (h4 _ (by decide))]; exact g1, by rw [f.2.2 89 (h3 _ (by decide))]; exact g2, by rw [f.2.2 97 (h3 _ (by decide))]; exact g3, n, by rw [f.2.2 77 (h3 _ (by decide))]; exact g4, ?_⟩
  rcases g5 with q | ⟨q1, q2⟩
  · exact Or.inl q
  · exact Or.inr ⟨OS_P (sP_fr2 f h1 h2) (OS_fr q1 f (h3 _ (by decide)) ⟨h4 _ (by decide), h4 _ (by decide)⟩ ⟨⟨h4 _ (by decide), h4 _ (by decide)⟩, h4 _ (by decide), h4 _ (by decide), h4 _ (by decide)⟩), by rw [f.2.2 74 (h3 _ (by decide))]; exact q2⟩

/-! unfold -/
set_option maxRecDepth 100000 in
theorem m_unfold {zC : Nat → Option zsh} {d : Nat} (hd : 6 ≤ d) {H : hp} {s y : Int} (hP : PWc H) (hG9 : GP H) (hs : -2147483648 ≤ s ∧ s ≤ 2147483647) (hy : -2147483648 ≤ y ∧ y ≤ 2147483647) : hG (zs zC) d mt_237 0 (zargs 0 [.inr (.inr 1826), .inl s, .inl y]) [] H (fun r9 H2 => fr [50, 51, 53, 76, 93, 97] [1847, 1852, 1853, 1855, 1856, 1873, 1874, 1878, 1884, 1886] H H2 ∧ GP H2 ∧ ∃ r0 : Int, r9 = some (.inl r0)) := by
  refine h_rng (fun hrg0 => ?_)
  refine h_run 0 (pc' := 0) (l' := [(0, .inr (.inr 1826)), (1, .inl s), (2, .inl y)]) (st' := []) rfl ?_
  obtain ⟨⟨pb1, pb2, pb3, pb4, pb5⟩, pw1, pw2, pw3, pw4⟩ := (id hP : PW H (H.1 1826 1) (H.1 1826 3) (H.1 1826 8) (H.1 1826 13) (H.1 1826 19))
  refine h_run 2 (pc' := 2) (l' := [(0, .inr (.inr 1826)), (1, .inl s), (2, .inl y)]) (st' := [.inl y, .inl s]) rfl ?_
  refine h_cs (i := 559) (j := 236) (M' := mt_236) (xs := [.inl y, .inl s]) (rest := []) rfl rfl rfl rfl rfl (Nat.le_of_ble_eq_true rfl) (Nat.le_of_ble_eq_true rfl) (by omega) (m_isOutside (by omega) (by omega) (by omega)) ?_
  rintro _ _ ⟨⟨rfl, b1⟩ | ⟨rfl, b1⟩, rfl⟩
  · refine h_run 0 (pc' := 5) (l' := [(0, .inr (.inr 1826)), (1, .inl s), (2, .inl y)]) (st' := [.inl 1]) rfl ?_
    refine h_zeq (off := 8) (t := 13) rfl rfl (by decide) (fun c => absurd c (by decide)) (fun _ => ?_)
    refine h_run 2 (pc' := 32) (l' := [(0, .inr (.inr 1826)), (1, .inl s), (2, .inl y)]) (st' := [.inl (-102)]) rfl ?_
    refine h_reti (x := (-102)) rfl rfl ?_
    exact ⟨(fr_rf _ _ _), hG9, _, rfl⟩
  · refine h_run 0 (pc' := 5) (l' := [(0, .inr (.inr 1826)), (1, .inl s), (2, .inl y)]) (st' := [.inl 0]) rfl ?_
    refine h_zeq (off := 8) (t := 13) rfl rfl (by decide) (fun _ => ?_) (fun c => absurd c (by decide))
    refine h_run 1 (pc' := 14) (l' := [(0, .inr (.inr 1826)), (1, .inl s), (2, .inl y)]) (st' := [.inr (.inr 1826)]) rfl ?_
    have g2 : -2147483648 ≤ (H.1 1826 77) ∧ (H.1 1826 77) ≤ 2147483647 := hrg0.1 1826 13 77 _ .int rfl rfl
    refine h_cv (i := 563) (j := 235) (b := 1826) (M' := mt_235) (xs := []) (rest := []) rfl rfl rfl rfl rfl rfl (Nat.le_of_ble_eq_true rfl) (Nat.le_of_ble_eq_true rfl) (by omega) (m_idle (by omega)) ?_
    rintro _ _ ⟨⟨rfl, b3⟩ | ⟨rfl, b3⟩, rfl⟩
    · have b3x : (H.1 1826 77) = 0 := b3
      refine h_run 0 (pc' := 17) (l' := [(0, .inr (.inr 1826)), (1, .inl s), (2, .inl y)]) (st' := [.inl 1]) rfl ?_
      refine h_zeq (off := 8) (t := 25) rfl rfl (by decide) (fun c => absurd c (by decide)) (fun _ => ?_)
      refine h_run 2 (pc' := 32) (l' := [(0, .inr (.inr 1826)), (1, .inl s), (2, .inl y)]) (st' := [.inl (-103)]) rfl ?_
      refine h_reti (x := (-103)) rfl rfl ?_
      exact ⟨(fr_rf _ _ _), hG9, _, rfl⟩
    · have b3x : (H.1 1826 77) ≠ 0 := b3
      refine h_run 0 (pc' := 17) (l' := [(0, .inr (.inr 1826)), (1, .inl s), (2, .inl y)]) (st' := [.inl 0]) rfl ?_
      refine h_zeq (off := 8) (t := 25) rfl rfl (by decide) (fun _ => ?_) (fun c => absurd c (by decide))
      obtain ⟨n, o, hS, hoo9, hol9, hog9⟩ := GP_SI hP hG9 (by omega)
      obtain ⟨sn, hsn⟩ : ∃ k9 : Nat, s = (k9 : Int) := ⟨(s).toNat, by omega⟩
      rw [show s = (sn : Int) from hsn]
      obtain ⟨qn, hqn⟩ : ∃ k9 : Nat, y = (k9 : Int) := ⟨(y).toNat, by omega⟩
      rw [show y = (qn : Int) from hqn]
      refine h_run 4 (pc' := 29) (l' := [(0, .inr (.inr 1826)), (1, .inl (sn : Int)), (2, .inl (qn : Int))]) (st' := [.inl (-1), .inl (qn : Int), .inl (sn : Int), .inr (.inr 1826)]) rfl ?_
      refine h_cv (i := 566) (j := 238) (b := 1826) (M' := mt_238) (xs := [.inl (-1), .inl (qn : Int), .inl (sn : Int)]) (rest := []) rfl rfl rfl rfl rfl rfl (Nat.le_of_ble_eq_true rfl) (Nat.le_of_ble_eq_true rfl) (by omega) (m_unfoldAt (n := n) (o := o) (q := qn) (by omega) hS.1 hS.2.1 hS.2.2.2.2 hoo9 (by omega) (by omega) (Or.inl rfl) ) ?_
      rintro _ H4 ⟨hfH4, hlH4, hOH4, rH4, rfl, bH4, zH4⟩
      refine h_rng (fun hrg5 => ?_)
      have hf6 : fr [50, 51, 53, 76, 93, 97] [1847, 1852, 1853, 1855, 1856, 1873, 1874, 1878, 1884, 1886] H H4 := fr_t (fr_rf _ _ _) hfH4 (by decide) (by decide)
      have hSH4 : SI H4 n := SI_k hS hfH4 (by decide) (by decide) (by decide) hOH4 hlH4
      refine h_run 0 (pc' := 32) (l' := [(0, .inr (.inr 1826)), (1, .inl (sn : Int)), (2, .inl (qn : Int))]) (st' := [.inl rH4]) rfl ?_
      refine h_reti (x := rH4) rfl rfl ?_
      exact ⟨hf6, SI_GP hSH4, _, rfl⟩

/-! law -/
set_option maxRecDepth 100000 in
theorem m_lawC {zC : Nat → Option zsh} {d : Nat} (hd : 7 ≤ d) {H : hp} {x b s y : Int} (hP : PWc H) (hG9 : GP H) (hx : -2147483648 ≤ x ∧ x ≤ 2147483647) (hs : -2147483648 ≤ s ∧ s ≤ 2147483647) (hy : -2147483648 ≤ y ∧ y ≤ 2147483647) (hb : 0 ≤ b ∧ b ≤ 1) : hG (zs zC) d mt_243 0 (zargs 0 [.inr (.inr 1826), .inl x, .inl b, .inl s, .inl y]) [] H (fun r9 H2 => fr [50, 51, 53, 76, 93, 97] [1847, 1852, 1853, 1855, 1856, 1873, 1874, 1878, 1884, 1886] H H2 ∧ GP H2 ∧ ∃ r0 : Int, r9 = some (.inl r0)) := by
  refine h_rng (fun hrg0 => ?_)
  refine h_run 0 (pc' := 0) (l' := [(0, .inr (.inr 1826)), (1, .inl x), (2, .inl b), (3, .inl s), (4, .inl y)]) (st' := []) rfl ?_
  obtain ⟨⟨pb1, pb2, pb3, pb4, pb5⟩, pw1, pw2, pw3, pw4⟩ := (id hP : PW H (H.1 1826 1) (H.1 1826 3) (H.1 1826 8) (H.1 1826 13) (H.1 1826 19))
  refine h_run 1 (pc' := 1) (l' := [(0, .inr (.inr 1826)), (1, .inl x), (2, .inl b), (3, .inl s), (4, .inl y)]) (st' := [.inl x]) rfl ?_
  refine h_zlt (off := 11) (t := 12) rfl rfl (by omega) (fun c1 => ?_) (fun c1 => ?_)
  · refine h_run 2 (pc' := 53) (l' := [(0, .inr (.inr 1826)), (1, .inl x), (2, .inl b), (3, .inl s), (4, .inl y)]) (st' := [.inl (-101)]) rfl ?_
    refine h_reti (x := (-101)) rfl rfl ?_
    exact ⟨(fr_rf _ _ _), hG9, _, rfl⟩
  · refine h_run 3 (pc' := 9) (l' := [(0, .inr (.inr 1826)), (1, .inl x), (2, .inl b), (3, .inl s), (4, .inl y)]) (st' := [.inl (H.1 1826 19), .inl x]) rfl ?_
    have g2 : -2147483648 ≤ (H.1 1826 19) ∧ (H.1 1826 19) ≤ 2147483647 := hrg0.1 1826 13 19 _ .int rfl rfl
    refine h_ilt (off := 8) (t := 17) rfl rfl (by omega) (by omega) (fun c3 => ?_) (fun c3 => ?_)
    · refine h_run 2 (pc' := 20) (l' := [(0, .inr (.inr 1826)), (1, .inl x), (2, .inl b), (3, .inl s), (4, .inl y)]) (st' := [.inl y, .inl s]) rfl ?_
      refine h_cs (i := 559) (j := 236) (M' := mt_236) (xs := [.inl y, .inl s]) (rest := []) rfl rfl rfl rfl rfl (Nat.le_of_ble_eq_true rfl) (Nat.le_of_ble_eq_true rfl) (by omega) (m_isOutside (by omega) (by omega) (by omega)) ?_
      rintro _ _ ⟨⟨rfl, b4⟩ | ⟨rfl, b4⟩, rfl⟩
      · refine h_run 0 (pc' := 23) (l' := [(0, .inr (.inr 1826)), (1, .inl x), (2, .inl b), (3, .inl s), (4, .inl y)]) (st' := [.inl 1]) rfl ?_
        refine h_zeq (off := 8) (t := 31) rfl rfl (by decide) (fun c => absurd c (by decide)) (fun _ => ?_)
        refine h_run 2 (pc' := 53) (l' := [(0, .inr (.inr 1826)), (1, .inl x), (2, .inl b), (3, .inl s), (4, .inl y)]) (st' := [.inl (-102)]) rfl ?_
        refine h_reti (x := (-102)) rfl rfl ?_
        exact ⟨(fr_rf _ _ _), hG9, _, rfl⟩
      · refine h_run 0 (pc' := 23) (l' := [(0, .inr (.inr 1826)), (1, .inl x), (2, .inl b), (3, .inl s), (4, .inl y)]) (st' := [.inl 0]) rfl ?_
        refine h_zeq (off := 8) (t := 31) rfl rfl (by decide) (fun _ => ?_) (fun c => absurd c (by decide))
        refine h_run 1 (pc' := 32) (l' := [(0, .inr (.inr 1826)), (1, .inl x), (2, .inl b), (3, .inl s), (4, .inl y)]) (st' := [.inr (.inr 1826)]) rfl ?_
        have g5 : -2147483648 ≤ (H.1 1826 77) ∧ (H.1 1826 77) ≤ 2147483647 := hrg0.1 1826 13 77 _ .int rfl rfl
        refine h_cv (i := 563) (j := 235) (b := 1826) (M' := mt_235) (xs := []) (rest := []) rfl rfl rfl rfl rfl rfl (Nat.le_of_ble_eq_true rfl) (Nat.le_of_ble_eq_true rfl) (by omega) (m_idle (by omega)) ?_
        rintro _ _ ⟨⟨rfl, b6⟩ | ⟨rfl, b6⟩, rfl⟩
        · have b6x : (H.1 1826 77) = 0 := b6
          refine h_run 0 (pc' := 35) (l' := [(0, .inr (.inr 1826)), (1, .inl x), (2, .inl b), (3, .inl s), (4, .inl y)]) (st' := [.inl 1]) rfl ?_
          refine h_zeq (off := 8) (t := 43) rfl rfl (by decide) (fun c => absurd c (by decide)) (fun _ => ?_)
          refine h_run 2 (pc' := 53) (l' := [(0, .inr (.inr 1826)), (1, .inl x), (2, .inl b), (3, .inl s), (4, .inl y)]) (st' := [.inl (-103)]) rfl ?_
          refine h_reti (x := (-103)) rfl rfl ?_
          exact ⟨(fr_rf _ _ _), hG9, _, rfl⟩
        · have b6x : (H.1 1826 77) ≠ 0 := b6
          refine h_run 0 (pc' := 35) (l' := [(0, .inr (.inr 1826)), (1, .inl x), (2, .inl b), (3, .inl s), (4, .inl y)]) (st' := [.inl 0]) rfl ?_
          refine h_zeq (off := 8) (t := 43) rfl rfl (by decide) (fun _ => ?_) (fun c => absurd c (by decide))
          obtain ⟨n, o, hS, hoo9, hol9, hog9⟩ := GP_SI hP hG9 (by omega)
          obtain ⟨ln, hln⟩ : ∃ k9 : Nat, x = (k9 : Int) := ⟨(x).toNat, by omega⟩
          rw [show x = (ln : Int) from hln]
          obtain ⟨sn, hsn⟩ : ∃ k9 : Nat, s = (k9 : Int) := ⟨(s).toNat, by omega⟩
          rw [show s = (sn : Int) from hsn]
          obtain ⟨qn, hqn⟩ : ∃ k9 : Nat, y = (k9 : Int) := ⟨(y).toNat, by omega⟩
          rw [show y = (qn : Int) from hqn]
          refine h_run 6 (pc' := 50) (l' := [(0, .inr (.inr 1826)), (1, .inl (ln : Int)), (2, .inl b), (3, .inl (sn : Int)), (4, .inl (qn : Int))]) (st' := [.inl (-1), .inl (qn : Int), .inl (sn : Int), .inl b, .inl (ln : Int), .inr (.inr 1826)]) rfl ?_
          refine h_cv (i := 589) (j := 244) (b := 1826) (M' := mt_244) (xs := [.inl (-1), .inl (qn : Int), .inl (sn : Int), .inl b, .inl (ln : Int)]) (rest := []) rfl rfl rfl rfl rfl rfl (Nat.le_of_ble_eq_true rfl) (Nat.le_of_ble_eq_true rfl) (by omega) (m_lawAt (n := n) (o := o) (q := qn) (by omega) hS.1 hS.2.1 hS.2.2.2.2 hoo9 (by omega) (by omega) (Or.inl rfl) (by omega) (by omega)) ?_
          rintro _ H7 ⟨hfH7, hlH7, hOH7, rH7, rfl, bH7, zH7⟩
          refine h_rng (fun hrg8 => ?_)
          have hf9 : fr [50, 51, 53, 76, 93, 97] [1847, 1852, 1853, 1855, 1856, 1873, 1874, 1878, 1884, 1886] H H7 := fr_t (fr_rf _ _ _) hfH7 (by decide) (by decide)
          have hSH7 : SI H7 n := SI_k hS hfH7 (by decide) (by decide) (by decide) hOH7 hlH7
          refine h_run 0 (pc' := 53) (l' := [(0, .inr (.inr 1826)), (1, .inl (ln : Int)), (2, .inl b), (3, .inl (sn : Int)), (4, .inl (qn : Int))]) (st' := [.inl rH7]) rfl ?_
          refine h_reti (x := rH7) rfl rfl ?_
          exact ⟨hf9, SI_GP hSH7, _, rfl⟩
    · refine h_run 2 (pc' := 53) (l' := [(0, .inr (.inr 1826)), (1, .inl x), (2, .inl b), (3, .inl s), (4, .inl y)]) (st' := [.inl (-101)]) rfl ?_
      refine h_reti (x := (-101)) rfl rfl ?_
      exact ⟨(fr_rf _ _ _), hG9, _, rfl⟩

/-! hypothesis -/
set_option maxRecDepth 100000 in
theorem m_hypothesis {zC : Nat → Option zsh} {d : Nat} (hd : 7 ≤ d) {H : hp} {x b s y : Int} (hP : PWc H) (hG9 : GP H) (hx : -2147483648 ≤ x ∧ x ≤ 2147483647) (hs : -2147483648 ≤ s ∧ s ≤ 2147483647) (hy : -2147483648 ≤ y ∧ y ≤ 2147483647) (hb : 0 ≤ b ∧ b ≤ 1) : hG (zs zC) d mt_245 0 (zargs 0 [.inr (.inr 1826), .inl x, .inl b, .inl s, .inl y]) [] H (fun r9 H2 => fr [50, 51, 53, 76, 93, 97] [1847, 1852, 1853, 1855, 1856, 1873, 1874, 1878, 1884, 1886] H H2 ∧ GP H2 ∧ ∃ r0 : Int, r9 = some (.inl r0)) := by
  refine h_rng (fun hrg0 => ?_)
  refine h_run 0 (pc' := 0) (l' := [(0, .inr (.inr 1826)), (1, .inl x), (2, .inl b), (3, .inl s), (4, .inl y)]) (st' := []) rfl ?_
  obtain ⟨⟨pb1, pb2, pb3, pb4, pb5⟩, pw1, pw2, pw3, pw4⟩ := (id hP : PW H (H.1 1826 1) (H.1 1826 3) (H.1 1826 8) (H.1 1826 13) (H.1 1826 19))
  refine h_run 2 (pc' := 3) (l' := [(0, .inr (.inr 1826)), (1, .inl x), (2, .inl b), (3, .inl s), (4, .inl y)]) (st' := [.inl y, .inl s]) rfl ?_
  refine h_cs (i := 559) (j := 236) (M' := mt_236) (xs := [.inl y, .inl s]) (rest := []) rfl rfl rfl rfl rfl (Nat.le_of_ble_eq_true rfl) (Nat.le_of_ble_eq_true rfl) (by omega) (m_isOutside (by omega) (by omega) (by omega)) ?_
  rintro _ _ ⟨⟨rfl, b1⟩ | ⟨rfl, b1⟩, rfl⟩
  · refine h_run 0 (pc' := 6) (l' := [(0, .inr (.inr 1826)), (1, .inl x), (2, .inl b), (3, .inl s), (4, .inl y)]) (st' := [.inl 1]) rfl ?_
    refine h_zeq (off := 8) (t := 14) rfl rfl (by decide) (fun c => absurd c (by decide)) (fun _ => ?_)
    refine h_run 2 (pc' := 36) (l' := [(0, .inr (.inr 1826)), (1, .inl x), (2, .inl b), (3, .inl s), (4, .inl y)]) (st' := [.inl (-102)]) rfl ?_
    refine h_reti (x := (-102)) rfl rfl ?_
    exact ⟨(fr_rf _ _ _), hG9, _, rfl⟩
  · refine h_run 0 (pc' := 6) (l' := [(0, .inr (.inr 1826)), (1, .inl x), (2, .inl b), (3, .inl s), (4, .inl y)]) (st' := [.inl 0]) rfl ?_
    refine h_zeq (off := 8) (t := 14) rfl rfl (by decide) (fun _ => ?_) (fun c => absurd c (by decide))
    refine h_run 1 (pc' := 15) (l' := [(0, .inr (.inr 1826)), (1, .inl x), (2, .inl b), (3, .inl s), (4, .inl y)]) (st' := [.inr (.inr 1826)]) rfl ?_
    have g2 : -2147483648 ≤ (H.1 1826 77) ∧ (H.1 1826 77) ≤ 2147483647 := hrg0.1 1826 13 77 _ .int rfl rfl
    refine h_cv (i := 563) (j := 235) (b := 1826) (M' := mt_235) (xs := []) (rest := []) rfl rfl rfl rfl rfl rfl (Nat.le_of_ble_eq_true rfl) (Nat.le_of_ble_eq_true rfl) (by omega) (m_idle (by omega)) ?_
    rintro _ _ ⟨⟨rfl, b3⟩ | ⟨rfl, b3⟩, rfl⟩
    · have b3x : (H.1 1826 77) = 0 := b3
      refine h_run 0 (pc' := 18) (l' := [(0, .inr (.inr 1826)), (1, .inl x), (2, .inl b), (3, .inl s), (4, .inl y)]) (st' := [.inl 1]) rfl ?_
      refine h_zeq (off := 8) (t := 26) rfl rfl (by decide) (fun c => absurd c (by decide)) (fun _ => ?_)
      refine h_run 2 (pc' := 36) (l' := [(0, .inr (.inr 1826)), (1, .inl x), (2, .inl b), (3, .inl s), (4, .inl y)]) (st' := [.inl (-103)]) rfl ?_
      refine h_reti (x := (-103)) rfl rfl ?_
      exact ⟨(fr_rf _ _ _), hG9, _, rfl⟩
    · have b3x : (H.1 1826 77) ≠ 0 := b3
      refine h_run 0 (pc' := 18) (l' := [(0, .inr (.inr 1826)), (1, .inl x), (2, .inl b), (3, .inl s), (4, .inl y)]) (st' := [.inl 0]) rfl ?_
      refine h_zeq (off := 8) (t := 26) rfl rfl (by decide) (fun _ => ?_) (fun c => absurd c (by decide))
      obtain ⟨n, o, hS, hoo9, hol9, hog9⟩ := GP_SI hP hG9 (by omega)
      obtain ⟨sn, hsn⟩ : ∃ k9 : Nat, s = (k9 : Int) := ⟨(s).toNat, by omega⟩
      rw [show s = (sn : Int) from hsn]
      obtain ⟨qn, hqn⟩ : ∃ k9 : Nat, y = (k9 : Int) := ⟨(y).toNat, by omega⟩
      rw [show y = (qn : Int) from hqn]
      refine h_run 6 (pc' := 33) (l' := [(0, .inr (.inr 1826)), (1, .inl x), (2, .inl b), (3, .inl (sn : Int)), (4, .inl (qn : Int))]) (st' := [.inl (-1), .inl (qn : Int), .inl (sn : Int), .inl b, .inl x, .inr (.inr 1826)]) rfl ?_
      refine h_cv (i := 601) (j := 246) (b := 1826) (M' := mt_246) (xs := [.inl (-1), .inl (qn : Int), .inl (sn : Int), .inl b, .inl x]) (rest := []) rfl rfl rfl rfl rfl rfl (Nat.le_of_ble_eq_true rfl) (Nat.le_of_ble_eq_true rfl) (by omega) (m_hypothesisAt (n := n) (o := o) (q := qn) (by omega) hS.1 hS.2.1 hS.2.2.2.2 hoo9 (by omega) (by omega) (Or.inl rfl) (by omega) (by omega)) ?_
      rintro _ H4 ⟨hfH4, hlH4, hOH4, rH4, rfl, bH4, zH4⟩
      refine h_rng (fun hrg5 => ?_)
      have hf6 : fr [50, 51, 53, 76, 93, 97] [1847, 1852, 1853, 1855, 1856, 1873, 1874, 1878, 1884, 1886] H H4 := fr_t (fr_rf _ _ _) hfH4 (by decide) (by decide)
      have hSH4 : SI H4 n := SI_k hS hfH4 (by decide) (by decide) (by decide) hOH4 hlH4
      refine h_run 0 (pc' := 36) (l' := [(0, .inr (.inr 1826)), (1, .inl x), (2, .inl b), (3, .inl (sn : Int)), (4, .inl (qn : Int))]) (st' := [.inl rH4]) rfl ?_
      refine h_reti (x := rH4) rfl rfl ?_
      exact ⟨hf6, SI_GP hSH4, _, rfl⟩

/-! induction -/
set_option maxRecDepth 100000 in
theorem m_induction {zC : Nat → Option zsh} {d : Nat} (hd : 5 ≤ d) {H : hp} {v : Int} (hP : PWc H) (hG9 : GP H) (hv : -2147483648 ≤ v ∧ v ≤ 2147483647) : hG (zs zC) d mt_252 0 (zargs 0 [.inr (.inr 1826), .inl v]) [] H (fun r9 H2 => fr [53, 76, 77, 89, 93, 95, 99, 101] [1847, 1856, 1871, 1872, 1873, 1874, 1875, 1876, 1877, 1878, 1879, 1880, 1881, 1882, 1883, 1884, 1885, 1887, 1888] H H2 ∧ GP H2 ∧ ∃ r0 : Int, r9 = some (.inl r0)) := by
  refine h_rng (fun hrg0 => ?_)
  refine h_run 0 (pc' := 0) (l' := [(0, .inr (.inr 1826)), (1, .inl v)]) (st' := []) rfl ?_
  obtain ⟨⟨pb1, pb2, pb3, pb4, pb5⟩, pw1, pw2, pw3, pw4⟩ := (id hP : PW H (H.1 1826 1) (H.1 1826 3) (H.1 1826 8) (H.1 1826 13) (H.1 1826 19))
  refine h_run 1 (pc' := 1) (l' := [(0, .inr (.inr 1826)), (1, .inl v)]) (st' := [.inr (.inr 1826)]) rfl ?_
  have g1 : -2147483648 ≤ (H.1 1826 77) ∧ (H.1 1826 77) ≤ 2147483647 := hrg0.1 1826 13 77 _ .int rfl rfl
  refine h_cv (i := 563) (j := 235) (b := 1826) (M' := mt_235) (xs := []) (rest := []) rfl rfl rfl rfl rfl rfl (Nat.le_of_ble_eq_true rfl) (Nat.le_of_ble_eq_true rfl) (by omega) (m_idle (by omega)) ?_
  rintro _ _ ⟨⟨rfl, b2⟩ | ⟨rfl, b2⟩, rfl⟩
  · have b2x : (H.1 1826 77) = 0 := b2
    refine h_run 0 (pc' := 4) (l' := [(0, .inr (.inr 1826)), (1, .inl v)]) (st' := [.inl 1]) rfl ?_
    refine h_zeq (off := 8) (t := 12) rfl rfl (by decide) (fun c => absurd c (by decide)) (fun _ => ?_)
    refine h_run 2 (pc' := 68) (l' := [(0, .inr (.inr 1826)), (1, .inl v)]) (st' := [.inl (-103)]) rfl ?_
    refine h_reti (x := (-103)) rfl rfl ?_
    exact ⟨(fr_rf _ _ _), hG9, _, rfl⟩
  · have b2x : (H.1 1826 77) ≠ 0 := b2
    refine h_run 0 (pc' := 4) (l' := [(0, .inr (.inr 1826)), (1, .inl v)]) (st' := [.inl 0]) rfl ?_
    refine h_zeq (off := 8) (t := 12) rfl rfl (by decide) (fun _ => ?_) (fun c => absurd c (by decide))
    obtain ⟨n, o, hS, hoo9, hol9, hog9⟩ := GP_SI hP hG9 (by omega)
    obtain ⟨s0, hs01, hs02, hs03⟩ := hog9.1 0 (by omega)
    obtain ⟨s1, hs11, hs12, hs13⟩ := hog9.1 1 (by omega)
    have hvv9 := hS.2.2.1
    refine h_run 1 (pc' := 13) (l' := [(0, .inr (.inr 1826)), (1, .inl v)]) (st' := [.inl v]) rfl ?_
    refine h_zlt (off := 45) (t := 58) rfl rfl (by omega) (fun c3 => ?_) (fun c3 => ?_)
    · refine h_run 2 (pc' := 68) (l' := [(0, .inr (.inr 1826)), (1, .inl v)]) (st' := [.inl (-104)]) rfl ?_
      refine h_reti (x := (-104)) rfl rfl ?_
      exact ⟨(fr_rf _ _ _), hG9, _, rfl⟩
    · refine h_run 3 (pc' := 21) (l' := [(0, .inr (.inr 1826)), (1, .inl v)]) (st' := [.inl (H.1 1826 89), .inl v]) rfl ?_
      have g4 : -2147483648 ≤ (H.1 1826 89) ∧ (H.1 1826 89) ≤ 2147483647 := hrg0.1 1826 13 89 _ .int rfl rfl
      refine h_ige (off := 37) (t := 58) rfl rfl (by omega) (by omega) (fun c5 => ?_) (fun c5 => ?_)
      · refine h_run 2 (pc' := 68) (l' := [(0, .inr (.inr 1826)), (1, .inl v)]) (st' := [.inl (-104)]) rfl ?_
        refine h_reti (x := (-104)) rfl rfl ?_
        exact ⟨(fr_rf _ _ _), hG9, _, rfl⟩
      · refine h_run 4 (pc' := 30) (l' := [(0, .inr (.inr 1826)), (1, .inl v)]) (st' := [.inl 0, .inr (.inr 1871), .inr (.inr 1826)]) rfl ?_
        refine h_ild (c := 1871) (j := 0) (i := 0) rfl rfl (by decide) rfl (by omega) ?_
        have g6 : -2147483648 ≤ (H.1 1871 0) ∧ (H.1 1871 0) ≤ 2147483647 := hrg0.2 1871 0 13 .int rfl (by omega)
        refine h_run 0 (pc' := 31) (l' := [(0, .inr (.inr 1826)), (1, .inl v)]) (st' := [.inl (H.1 1871 0), .inr (.inr 1826)]) rfl ?_
        rw [show (H.1 1871 0) = (o : Int) by omega]
        refine h_run 1 (pc' := 32) (l' := [(0, .inr (.inr 1826)), (1, .inl v)]) (st' := [.inl v, .inl (o : Int), .inr (.inr 1826)]) rfl ?_
        refine h_cv (i := 610) (j := 247) (b := 1826) (M' := mt_247) (xs := [.inl v, .inl (o : Int)]) (rest := []) rfl rfl rfl rfl rfl rfl (Nat.le_of_ble_eq_true rfl) (Nat.le_of_ble_eq_true rfl) (by omega) (m_hasVariable (by omega) (by omega) (by omega) ⟨hs01, by omega, hs11, by omega⟩) ?_
        rintro _ _ ⟨(rfl | rfl), rfl⟩
        · refine h_run 0 (pc' := 35) (l' := [(0, .inr (.inr 1826)), (1, .inl v)]) (st' := [.inl 0]) rfl ?_
          refine h_zeq (off := 23) (t := 58) rfl rfl (by decide) (fun _ => ?_) (fun c => absurd c (by decide))
          refine h_run 2 (pc' := 68) (l' := [(0, .inr (.inr 1826)), (1, .inl v)]) (st' := [.inl (-104)]) rfl ?_
          refine h_reti (x := (-104)) rfl rfl ?_
          exact ⟨(fr_rf _ _ _), hG9, _, rfl⟩
        · refine h_run 0 (pc' := 35) (l' := [(0, .inr (.inr 1826)), (1, .inl v)]) (st' := [.inl 1]) rfl ?_
          refine h_zeq (off := 23) (t := 58) rfl rfl (by decide) (fun c => absurd c (by decide)) (fun _ => ?_)
          refine h_run 5 (pc' := 47) (l' := [(0, .inr (.inr 1826)), (1, .inl v)]) (st' := [.inl 0, .inr (.inr 1871), .inr (.inr 1876)]) rfl ?_
          refine h_ild (c := 1871) (j := 0) (i := 0) rfl rfl (by decide) rfl (by omega) ?_
          refine h_run 0 (pc' := 48) (l' := [(0, .inr (.inr 1826)), (1, .inl v)]) (st' := [.inl (H.1 1871 0), .inr (.inr 1876)]) rfl ?_
          rw [show (H.1 1871 0) = (o : Int) by omega]
          refine h_lld (c := 1876) (j := o) (i := (o : Int)) rfl rfl (by decide) rfl (by omega) ?_
          have g7 : -9223372036854775808 ≤ (H.1 1876 o) ∧ (H.1 1876 o) ≤ 9223372036854775807 := hrg0.2 1876 o 40 .long rfl (by omega)
          refine h_run 0 (pc' := 49) (l' := [(0, .inr (.inr 1826)), (1, .inl v)]) (st' := [.inr (.inl (H.1 1876 o))]) rfl ?_
          refine h_run 6 (pc' := 55) (l' := [(0, .inr (.inr 1826)), (1, .inl v)]) (st' := [.inl (z_cmp (z_land (z_lshr (H.1 1876 o) v) 1) 1)]) rfl ?_
          refine h_zne (off := 8) (t := 63) rfl rfl (z_int _) (fun c8 => ?_) (fun c8 => ?_)
          · obtain ⟨vn, hvn⟩ : ∃ k9 : Nat, v = (k9 : Int) := ⟨(v).toNat, by omega⟩
            rw [show v = (vn : Int) from hvn]
            refine h_run 2 (pc' := 65) (l' := [(0, .inr (.inr 1826)), (1, .inl (vn : Int))]) (st' := [.inl (vn : Int), .inr (.inr 1826)]) rfl ?_
            refine h_cv (i := 613) (j := 253) (b := 1826) (M' := mt_253) (xs := [.inl (vn : Int)]) (rest := []) rfl rfl rfl rfl rfl rfl (Nat.le_of_ble_eq_true rfl) (Nat.le_of_ble_eq_true rfl) (by omega) (m_inducted (n := n) (o := o) (by omega) hS.1 hS.2.1 hS.2.2.1 hS.2.2.2.1 hoo9 (by omega)) ?_
            rintro _ H9 ⟨hfH9, horH9, hvvH9, (⟨rfl, hOH9⟩ | ⟨n2H9, rfl, hnH9, hOH9⟩)⟩
            · refine h_rng (fun hrg10 => ?_)
              have hf11 : fr [53, 76, 77, 89, 93, 95, 99, 101] [1847, 1856, 1871, 1872, 1873, 1874, 1875, 1876, 1877, 1878, 1879, 1880, 1881, 1882, 1883, 1884, 1885, 1887, 1888] H H9 := fr_t (fr_rf _ _ _) hfH9 (by decide) (by decide)
              have hSH9 : SI H9 n := SI_v hS hfH9 (by decide) (by decide) (by decide) hOH9 hvvH9
              have hPFH9 := SI_PF hSH9
              refine h_run 0 (pc' := 68) (l' := [(0, .inr (.inr 1826)), (1, .inl (vn : Int))]) (st' := [.inl (-105)]) rfl ?_
              refine h_reti (x := (-105)) rfl rfl ?_
              exact ⟨hf11, PF_GP hPFH9, _, rfl⟩
            · refine h_rng (fun hrg12 => ?_)
              have hf13 : fr [53, 76, 77, 89, 93, 95, 99, 101] [1847, 1856, 1871, 1872, 1873, 1874, 1875, 1876, 1877, 1878, 1879, 1880, 1881, 1882, 1883, 1884, 1885, 1887, 1888] H H9 := fr_t (fr_rf _ _ _) hfH9 (by decide) (by decide)
              have hPFH9 : PF2 H9 := PF_v hS hfH9 (by decide) (by decide) (by decide) horH9 hvvH9 hnH9 hOH9
              refine h_run 0 (pc' := 68) (l' := [(0, .inr (.inr 1826)), (1, .inl (vn : Int))]) (st' := [.inl (n2H9 : Int)]) rfl ?_
              refine h_reti (x := (n2H9 : Int)) rfl rfl ?_
              exact ⟨hf13, PF_GP hPFH9, _, rfl⟩
          · refine h_run 2 (pc' := 68) (l' := [(0, .inr (.inr 1826)), (1, .inl v)]) (st' := [.inl (-104)]) rfl ?_
            refine h_reti (x := (-104)) rfl rfl ?_
            exact ⟨(fr_rf _ _ _), hG9, _, rfl⟩

/-! cases -/
set_option maxRecDepth 100000 in
theorem m_cases {zC : Nat → Option zsh} {d : Nat} (hd : 6 ≤ d) {H : hp} {s y : Int} (hP : PWc H) (hG9 : GP H) (hs : -2147483648 ≤ s ∧ s ≤ 2147483647) (hy : -2147483648 ≤ y ∧ y ≤ 2147483647) : hG (zs zC) d mt_255 0 (zargs 0 [.inr (.inr 1826), .inl s, .inl y]) [] H (fun r9 H2 => fr [53, 76, 77, 89, 93, 95, 99, 101] [1847, 1856, 1871, 1872, 1873, 1874, 1875, 1876, 1877, 1878, 1879, 1880, 1881, 1882, 1883, 1884, 1885, 1887, 1888] H H2 ∧ GP H2 ∧ ∃ r0 : Int, r9 = some (.inl r0)) := by
  refine h_rng (fun hrg0 => ?_)
  refine h_run 0 (pc' := 0) (l' := [(0, .inr (.inr 1826)), (1, .inl s), (2, .inl y)]) (st' := []) rfl ?_
  obtain ⟨⟨pb1, pb2, pb3, pb4, pb5⟩, pw1, pw2, pw3, pw4⟩ := (id hP : PW H (H.1 1826 1) (H.1 1826 3) (H.1 1826 8) (H.1 1826 13) (H.1 1826 19))
  refine h_run 2 (pc' := 2) (l' := [(0, .inr (.inr 1826)), (1, .inl s), (2, .inl y)]) (st' := [.inl y, .inl s]) rfl ?_
  refine h_cs (i := 559) (j := 236) (M' := mt_236) (xs := [.inl y, .inl s]) (rest := []) rfl rfl rfl rfl rfl (Nat.le_of_ble_eq_true rfl) (Nat.le_of_ble_eq_true rfl) (by omega) (m_isOutside (by omega) (by omega) (by omega)) ?_
  rintro _ _ ⟨⟨rfl, b1⟩ | ⟨rfl, b1⟩, rfl⟩
  · refine h_run 0 (pc' := 5) (l' := [(0, .inr (.inr 1826)), (1, .inl s), (2, .inl y)]) (st' := [.inl 1]) rfl ?_
    refine h_zeq (off := 8) (t := 13) rfl rfl (by decide) (fun c => absurd c (by decide)) (fun _ => ?_)
    refine h_run 2 (pc' := 32) (l' := [(0, .inr (.inr 1826)), (1, .inl s), (2, .inl y)]) (st' := [.inl (-102)]) rfl ?_
    refine h_reti (x := (-102)) rfl rfl ?_
    exact ⟨(fr_rf _ _ _), hG9, _, rfl⟩
  · refine h_run 0 (pc' := 5) (l' := [(0, .inr (.inr 1826)), (1, .inl s), (2, .inl y)]) (st' := [.inl 0]) rfl ?_
    refine h_zeq (off := 8) (t := 13) rfl rfl (by decide) (fun _ => ?_) (fun c => absurd c (by decide))
    refine h_run 1 (pc' := 14) (l' := [(0, .inr (.inr 1826)), (1, .inl s), (2, .inl y)]) (st' := [.inr (.inr 1826)]) rfl ?_
    have g2 : -2147483648 ≤ (H.1 1826 77) ∧ (H.1 1826 77) ≤ 2147483647 := hrg0.1 1826 13 77 _ .int rfl rfl
    refine h_cv (i := 563) (j := 235) (b := 1826) (M' := mt_235) (xs := []) (rest := []) rfl rfl rfl rfl rfl rfl (Nat.le_of_ble_eq_true rfl) (Nat.le_of_ble_eq_true rfl) (by omega) (m_idle (by omega)) ?_
    rintro _ _ ⟨⟨rfl, b3⟩ | ⟨rfl, b3⟩, rfl⟩
    · have b3x : (H.1 1826 77) = 0 := b3
      refine h_run 0 (pc' := 17) (l' := [(0, .inr (.inr 1826)), (1, .inl s), (2, .inl y)]) (st' := [.inl 1]) rfl ?_
      refine h_zeq (off := 8) (t := 25) rfl rfl (by decide) (fun c => absurd c (by decide)) (fun _ => ?_)
      refine h_run 2 (pc' := 32) (l' := [(0, .inr (.inr 1826)), (1, .inl s), (2, .inl y)]) (st' := [.inl (-103)]) rfl ?_
      refine h_reti (x := (-103)) rfl rfl ?_
      exact ⟨(fr_rf _ _ _), hG9, _, rfl⟩
    · have b3x : (H.1 1826 77) ≠ 0 := b3
      refine h_run 0 (pc' := 17) (l' := [(0, .inr (.inr 1826)), (1, .inl s), (2, .inl y)]) (st' := [.inl 0]) rfl ?_
      refine h_zeq (off := 8) (t := 25) rfl rfl (by decide) (fun _ => ?_) (fun c => absurd c (by decide))
      obtain ⟨n, o, hS, hoo9, hol9, hog9⟩ := GP_SI hP hG9 (by omega)
      obtain ⟨sn, hsn⟩ : ∃ k9 : Nat, s = (k9 : Int) := ⟨(s).toNat, by omega⟩
      rw [show s = (sn : Int) from hsn]
      obtain ⟨qn, hqn⟩ : ∃ k9 : Nat, y = (k9 : Int) := ⟨(y).toNat, by omega⟩
      rw [show y = (qn : Int) from hqn]
      refine h_run 4 (pc' := 29) (l' := [(0, .inr (.inr 1826)), (1, .inl (sn : Int)), (2, .inl (qn : Int))]) (st' := [.inl (-1), .inl (qn : Int), .inl (sn : Int), .inr (.inr 1826)]) rfl ?_
      refine h_cv (i := 635) (j := 256) (b := 1826) (M' := mt_256) (xs := [.inl (-1), .inl (qn : Int), .inl (sn : Int)]) (rest := []) rfl rfl rfl rfl rfl rfl (Nat.le_of_ble_eq_true rfl) (Nat.le_of_ble_eq_true rfl) (by omega) (m_casesAt (n := n) (o := o) (q := qn) (by omega) hS.1 hS.2.1 hS.2.2.1 hS.2.2.2.1 hoo9 (by omega) (by omega) (Or.inl rfl)) ?_
      rintro _ H4 ⟨hfH4, horH4, hvvH4, ((⟨rfl, hOH4⟩ | ⟨rfl, hOH4⟩) | ⟨n2H4, rfl, hnH4, hOH4⟩)⟩
      · refine h_rng (fun hrg5 => ?_)
        have hf6 : fr [53, 76, 77, 89, 93, 95, 99, 101] [1847, 1856, 1871, 1872, 1873, 1874, 1875, 1876, 1877, 1878, 1879, 1880, 1881, 1882, 1883, 1884, 1885, 1887, 1888] H H4 := fr_t (fr_rf _ _ _) hfH4 (by decide) (by decide)
        have hSH4 : SI H4 n := SI_v hS hfH4 (by decide) (by decide) (by decide) hOH4 hvvH4
        have hPFH4 := SI_PF hSH4
        refine h_run 0 (pc' := 32) (l' := [(0, .inr (.inr 1826)), (1, .inl (sn : Int)), (2, .inl (qn : Int))]) (st' := [.inl (-104)]) rfl ?_
        refine h_reti (x := (-104)) rfl rfl ?_
        exact ⟨hf6, PF_GP hPFH4, _, rfl⟩
      · refine h_rng (fun hrg7 => ?_)
        have hf8 : fr [53, 76, 77, 89, 93, 95, 99, 101] [1847, 1856, 1871, 1872, 1873, 1874, 1875, 1876, 1877, 1878, 1879, 1880, 1881, 1882, 1883, 1884, 1885, 1887, 1888] H H4 := fr_t (fr_rf _ _ _) hfH4 (by decide) (by decide)
        have hSH4 : SI H4 n := SI_v hS hfH4 (by decide) (by decide) (by decide) hOH4 hvvH4
        have hPFH4 := SI_PF hSH4
        refine h_run 0 (pc' := 32) (l' := [(0, .inr (.inr 1826)), (1, .inl (sn : Int)), (2, .inl (qn : Int))]) (st' := [.inl (-105)]) rfl ?_
        refine h_reti (x := (-105)) rfl rfl ?_
        exact ⟨hf8, PF_GP hPFH4, _, rfl⟩
      · refine h_rng (fun hrg9 => ?_)
        have hf10 : fr [53, 76, 77, 89, 93, 95, 99, 101] [1847, 1856, 1871, 1872, 1873, 1874, 1875, 1876, 1877, 1878, 1879, 1880, 1881, 1882, 1883, 1884, 1885, 1887, 1888] H H4 := fr_t (fr_rf _ _ _) hfH4 (by decide) (by decide)
        have hPFH4 : PF2 H4 := PF_v hS hfH4 (by decide) (by decide) (by decide) horH4 hvvH4 hnH4 hOH4
        refine h_run 0 (pc' := 32) (l' := [(0, .inr (.inr 1826)), (1, .inl (sn : Int)), (2, .inl (qn : Int))]) (st' := [.inl (n2H4 : Int)]) rfl ?_
        refine h_reti (x := (n2H4 : Int)) rfl rfl ?_
        exact ⟨hf10, PF_GP hPFH4, _, rfl⟩

/-! same -/
set_option maxRecDepth 100000 in
theorem m_same0 {zC : Nat → Option zsh} {d : Nat} (hd : 2 ≤ d) {H : hp}  (hg0 : (H.1 1826 77) = 0) : hG (zs zC) d mt_261 0 (zargs 0 [.inr (.inr 1826)]) [] H (fun r9 H2 => r9 = some (.inl (-103)) ∧ H = H2) := by
  refine h_rng (fun hrg0 => ?_)
  refine h_run 0 (pc' := 0) (l' := [(0, .inr (.inr 1826))]) (st' := []) rfl ?_
  refine h_run 1 (pc' := 1) (l' := [(0, .inr (.inr 1826))]) (st' := [.inr (.inr 1826)]) rfl ?_
  have g1 : -2147483648 ≤ (H.1 1826 77) ∧ (H.1 1826 77) ≤ 2147483647 := hrg0.1 1826 13 77 _ .int rfl rfl
  refine h_cv (i := 563) (j := 235) (b := 1826) (M' := mt_235) (xs := []) (rest := []) rfl rfl rfl rfl rfl rfl (Nat.le_of_ble_eq_true rfl) (Nat.le_of_ble_eq_true rfl) (by omega) (m_idle (by omega)) ?_
  rintro _ _ ⟨⟨rfl, b2⟩ | ⟨rfl, b2⟩, rfl⟩
  · have b2x : (H.1 1826 77) = 0 := b2
    refine h_run 0 (pc' := 4) (l' := [(0, .inr (.inr 1826))]) (st' := [.inl 1]) rfl ?_
    refine h_zeq (off := 6) (t := 10) rfl rfl (by decide) (fun c => absurd c (by decide)) (fun _ => ?_)
    refine h_run 1 (pc' := 9) (l' := [(0, .inr (.inr 1826))]) (st' := [.inl (-103)]) rfl ?_
    refine h_reti (x := (-103)) rfl rfl ?_
    exact ⟨rfl, rfl⟩
  · have b2x : (H.1 1826 77) ≠ 0 := b2
    refine h_run 0 (pc' := 4) (l' := [(0, .inr (.inr 1826))]) (st' := [.inl 0]) rfl ?_
    refine h_zeq (off := 6) (t := 10) rfl rfl (by decide) (fun _ => ?_) (fun c => absurd c (by decide))
    exfalso
    omega

/-! parts -/
set_option maxRecDepth 100000 in
theorem m_parts0 {zC : Nat → Option zsh} {d : Nat} (hd : 2 ≤ d) {H : hp}  (hg0 : (H.1 1826 77) = 0) : hG (zs zC) d mt_262 0 (zargs 0 [.inr (.inr 1826)]) [] H (fun r9 H2 => r9 = some (.inl (-103)) ∧ H = H2) := by
  refine h_rng (fun hrg0 => ?_)
  refine h_run 0 (pc' := 0) (l' := [(0, .inr (.inr 1826))]) (st' := []) rfl ?_
  refine h_run 1 (pc' := 1) (l' := [(0, .inr (.inr 1826))]) (st' := [.inr (.inr 1826)]) rfl ?_
  have g1 : -2147483648 ≤ (H.1 1826 77) ∧ (H.1 1826 77) ≤ 2147483647 := hrg0.1 1826 13 77 _ .int rfl rfl
  refine h_cv (i := 563) (j := 235) (b := 1826) (M' := mt_235) (xs := []) (rest := []) rfl rfl rfl rfl rfl rfl (Nat.le_of_ble_eq_true rfl) (Nat.le_of_ble_eq_true rfl) (by omega) (m_idle (by omega)) ?_
  rintro _ _ ⟨⟨rfl, b2⟩ | ⟨rfl, b2⟩, rfl⟩
  · have b2x : (H.1 1826 77) = 0 := b2
    refine h_run 0 (pc' := 4) (l' := [(0, .inr (.inr 1826))]) (st' := [.inl 1]) rfl ?_
    refine h_zeq (off := 6) (t := 10) rfl rfl (by decide) (fun c => absurd c (by decide)) (fun _ => ?_)
    refine h_run 1 (pc' := 9) (l' := [(0, .inr (.inr 1826))]) (st' := [.inl (-103)]) rfl ?_
    refine h_reti (x := (-103)) rfl rfl ?_
    exact ⟨rfl, rfl⟩
  · have b2x : (H.1 1826 77) ≠ 0 := b2
    refine h_run 0 (pc' := 4) (l' := [(0, .inr (.inr 1826))]) (st' := [.inl 0]) rfl ?_
    refine h_zeq (off := 6) (t := 10) rfl rfl (by decide) (fun _ => ?_) (fun c => absurd c (by decide))
    exfalso
    omega

/-! search -/
set_option maxRecDepth 100000 in
theorem m_search0 {zC : Nat → Option zsh} {d : Nat} (hd : 2 ≤ d) {H : hp} {x : Int} (hg0 : (H.1 1826 77) = 0) (hx : -2147483648 ≤ x ∧ x ≤ 2147483647) : hG (zs zC) d mt_266 0 (zargs 0 [.inr (.inr 1826), .inl x]) [] H (fun r9 H2 => (∃ r0 : Int, r9 = some (.inl r0)) ∧ H = H2) := by
  refine h_rng (fun hrg0 => ?_)
  refine h_run 0 (pc' := 0) (l' := [(0, .inr (.inr 1826)), (1, .inl x)]) (st' := []) rfl ?_
  refine h_run 2 (pc' := 2) (l' := [(0, .inr (.inr 1826)), (1, .inl x)]) (st' := [.inl 1, .inl x]) rfl ?_
  refine h_ilt (off := 10) (t := 12) rfl rfl (by omega) (by decide) (fun c1 => ?_) (fun c1 => ?_)
  · refine h_run 1 (pc' := 14) (l' := [(0, .inr (.inr 1826)), (1, .inl x)]) (st' := [.inl (-102)]) rfl ?_
    refine h_reti (x := (-102)) rfl rfl ?_
    exact ⟨⟨_, rfl⟩, rfl⟩
  · refine h_run 2 (pc' := 9) (l' := [(0, .inr (.inr 1826)), (1, .inl x)]) (st' := [.inl 500, .inl x]) rfl ?_
    refine h_ile (off := 6) (t := 15) rfl rfl (by omega) (by decide) (fun c2 => ?_) (fun c2 => ?_)
    · refine h_run 1 (pc' := 16) (l' := [(0, .inr (.inr 1826)), (1, .inl x)]) (st' := [.inr (.inr 1826)]) rfl ?_
      have g3 : -2147483648 ≤ (H.1 1826 77) ∧ (H.1 1826 77) ≤ 2147483647 := hrg0.1 1826 13 77 _ .int rfl rfl
      refine h_cv (i := 563) (j := 235) (b := 1826) (M' := mt_235) (xs := []) (rest := []) rfl rfl rfl rfl rfl rfl (Nat.le_of_ble_eq_true rfl) (Nat.le_of_ble_eq_true rfl) (by omega) (m_idle (by omega)) ?_
      rintro _ _ ⟨⟨rfl, b4⟩ | ⟨rfl, b4⟩, rfl⟩
      · have b4x : (H.1 1826 77) = 0 := b4
        refine h_run 0 (pc' := 19) (l' := [(0, .inr (.inr 1826)), (1, .inl x)]) (st' := [.inl 1]) rfl ?_
        refine h_zeq (off := 6) (t := 25) rfl rfl (by decide) (fun c => absurd c (by decide)) (fun _ => ?_)
        refine h_run 1 (pc' := 24) (l' := [(0, .inr (.inr 1826)), (1, .inl x)]) (st' := [.inl (-103)]) rfl ?_
        refine h_reti (x := (-103)) rfl rfl ?_
        exact ⟨⟨_, rfl⟩, rfl⟩
      · have b4x : (H.1 1826 77) ≠ 0 := b4
        refine h_run 0 (pc' := 19) (l' := [(0, .inr (.inr 1826)), (1, .inl x)]) (st' := [.inl 0]) rfl ?_
        refine h_zeq (off := 6) (t := 25) rfl rfl (by decide) (fun _ => ?_) (fun c => absurd c (by decide))
        exfalso
        omega
    · refine h_run 1 (pc' := 14) (l' := [(0, .inr (.inr 1826)), (1, .inl x)]) (st' := [.inl (-102)]) rfl ?_
      refine h_reti (x := (-102)) rfl rfl ?_
      exact ⟨⟨_, rfl⟩, rfl⟩
