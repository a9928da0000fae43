/-! the reference's reading against the machine: a text -/
theorem n_nx0 {zC : Nat → Option zsh} {d : Nat} (hd : 3 ≤ d) {H : hp} {Y : yx} {m : Int} {c0 : cf} {K : List tq} {X : rx} (h0 : 0 ≤ (H.1 1826 30) ∧ (H.1 1826 30) ≤ (H.1 1826 29) ∧ (H.1 1826 29) ≤ 1000) (hw : 0 ≤ (H.1 1826 35) ∧ (H.1 1826 35) ≤ 5) (hst : 0 ≤ (H.1 1826 32) ∧ (H.1 1826 32) ≤ 1000) (hw0 : (H.1 1826 35) = 0) (ha : (H.1 1826 30) = 0) (h00 : X 0 0 = 0) (hY : YB Y H) (hT : TA m H X) (hq : rch Y c0 (K, X)) (hK : lkK K) : hG (zs zC) d mt_165 0 (zargs 0 [.inr (.inr 1826)]) [] H (fun r H2 => r = none ∧ GB Y m c0 H2 (RK Y m H2 X) ∧ fr [30, 31, 32, 33, 35, 36] [] H H2 ∧ (H.1 1826 30) ≤ (H2.1 1826 30) ∧ (H2.1 1826 30) ≤ (H.1 1826 29) ∧ (0 ≤ (H2.1 1826 35) ∧ (H2.1 1826 35) ≤ 5) ∧ ((H.1 1826 35) ≠ 0 → (H2.1 1826 35) = (H.1 1826 35)) ∧ (0 ≤ (H2.1 1826 32) ∧ (H2.1 1826 32) ≤ 1000) ∧ ((H2.1 1826 35) = 0 → ((H2.1 1826 31) = 0 ∨ (H.1 1826 30) < (H2.1 1826 30)))) := by
  have hsz := hY.1
  have e1 : skp Y.1 ((H.1 1826 29) - (H.1 1826 30)).toNat ((H.1 1826 30)).toNat = tS Y.1 Y.2 0 := by
    rw [ha, show ((H.1 1826 29) - 0).toNat = Y.2 by omega]
    rfl
  refine h_mono (n_next hd h0 hw hst hw0 hY e1) ?_
  rintro r H2 ⟨hr, hn1, hn2, hn3, hn4, hn5, hn6, hn7, hnew⟩
  have hx : xi X = 0 := by
    unfold xi
    omega
  refine ⟨hr, ?_, hn1, hn2, hn3, hn4, hn5, hn6, hn7⟩
  have hT2 := TA_fr hT hn1 (by decide) (by decide)
  rcases hnew with ⟨q1, q2⟩ | ⟨q1, q2, q3⟩
  · exact Or.inl ⟨q1, q1, YB_fr hY hn1 (by decide) (by decide), by rw [hx]; exact q2, by omega, hT2⟩
  · obtain ⟨X', hX⟩ := bad_tk (Y := Y) (X := X) hK (by rw [hx]; exact q3)
    refine Or.inr ⟨by omega, by omega, ⟨X', ?_⟩, K, X, hq, hT2⟩
    rw [q1, q2]
    have e : ts Y (xi X) = ((tS Y.1 Y.2 0 : Nat) : Int) := by
      unfold ts
      rw [hx]
    rw [← e]
    exact rch_tr hq hX
/-- both tapes hold the same -/
def TB (Y : yx) (H : hp) : Prop := ((H.1 1826 28) = Y.2 ∧ Y.2 ≤ 1000) ∧ ∀ j : Nat, j < Y.2 → z_and ((H.1 1848) j) 255 = Y.1 j
theorem GB_le {Y : yx} {m m' : Int} {c0 : cf} {H : hp} {P Q : Prop} (h : GB Y m c0 H P) (hm : m' ≤ m) (g : P → Q) : GB Y m' c0 H Q := h.imp (fun q => ⟨q.1, g q.2⟩) (fun q => ⟨q.1, BD_le q.2 hm⟩)
/-- what was told before stays -/
theorem TA_back {m : Int} {H K : hp} {X X2 : rx} {ob ar : List Nat} (h : TA m H X2) (j : JB X X2) (hA : AB X) (hm : m ≤ X 0 5) (f : fr ob ar H K) (h1 : ∀ c ∈ [1827, 1828, 1829, 1830, 1831, 1832, 1833, 1834, 1835, 1841], c ∉ ar) (v1 : (K.1 1826 1) = X 0 3) (v2 : (K.1 1826 3) = X 0 4) (v3 : (K.1 1826 8) = X 0 5) (v4 : (K.1 1826 13) = X 0 6) (v5 : (K.1 1826 19) = X 0 7) : TA m K X := by
  obtain ⟨⟨j3, j4, j5, j6, j7⟩, b1, b2, b3, b4⟩ := j
  obtain ⟨a1, a2, a3, a4, a5⟩ := h
  have e : ∀ c ∈ [1827, 1828, 1829, 1830, 1831, 1832, 1833, 1834, 1835, 1841], c ≠ 1826 → K.1 c = H.1 c := fun c hc hn => f.2.1 c hn (h1 c hc)
  unfold TA A1 A2 A3 A4 TF
  rw [e 1827 (by decide) (by decide), e 1828 (by decide) (by decide), e 1829 (by decide) (by decide), e 1830 (by decide) (by decide), e 1831 (by decide) (by decide), e 1832 (by decide) (by decide), e 1833 (by decide) (by decide), e 1834 (by decide) (by decide), e 1835 (by decide) (by decide), e 1841 (by decide) (by decide)]
  refine ⟨⟨v1, fun k hk => ?_⟩, ⟨v2, fun k hk => ?_⟩, ⟨v3, fun k hk => ?_⟩, ⟨⟨v4, v5⟩, fun k hk => ?_⟩, fun k hk => ?_⟩
  · rw [a1.2 k (by omega), b1 k hk]
  · obtain ⟨c1, c2, c3, c4⟩ := a2.2 k (by omega)
    obtain ⟨d1, d2, d3, d4⟩ := b2 k hk
    have := hA.1 k hk
    exact ⟨by rw [c1, d1], by rw [c2, d2], by rw [c3, d3], fun a ha => by rw [c4 a (by omega), d4 a (by omega)]⟩
  · obtain ⟨c1, c3, c4⟩ := a3.2 k (by omega)
    obtain ⟨d1, d2, d3, d4⟩ := b3 k hk
    have := hA.2 k hk
    exact ⟨by rw [c1, d1], by rw [c3, d3], fun a ha => by rw [c4 a (by omega), d4 a (by omega)]⟩
  · rw [a4.2 k (by omega), b4 k hk]
  · rw [a5 k hk, (b3 k (by omega)).2.1]
/-- what read() says, told by the machine -/
def RQ9 (Y : yx) (X : rx) (z : Int) (H : hp) : Prop := (∃ X1, rch Y ([(6, 0, 0, 0)], X) ([], xu X1 0 9 z) ∧ TA (H.1 1826 8) H X1) ∨ ∃ Xf k p, rch Y ([(6, 0, 0, 0)], X) ([(0, k, p, 0)], Xf) ∧ z = -1000 - p ∧ (H.1 1826 34) = k ∧ TA (H.1 1826 8) H X

/-! openTape -/
set_option maxRecDepth 100000 in
theorem n_openTape {zC : Nat → Option zsh} {d : Nat} (hd : 4 ≤ d) {H : hp}  {Y : yx} {m : Int} {c0 : cf} {K : List tq} {X : rx} (ht : 0 ≤ (H.1 1826 28) ∧ (H.1 1826 28) ≤ 1000) (hst : 0 ≤ (H.1 1826 32) ∧ (H.1 1826 32) ≤ 1000) (hB : TB Y H) (h00 : X 0 0 = 0) (hT : TA m H X) (hq : rch Y c0 (K, X)) (hK : lkK K) : hG (zs zC) d mt_191 0 (zargs 0 [.inr (.inr 1826)]) [] H (fun r H2 => r = none ∧ GB Y m c0 H2 (RK Y m H2 X) ∧ fr [30, 31, 32, 33, 35, 36, 28, 29] [] H H2 ∧ ((H2.1 1826 28) = 0 ∧ (H2.1 1826 29) = (H.1 1826 28)) ∧ (0 ≤ (H2.1 1826 30) ∧ (H2.1 1826 30) ≤ (H2.1 1826 29)) ∧ (0 ≤ (H2.1 1826 35) ∧ (H2.1 1826 35) ≤ 5) ∧ (0 ≤ (H2.1 1826 32) ∧ (H2.1 1826 32) ≤ 1000)) := by
  refine h_rng (fun hrg0 => ?_)
  refine h_run 0 (pc' := 0) (l' := [(0, .inr (.inr 1826))]) (st' := []) rfl ?_
  have hB1 := hB.1
  refine h_run 3 (pc' := 5) (l' := [(0, .inr (.inr 1826))]) (st' := [.inl (H.1 1826 28), .inr (.inr 1826)]) rfl ?_
  have g1 : -2147483648 ≤ (H.1 1826 28) ∧ (H.1 1826 28) ≤ 2147483647 := hrg0.1 1826 13 28 _ .int rfl rfl
  refine h_puti (i := 264) (ci := 13) (k := 29) (a := 1826) (x := (H.1 1826 28)) rfl rfl rfl rfl rfl rfl (by decide) (by omega) ?_
  refine h_run 2 (pc' := 10) (l' := [(0, .inr (.inr 1826))]) (st' := [.inl 0, .inr (.inr 1826)]) rfl ?_
  refine h_puti (i := 393) (ci := 13) (k := 28) (a := 1826) (x := 0) rfl rfl rfl rfl rfl rfl (by decide) (by decide) ?_
  refine h_run 2 (pc' := 15) (l' := [(0, .inr (.inr 1826))]) (st' := [.inl 0, .inr (.inr 1826)]) rfl ?_
  refine h_puti (i := 261) (ci := 13) (k := 30) (a := 1826) (x := 0) rfl rfl rfl rfl rfl rfl (by decide) (by decide) ?_
  refine h_run 2 (pc' := 20) (l' := [(0, .inr (.inr 1826))]) (st' := [.inl 0, .inr (.inr 1826)]) rfl ?_
  refine h_puti (i := 248) (ci := 13) (k := 35) (a := 1826) (x := 0) rfl rfl rfl rfl rfl rfl (by decide) (by decide) ?_
  refine h_run 1 (pc' := 24) (l' := [(0, .inr (.inr 1826))]) (st' := [.inr (.inr 1826)]) rfl ?_
  have g2 : -2147483648 ≤ (H.1 1826 32) ∧ (H.1 1826 32) ≤ 2147483647 := hrg0.1 1826 13 32 _ .int rfl rfl
  refine h_cv (i := 297) (j := 165) (b := 1826) (M' := mt_165) (xs := []) (rest := []) rfl rfl rfl rfl rfl rfl (Nat.le_of_ble_eq_true rfl) (Nat.le_of_ble_eq_true rfl) (by omega) (n_nx0 (by omega) (by omega : 0 ≤ (0 : Int) ∧ (0 : Int) ≤ (H.1 1826 28) ∧ (H.1 1826 28) ≤ 1000) (by omega : 0 ≤ (0 : Int) ∧ (0 : Int) ≤ 5) (by omega : 0 ≤ (H.1 1826 32) ∧ (H.1 1826 32) ≤ 1000) (by omega : (0 : Int) = 0) rfl h00 ⟨⟨(by omega : (H.1 1826 28) = (Y.2 : Int)), hB.1.2⟩, hB.2⟩ (TA_fr hT (fr_o (fr_o (fr_o (fr_o (fr_rf [28, 29, 30, 35] [] H) (by decide)) (by decide)) (by decide)) (by decide)) (by decide) (by decide)) hq hK) ?_
  rintro _ H3 ⟨rfl, hx3n, hx3f, hx3a, hx3b, hx3c, -, hx3e, hx3g⟩
  refine h_rng (fun hrg4 => ?_)
  have hf5 : fr [30, 31, 32, 33, 35, 36, 28, 29] [] H H3 := fr_t (fr_o (fr_o (fr_o (fr_o (fr_rf _ _ _) (by decide)) (by decide)) (by decide)) (by decide)) hx3f (by decide) (by decide)
  replace hx3a : (0 : Int) ≤ (H3.1 1826 30) := hx3a
  replace hx3b : (H3.1 1826 30) ≤ (H.1 1826 28) := hx3b
  replace hx3g : (H3.1 1826 35) = 0 → ((H3.1 1826 31) = 0 ∨ (0 : Int) < (H3.1 1826 30)) := hx3g
  refine h_run 0 (pc' := 27) (l' := [(0, .inr (.inr 1826))]) (st' := []) rfl ?_
  refine h_ret rfl rfl ?_
  have g6 : -2147483648 ≤ (H3.1 1826 28) ∧ (H3.1 1826 28) ≤ 2147483647 := hrg4.1 1826 13 28 _ .int rfl rfl
  have e7 : (H3.1 1826 28) = 0 := hx3f.2.2 28 (by decide)
  have g8 : -2147483648 ≤ (H3.1 1826 29) ∧ (H3.1 1826 29) ≤ 2147483647 := hrg4.1 1826 13 29 _ .int rfl rfl
  have e9 : (H3.1 1826 29) = (H.1 1826 28) := hx3f.2.2 29 (by decide)
  have g10 : -2147483648 ≤ (H3.1 1826 30) ∧ (H3.1 1826 30) ≤ 2147483647 := hrg4.1 1826 13 30 _ .int rfl rfl
  have g11 : -2147483648 ≤ (H3.1 1826 35) ∧ (H3.1 1826 35) ≤ 2147483647 := hrg4.1 1826 13 35 _ .int rfl rfl
  have g12 : -2147483648 ≤ (H3.1 1826 32) ∧ (H3.1 1826 32) ≤ 2147483647 := hrg4.1 1826 13 32 _ .int rfl rfl
  exact ⟨rfl, hx3n, hf5, (by omega : (H3.1 1826 28) = 0 ∧ (H3.1 1826 29) = (H.1 1826 28)), (by omega : 0 ≤ (H3.1 1826 30) ∧ (H3.1 1826 30) ≤ (H3.1 1826 29)), (by omega : 0 ≤ (H3.1 1826 35) ∧ (H3.1 1826 35) ≤ 5), (by omega : 0 ≤ (H3.1 1826 32) ∧ (H3.1 1826 32) ≤ 1000)⟩

/-! read -/
set_option maxRecDepth 100000 in
theorem n_read_cut {zC : Nat → Option zsh} {d : Nat} (hd : 10 ≤ d) {H : hp} {Y : yx} {X : rx} (ht : 0 ≤ (H.1 1826 28) ∧ (H.1 1826 28) ≤ 1000) (hst : 0 ≤ (H.1 1826 32) ∧ (H.1 1826 32) ≤ 1000) (hP : PWc H) (hB : TB Y H) (h00 : X 0 0 = 0) (hT : TA (H.1 1826 8) H X) (hA : AB X) (hP0 : P0 X) (hN0 : NN X) : ∀ w : Nat, (∀ (H1 : hp) (dc : Int), (fr [1, 3, 8, 13, 19, 28, 29, 30, 31, 32, 33, 34, 35, 36, 39, 40, 41, 43, 44, 47, 74, 76, 77] [1827, 1828, 1829, 1830, 1831, 1832, 1833, 1834, 1835, 1836, 1837, 1838, 1839, 1840, 1841, 1842, 1843, 1844, 1845, 1846, 1847, 1849, 1850, 1851, 1852, 1853, 1854] H H1) → (0 ≤ (H1.1 1826 30) ∧ (H1.1 1826 30) ≤ (H1.1 1826 29) ∧ (H1.1 1826 29) ≤ 1000) → (0 ≤ (H1.1 1826 35) ∧ (H1.1 1826 35) ≤ 5) → (0 ≤ (H1.1 1826 32) ∧ (H1.1 1826 32) ≤ 1000) → ((H1.1 1826 28) = 0) → ((H1.1 1826 77) = (H.1 1826 77) ∧ (H1.1 1826 74) = (H.1 1826 74) ∧ (H1.1 1826 67) = (H.1 1826 67)) → (agp H H1) → ((H1.1 1826 35) = 0 → PWc H1) → (GB Y (H.1 1826 8) ([(6, 0, 0, 0)], X) H1 (∃ X1 : rx, rch Y ([(6, 0, 0, 0)], X) ([(6, dc, 0, 0)], X1) ∧ RK Y (H1.1 1826 8) H1 X1)) → mu (H1.1 1826 35) (H1.1 1826 31) (H1.1 1826 30) (H1.1 1826 29) + 1000 < w → hG (zs zC) d mt_192 34 [(0, .inr (.inr 1826)), (1, .inl (H.1 1826 1)), (2, .inl (H.1 1826 3)), (3, .inl (H.1 1826 8)), (4, .inl (H.1 1826 13)), (5, .inl (H.1 1826 19)), (6, .inl dc)] [] H1 (fun r H2 => (∃ r0 : Int, r = some (.inl r0) ∧ RQ9 Y X r0 H2) ∧ fr [1, 3, 8, 13, 19, 28, 29, 30, 31, 32, 33, 34, 35, 36, 39, 40, 41, 43, 44, 47, 74, 76, 77] [1827, 1828, 1829, 1830, 1831, 1832, 1833, 1834, 1835, 1836, 1837, 1838, 1839, 1840, 1841, 1842, 1843, 1844, 1845, 1846, 1847, 1849, 1850, 1851, 1852, 1853, 1854] H H2 ∧ (H2.1 1826 28) = 0 ∧ (0 ≤ (H2.1 1826 32) ∧ (H2.1 1826 32) ≤ 1000) ∧ agp H H2 ∧ PWc H2 ∧ ((H2.1 1826 77) = 0 ∨ ((H2.1 1826 77) = (H.1 1826 77) ∧ (H2.1 1826 74) = (H.1 1826 74) ∧ (H2.1 1826 19) = (H.1 1826 19) ∧ (H2.1 1826 3) = (H.1 1826 3) ∧ (H2.1 1826 8) = (H.1 1826 8))))) ∧ (∀ (H1 : hp) (dc : Int) (i : Nat), (fr [1, 3, 8, 13, 19, 28, 29, 30, 31, 32, 33, 34, 35, 36, 39, 40, 41, 43, 44, 47, 74, 76, 77] [1827, 1828, 1829, 1830, 1831, 1832, 1833, 1834, 1835, 1836, 1837, 1838, 1839, 1840, 1841, 1842, 1843, 1844, 1845, 1846, 1847, 1849, 1850, 1851, 1852, 1853, 1854] H H1) → (0 ≤ (H1.1 1826 30) ∧ (H1.1 1826 30) ≤ (H1.1 1826 29) ∧ (H1.1 1826 29) ≤ 1000) → (0 ≤ (H1.1 1826 35) ∧ (H1.1 1826 35) ≤ 5) → (0 ≤ (H1.1 1826 32) ∧ (H1.1 1826 32) ≤ 1000) → ((H1.1 1826 28) = 0) → ((H1.1 1826 77) = (H.1 1826 77) ∧ (H1.1 1826 74) = (H.1 1826 74) ∧ (H1.1 1826 67) = (H.1 1826 67)) → (agp H H1) → (PWc H1) → (i ≤ 16) → (∃ X1 : rx, rch Y ([(6, 0, 0, 0)], X) ([], xu X1 0 9 dc) ∧ TA (H1.1 1826 8) H1 X1) → 16 - i < w → hG (zs zC) d mt_192 206 [(0, .inr (.inr 1826)), (4, .inl (H.1 1826 13)), (6, .inl dc), (7, .inl (i : Int))] [] H1 (fun r H2 => (∃ r0 : Int, r = some (.inl r0) ∧ RQ9 Y X r0 H2) ∧ fr [1, 3, 8, 13, 19, 28, 29, 30, 31, 32, 33, 34, 35, 36, 39, 40, 41, 43, 44, 47, 74, 76, 77] [1827, 1828, 1829, 1830, 1831, 1832, 1833, 1834, 1835, 1836, 1837, 1838, 1839, 1840, 1841, 1842, 1843, 1844, 1845, 1846, 1847, 1849, 1850, 1851, 1852, 1853, 1854] H H2 ∧ (H2.1 1826 28) = 0 ∧ (0 ≤ (H2.1 1826 32) ∧ (H2.1 1826 32) ≤ 1000) ∧ agp H H2 ∧ PWc H2 ∧ ((H2.1 1826 77) = 0 ∨ ((H2.1 1826 77) = (H.1 1826 77) ∧ (H2.1 1826 74) = (H.1 1826 74) ∧ (H2.1 1826 19) = (H.1 1826 19) ∧ (H2.1 1826 3) = (H.1 1826 3) ∧ (H2.1 1826 8) = (H.1 1826 8))))) := by
  intro w
  induction w with
  | zero => exact ⟨fun _ _ _ _ _ _ _ _ _ _ _ h => absurd h (Nat.not_lt_zero _), fun _ _ _ _ _ _ _ _ _ _ _ _ _ h => absurd h (Nat.not_lt_zero _)⟩
  | succ w ih =>
    refine ⟨?_, ?_⟩
    · intro H1 dc hf ha hk hst1 htp hgl hag hP1 hRG hw
      refine h_rng (fun hrg1 => ?_)
      obtain ⟨⟨pb1, pb2, pb3, pb4, pb5⟩, pw1, pw2, pw3, pw4⟩ := (id hP : PW H (H.1 1826 1) (H.1 1826 3) (H.1 1826 8) (H.1 1826 13) (H.1 1826 19))
      have hmf : (H.1 1826 8) ≤ (H1.1 1826 8) := hag.1.2.2.1
      refine h_run 1 (pc' := 35) (l' := [(0, .inr (.inr 1826)), (1, .inl (H.1 1826 1)), (2, .inl (H.1 1826 3)), (3, .inl (H.1 1826 8)), (4, .inl (H.1 1826 13)), (5, .inl (H.1 1826 19)), (6, .inl dc)]) (st' := [.inr (.inr 1826)]) rfl ?_
      have g2 : -2147483648 ≤ (H1.1 1826 35) ∧ (H1.1 1826 35) ≤ 2147483647 := hrg1.1 1826 13 35 _ .int rfl rfl
      refine h_cv (i := 293) (j := 158) (b := 1826) (M' := mt_158) (xs := []) (rest := []) rfl rfl rfl rfl rfl rfl (Nat.le_of_ble_eq_true rfl) (Nat.le_of_ble_eq_true rfl) (by omega) (m_good (by omega)) ?_
      rintro _ _ ⟨⟨rfl, b3⟩ | ⟨rfl, b3⟩, rfl⟩
      · have b3x : (H1.1 1826 35) = 0 := b3
        refine h_run 0 (pc' := 38) (l' := [(0, .inr (.inr 1826)), (1, .inl (H.1 1826 1)), (2, .inl (H.1 1826 3)), (3, .inl (H.1 1826 8)), (4, .inl (H.1 1826 13)), (5, .inl (H.1 1826 19)), (6, .inl dc)]) (st' := [.inl 1]) rfl ?_
        refine h_zeq (off := 114) (t := 152) rfl rfl (by decide) (fun c => absurd c (by decide)) (fun _ => ?_)
        obtain ⟨X1, hq1, hR1⟩ := GB_g hRG (by omega)
        have htk1 := RK_t hR1
        refine h_run 2 (pc' := 45) (l' := [(0, .inr (.inr 1826)), (1, .inl (H.1 1826 1)), (2, .inl (H.1 1826 3)), (3, .inl (H.1 1826 8)), (4, .inl (H.1 1826 13)), (5, .inl (H.1 1826 19)), (6, .inl dc)]) (st' := [.inl (H1.1 1826 31)]) rfl ?_
        have g4 : -2147483648 ≤ (H1.1 1826 31) ∧ (H1.1 1826 31) ≤ 2147483647 := hrg1.1 1826 13 31 _ .int rfl rfl
        refine h_zeq (off := 107) (t := 152) rfl rfl (by omega) (fun c5 => ?_) (fun c5 => ?_)
        · refine h_run 1 (pc' := 153) (l' := [(0, .inr (.inr 1826)), (1, .inl (H.1 1826 1)), (2, .inl (H.1 1826 3)), (3, .inl (H.1 1826 8)), (4, .inl (H.1 1826 13)), (5, .inl (H.1 1826 19)), (6, .inl dc)]) (st' := [.inr (.inr 1826)]) rfl ?_
          refine h_cv (i := 293) (j := 158) (b := 1826) (M' := mt_158) (xs := []) (rest := []) rfl rfl rfl rfl rfl rfl (Nat.le_of_ble_eq_true rfl) (Nat.le_of_ble_eq_true rfl) (by omega) (m_good1 (by omega) (by omega : (H1.1 1826 35) = 0)) ?_
          rintro _ _ ⟨rfl, rfl⟩
          refine h_run 0 (pc' := 156) (l' := [(0, .inr (.inr 1826)), (1, .inl (H.1 1826 1)), (2, .inl (H.1 1826 3)), (3, .inl (H.1 1826 8)), (4, .inl (H.1 1826 13)), (5, .inl (H.1 1826 19)), (6, .inl dc)]) (st' := [.inl 1]) rfl ?_
          refine h_zne (off := 47) (t := 203) rfl rfl (by decide) (fun _ => ?_) (fun c => absurd c (by decide))
          have hqe : rch Y ([(6, 0, 0, 0)], X) ([], xu X1 0 9 dc) := rch_st hq1 (by show stDec Y dc [] X1 = _; unfold stDec; (repeat (first | rw [if_pos (by omega)] | rw [if_neg (by omega)])); try (first | rfl | (exfalso; omega)))
          refine h_run 2 (pc' := 206) (l' := [(0, .inr (.inr 1826)), (1, .inl (H.1 1826 1)), (2, .inl (H.1 1826 3)), (3, .inl (H.1 1826 8)), (4, .inl (H.1 1826 13)), (5, .inl (H.1 1826 19)), (6, .inl dc), (7, .inl 0)]) (st' := []) rfl ?_
          have g6 : -2147483648 ≤ (H1.1 1826 30) ∧ (H1.1 1826 30) ≤ 2147483647 := hrg1.1 1826 13 30 _ .int rfl rfl
          have g7 : -2147483648 ≤ (H1.1 1826 32) ∧ (H1.1 1826 32) ≤ 2147483647 := hrg1.1 1826 13 32 _ .int rfl rfl
          have g8 : -2147483648 ≤ (H1.1 1826 29) ∧ (H1.1 1826 29) ≤ 2147483647 := hrg1.1 1826 13 29 _ .int rfl rfl
          have g9 : -2147483648 ≤ (H1.1 1826 28) ∧ (H1.1 1826 28) ≤ 2147483647 := hrg1.1 1826 13 28 _ .int rfl rfl
          have g10 : -2147483648 ≤ (H1.1 1826 77) ∧ (H1.1 1826 77) ≤ 2147483647 := hrg1.1 1826 13 77 _ .int rfl rfl
          have g11 : -2147483648 ≤ (H1.1 1826 74) ∧ (H1.1 1826 74) ≤ 2147483647 := hrg1.1 1826 13 74 _ .int rfl rfl
          have g12 : -2147483648 ≤ (H1.1 1826 67) ∧ (H1.1 1826 67) ≤ 2147483647 := hrg1.1 1826 13 67 _ .int rfl rfl
          have e13 : (H1.1 1826 67) = (H.1 1826 67) := hf.2.2 67 (by decide)
          refine h_loc [0, 4, 6, 7] rfl ?_
          exact ih.2 _ dc 0 hf (by omega : 0 ≤ (H1.1 1826 30) ∧ (H1.1 1826 30) ≤ (H1.1 1826 29) ∧ (H1.1 1826 29) ≤ 1000) (by omega : 0 ≤ (H1.1 1826 35) ∧ (H1.1 1826 35) ≤ 5) (by omega : 0 ≤ (H1.1 1826 32) ∧ (H1.1 1826 32) ≤ 1000) (by omega : (H1.1 1826 28) = 0) (by omega : (H1.1 1826 77) = (H.1 1826 77) ∧ (H1.1 1826 74) = (H.1 1826 74) ∧ (H1.1 1826 67) = (H.1 1826 67)) hag (hP1 (by omega)) (by omega) ⟨X1, hqe, hR1.2.2.2.2⟩ (by omega : 16 - 0 < w)
        · refine h_run 2 (pc' := 52) (l' := [(0, .inr (.inr 1826)), (1, .inl (H.1 1826 1)), (2, .inl (H.1 1826 3)), (3, .inl (H.1 1826 8)), (4, .inl (H.1 1826 13)), (5, .inl (H.1 1826 19)), (6, .inl dc)]) (st' := [.inl (H1.1 1826 31)]) rfl ?_
          refine h_run 1 (pc' := 53) (l' := [(0, .inr (.inr 1826)), (1, .inl (H.1 1826 1)), (2, .inl (H.1 1826 3)), (3, .inl (H.1 1826 8)), (4, .inl (H.1 1826 13)), (5, .inl (H.1 1826 19)), (6, .inl dc)]) (st' := [.inl 3, .inl (H1.1 1826 31)]) rfl ?_
          refine h_ine (off := 10) (t := 63) rfl rfl (by omega) (by decide) (fun c14 => ?_) (fun c14 => ?_)
          · refine h_run 2 (pc' := 67) (l' := [(0, .inr (.inr 1826)), (1, .inl (H.1 1826 1)), (2, .inl (H.1 1826 3)), (3, .inl (H.1 1826 8)), (4, .inl (H.1 1826 13)), (5, .inl (H.1 1826 19)), (6, .inl dc)]) (st' := [.inl (H1.1 1826 31)]) rfl ?_
            refine h_run 1 (pc' := 68) (l' := [(0, .inr (.inr 1826)), (1, .inl (H.1 1826 1)), (2, .inl (H.1 1826 3)), (3, .inl (H.1 1826 8)), (4, .inl (H.1 1826 13)), (5, .inl (H.1 1826 19)), (6, .inl dc)]) (st' := [.inl 4, .inl (H1.1 1826 31)]) rfl ?_
            refine h_ine (off := 10) (t := 78) rfl rfl (by omega) (by decide) (fun c15 => ?_) (fun c15 => ?_)
            · refine h_run 2 (pc' := 82) (l' := [(0, .inr (.inr 1826)), (1, .inl (H.1 1826 1)), (2, .inl (H.1 1826 3)), (3, .inl (H.1 1826 8)), (4, .inl (H.1 1826 13)), (5, .inl (H.1 1826 19)), (6, .inl dc)]) (st' := [.inl (H1.1 1826 31)]) rfl ?_
              refine h_run 1 (pc' := 83) (l' := [(0, .inr (.inr 1826)), (1, .inl (H.1 1826 1)), (2, .inl (H.1 1826 3)), (3, .inl (H.1 1826 8)), (4, .inl (H.1 1826 13)), (5, .inl (H.1 1826 19)), (6, .inl dc)]) (st' := [.inl 5, .inl (H1.1 1826 31)]) rfl ?_
              refine h_ine (off := 10) (t := 93) rfl rfl (by omega) (by decide) (fun c16 => ?_) (fun c16 => ?_)
              · refine h_run 2 (pc' := 97) (l' := [(0, .inr (.inr 1826)), (1, .inl (H.1 1826 1)), (2, .inl (H.1 1826 3)), (3, .inl (H.1 1826 8)), (4, .inl (H.1 1826 13)), (5, .inl (H.1 1826 19)), (6, .inl dc)]) (st' := [.inl (H1.1 1826 31)]) rfl ?_
                refine h_run 1 (pc' := 99) (l' := [(0, .inr (.inr 1826)), (1, .inl (H.1 1826 1)), (2, .inl (H.1 1826 3)), (3, .inl (H.1 1826 8)), (4, .inl (H.1 1826 13)), (5, .inl (H.1 1826 19)), (6, .inl dc)]) (st' := [.inl 6, .inl (H1.1 1826 31)]) rfl ?_
                refine h_ine (off := 10) (t := 109) rfl rfl (by omega) (by decide) (fun c17 => ?_) (fun c17 => ?_)
                · refine h_run 2 (pc' := 111) (l' := [(0, .inr (.inr 1826)), (1, .inl (H.1 1826 1)), (2, .inl (H.1 1826 3)), (3, .inl (H.1 1826 8)), (4, .inl (H.1 1826 13)), (5, .inl (H.1 1826 19)), (6, .inl dc)]) (st' := [.inl 2, .inr (.inr 1826)]) rfl ?_
                  refine h_cv (i := 278) (j := 159) (b := 1826) (M' := mt_159) (xs := [.inl 2]) (rest := []) rfl rfl rfl rfl rfl rfl (Nat.le_of_ble_eq_true rfl) (Nat.le_of_ble_eq_true rfl) (by omega) (m_bad0 (by omega) (by omega) (by omega : (H1.1 1826 35) = 0)) ?_
                  rintro _ _ ⟨rfl, rfl⟩
                  refine h_run 0 (pc' := 114) (l' := [(0, .inr (.inr 1826)), (1, .inl (H.1 1826 1)), (2, .inl (H.1 1826 3)), (3, .inl (H.1 1826 8)), (4, .inl (H.1 1826 13)), (5, .inl (H.1 1826 19)), (6, .inl dc)]) (st' := []) rfl ?_
                  refine h_run 1 (pc' := 115) (l' := [(0, .inr (.inr 1826)), (1, .inl (H.1 1826 1)), (2, .inl (H.1 1826 3)), (3, .inl (H.1 1826 8)), (4, .inl (H.1 1826 13)), (5, .inl (H.1 1826 19)), (6, .inl dc)]) (st' := [.inr (.inr 1826)]) rfl ?_
                  refine h_cv (i := 293) (j := 158) (b := 1826) (M' := mt_158) (xs := []) (rest := []) rfl rfl rfl rfl rfl rfl (Nat.le_of_ble_eq_true rfl) (Nat.le_of_ble_eq_true rfl) (by omega) (m_good0 (by omega) (by omega : (2 : Int) ≠ 0)) ?_
                  rintro _ _ ⟨rfl, rfl⟩
                  refine h_run 0 (pc' := 118) (l' := [(0, .inr (.inr 1826)), (1, .inl (H.1 1826 1)), (2, .inl (H.1 1826 3)), (3, .inl (H.1 1826 8)), (4, .inl (H.1 1826 13)), (5, .inl (H.1 1826 19)), (6, .inl dc)]) (st' := [.inl 0]) rfl ?_
                  refine h_zeq (off := 17) (t := 135) rfl rfl (by decide) (fun _ => ?_) (fun c => absurd c (by decide))
                  refine h_run 1 (pc' := 136) (l' := [(0, .inr (.inr 1826)), (1, .inl (H.1 1826 1)), (2, .inl (H.1 1826 3)), (3, .inl (H.1 1826 8)), (4, .inl (H.1 1826 13)), (5, .inl (H.1 1826 19)), (6, .inl dc)]) (st' := [.inr (.inr 1826)]) rfl ?_
                  refine h_cv (i := 293) (j := 158) (b := 1826) (M' := mt_158) (xs := []) (rest := []) rfl rfl rfl rfl rfl rfl (Nat.le_of_ble_eq_true rfl) (Nat.le_of_ble_eq_true rfl) (by omega) (m_good0 (by omega) (by omega : (2 : Int) ≠ 0)) ?_
                  rintro _ _ ⟨rfl, rfl⟩
                  refine h_run 0 (pc' := 139) (l' := [(0, .inr (.inr 1826)), (1, .inl (H.1 1826 1)), (2, .inl (H.1 1826 3)), (3, .inl (H.1 1826 8)), (4, .inl (H.1 1826 13)), (5, .inl (H.1 1826 19)), (6, .inl dc)]) (st' := [.inl 0]) rfl ?_
                  refine h_zeq (off := -105) (t := 34) rfl rfl (by decide) (fun _ => ?_) (fun c => absurd c (by decide))
                  have g18 : -2147483648 ≤ (H1.1 1826 30) ∧ (H1.1 1826 30) ≤ 2147483647 := hrg1.1 1826 13 30 _ .int rfl rfl
                  have g19 : -2147483648 ≤ (H1.1 1826 32) ∧ (H1.1 1826 32) ≤ 2147483647 := hrg1.1 1826 13 32 _ .int rfl rfl
                  have g20 : -2147483648 ≤ (H1.1 1826 29) ∧ (H1.1 1826 29) ≤ 2147483647 := hrg1.1 1826 13 29 _ .int rfl rfl
                  have g21 : -2147483648 ≤ (H1.1 1826 28) ∧ (H1.1 1826 28) ≤ 2147483647 := hrg1.1 1826 13 28 _ .int rfl rfl
                  have g22 : -2147483648 ≤ (H1.1 1826 77) ∧ (H1.1 1826 77) ≤ 2147483647 := hrg1.1 1826 13 77 _ .int rfl rfl
                  have g23 : -2147483648 ≤ (H1.1 1826 74) ∧ (H1.1 1826 74) ≤ 2147483647 := hrg1.1 1826 13 74 _ .int rfl rfl
                  have g24 : -2147483648 ≤ (H1.1 1826 67) ∧ (H1.1 1826 67) ≤ 2147483647 := hrg1.1 1826 13 67 _ .int rfl rfl
                  have e25 : (H1.1 1826 67) = (H.1 1826 67) := hf.2.2 67 (by decide)
                  exact ih.1 _ dc (fr_o (fr_o hf (by decide)) (by decide)) (by omega : 0 ≤ (H1.1 1826 30) ∧ (H1.1 1826 30) ≤ (H1.1 1826 29) ∧ (H1.1 1826 29) ≤ 1000) (by omega : 0 ≤ (2 : Int) ∧ (2 : Int) ≤ 5) (by omega : 0 ≤ (H1.1 1826 32) ∧ (H1.1 1826 32) ≤ 1000) (by omega : (H1.1 1826 28) = 0) (by omega : (H1.1 1826 77) = (H.1 1826 77) ∧ (H1.1 1826 74) = (H.1 1826 74) ∧ (H1.1 1826 67) = (H.1 1826 67)) (agp_o (agp_o hag (by decide)) (by decide)) (fun (q : (2 : Int) = 0) => absurd q (by omega)) (Or.inr ⟨(by omega : (2 : Int) ≠ 0), BD_le (BD_mk hR1 (fr_o (fr_o (fr_rf [35, 36] [] H1) (by decide)) (by decide)) (by decide) (by decide) (by decide : (2 : Int) ≠ 0) rfl rfl (rch_st hq1 (by show stDec Y dc [] X1 = _; unfold stDec miss; (repeat (first | rw [if_pos (by omega)] | rw [if_neg (by omega)])); try (first | rfl | (exfalso; omega))))) hmf⟩) (mu_lt2 hw (by omega : (H1.1 1826 35) = 0) (by omega : (H1.1 1826 29) = (H1.1 1826 29)) (by omega : (2 : Int) ≠ 0 ∨ ((H1.1 1826 30) ≤ (H1.1 1826 30) ∧ (H1.1 1826 30) ≤ (H1.1 1826 29) ∧ (((H1.1 1826 31) = 0 ∧ (H1.1 1826 31) ≠ 0) ∨ (H1.1 1826 30) < (H1.1 1826 30)))))
                · refine h_run 1 (pc' := 103) (l' := [(0, .inr (.inr 1826)), (1, .inl (H.1 1826 1)), (2, .inl (H.1 1826 3)), (3, .inl (H.1 1826 8)), (4, .inl (H.1 1826 13)), (5, .inl (H.1 1826 19)), (6, .inl dc)]) (st' := [.inr (.inr 1826)]) rfl ?_
                  have g26 : -2147483648 ≤ (H1.1 1826 30) ∧ (H1.1 1826 30) ≤ 2147483647 := hrg1.1 1826 13 30 _ .int rfl rfl
                  have g27 : -2147483648 ≤ (H1.1 1826 29) ∧ (H1.1 1826 29) ≤ 2147483647 := hrg1.1 1826 13 29 _ .int rfl rfl
                  have g28 : -2147483648 ≤ (H1.1 1826 8) ∧ (H1.1 1826 8) ≤ 2147483647 := hrg1.1 1826 13 8 _ .int rfl rfl
                  have g30 : -2147483648 ≤ (H1.1 1826 32) ∧ (H1.1 1826 32) ≤ 2147483647 := hrg1.1 1826 13 32 _ .int rfl rfl
                  refine h_cv (i := 408) (j := 187) (b := 1826) (M' := mt_187) (xs := []) (rest := []) rfl rfl rfl rfl rfl rfl (Nat.le_of_ble_eq_true rfl) (Nat.le_of_ble_eq_true rfl) (by omega) (n_tellLaw (by omega) (by omega : 0 ≤ (H1.1 1826 30) ∧ (H1.1 1826 30) ≤ (H1.1 1826 29) ∧ (H1.1 1826 29) ≤ 1000) (by omega : 0 ≤ (H1.1 1826 35) ∧ (H1.1 1826 35) ≤ 5) (by omega : 0 ≤ (H1.1 1826 32) ∧ (H1.1 1826 32) ≤ 1000) (hP1 (by omega : (H1.1 1826 35) = 0)) (by omega : (H1.1 1826 35) = 0) hR1 (by omega : (H1.1 1826 8) = (H1.1 1826 8)) hq1 (by omega : tk Y (xi X1) = 7)) ?_
                  rintro _ H29 ⟨rfl, hx29n, hx29f, hx29a, hx29c, -, hx29e, hx29g, hx29p⟩
                  refine h_rng (fun hrg31 => ?_)
                  have hf32 : fr [1, 3, 8, 13, 19, 28, 29, 30, 31, 32, 33, 34, 35, 36, 39, 40, 41, 43, 44, 47, 74, 76, 77] [1827, 1828, 1829, 1830, 1831, 1832, 1833, 1834, 1835, 1836, 1837, 1838, 1839, 1840, 1841, 1842, 1843, 1844, 1845, 1846, 1847, 1849, 1850, 1851, 1852, 1853, 1854] H H29 := fr_t hf hx29f (by decide) (by decide)
                  have ha33 : agp H H29 := agp_tr hag hx29g
                  replace hx29a : (H1.1 1826 30) ≤ (H29.1 1826 30) ∧ (H29.1 1826 30) ≤ (H1.1 1826 29) := hx29a
                  replace hx29p : hid ((H29.1 1826 35) = 0 → PWc H29) := hx29p
                  refine h_run 0 (pc' := 106) (l' := [(0, .inr (.inr 1826)), (1, .inl (H.1 1826 1)), (2, .inl (H.1 1826 3)), (3, .inl (H.1 1826 8)), (4, .inl (H.1 1826 13)), (5, .inl (H.1 1826 19)), (6, .inl dc)]) (st' := []) rfl ?_
                  refine h_run 2 (pc' := 115) (l' := [(0, .inr (.inr 1826)), (1, .inl (H.1 1826 1)), (2, .inl (H.1 1826 3)), (3, .inl (H.1 1826 8)), (4, .inl (H.1 1826 13)), (5, .inl (H.1 1826 19)), (6, .inl dc)]) (st' := [.inr (.inr 1826)]) rfl ?_
                  have g34 : -2147483648 ≤ (H29.1 1826 35) ∧ (H29.1 1826 35) ≤ 2147483647 := hrg31.1 1826 13 35 _ .int rfl rfl
                  refine h_cv (i := 293) (j := 158) (b := 1826) (M' := mt_158) (xs := []) (rest := []) rfl rfl rfl rfl rfl rfl (Nat.le_of_ble_eq_true rfl) (Nat.le_of_ble_eq_true rfl) (by omega) (m_good (by omega)) ?_
                  rintro _ _ ⟨⟨rfl, b35⟩ | ⟨rfl, b35⟩, rfl⟩
                  · have b35x : (H29.1 1826 35) = 0 := b35
                    refine h_run 0 (pc' := 118) (l' := [(0, .inr (.inr 1826)), (1, .inl (H.1 1826 1)), (2, .inl (H.1 1826 3)), (3, .inl (H.1 1826 8)), (4, .inl (H.1 1826 13)), (5, .inl (H.1 1826 19)), (6, .inl dc)]) (st' := [.inl 1]) rfl ?_
                    refine h_zeq (off := 17) (t := 135) rfl rfl (by decide) (fun c => absurd c (by decide)) (fun _ => ?_)
                    have g36 : -2147483648 ≤ (H29.1 1826 8) ∧ (H29.1 1826 8) ≤ 2147483647 := hrg31.1 1826 13 8 _ .int rfl rfl
                    have e37 : (H29.1 1826 8) = (H1.1 1826 8) := hx29f.2.2 8 (by decide)
                    obtain ⟨X2, hq2, hR2x⟩ := GB_g hx29n (by omega)
                    have hR2 : RK Y (H29.1 1826 8) H29 X2 := by rw [show (H29.1 1826 8) = (H1.1 1826 8) from (hx29f.2.2 8 (by decide))]; exact hR2x
                    have htk2 := RK_t hR2
                    have hmf2 : (H.1 1826 8) ≤ (H29.1 1826 8) := by have q9 := hx29g.1.2.2.1; omega
                    refine h_run 2 (pc' := 125) (l' := [(0, .inr (.inr 1826)), (1, .inl (H.1 1826 1)), (2, .inl (H.1 1826 3)), (3, .inl (H.1 1826 8)), (4, .inl (H.1 1826 13)), (5, .inl (H.1 1826 19)), (6, .inl dc)]) (st' := [.inl (H29.1 1826 31)]) rfl ?_
                    have g38 : -2147483648 ≤ (H29.1 1826 31) ∧ (H29.1 1826 31) ≤ 2147483647 := hrg31.1 1826 13 31 _ .int rfl rfl
                    refine h_run 1 (pc' := 127) (l' := [(0, .inr (.inr 1826)), (1, .inl (H.1 1826 1)), (2, .inl (H.1 1826 3)), (3, .inl (H.1 1826 8)), (4, .inl (H.1 1826 13)), (5, .inl (H.1 1826 19)), (6, .inl dc)]) (st' := [.inl 59, .inl (H29.1 1826 31)]) rfl ?_
                    refine h_ieq (off := 8) (t := 135) rfl rfl (by omega) (by decide) (fun c39 => ?_) (fun c39 => ?_)
                    · refine h_run 1 (pc' := 136) (l' := [(0, .inr (.inr 1826)), (1, .inl (H.1 1826 1)), (2, .inl (H.1 1826 3)), (3, .inl (H.1 1826 8)), (4, .inl (H.1 1826 13)), (5, .inl (H.1 1826 19)), (6, .inl dc)]) (st' := [.inr (.inr 1826)]) rfl ?_
                      refine h_cv (i := 293) (j := 158) (b := 1826) (M' := mt_158) (xs := []) (rest := []) rfl rfl rfl rfl rfl rfl (Nat.le_of_ble_eq_true rfl) (Nat.le_of_ble_eq_true rfl) (by omega) (m_good1 (by omega) (by omega : (H29.1 1826 35) = 0)) ?_
                      rintro _ _ ⟨rfl, rfl⟩
                      refine h_run 0 (pc' := 139) (l' := [(0, .inr (.inr 1826)), (1, .inl (H.1 1826 1)), (2, .inl (H.1 1826 3)), (3, .inl (H.1 1826 8)), (4, .inl (H.1 1826 13)), (5, .inl (H.1 1826 19)), (6, .inl dc)]) (st' := [.inl 1]) rfl ?_
                      refine h_zeq (off := -105) (t := 34) rfl rfl (by decide) (fun c => absurd c (by decide)) (fun _ => ?_)
                      have hq3 : rch Y ([(6, 0, 0, 0)], X) ([(6, dc + 1, 0, 0)], adv X2) := rch_st hq2 (by show (if tk Y (xi X2) = 59 then _ else _) = _; (repeat (first | rw [if_pos (by omega)] | rw [if_neg (by omega)])); try (first | rfl | (exfalso; omega)))
                      refine h_run 1 (pc' := 143) (l' := [(0, .inr (.inr 1826)), (1, .inl (H.1 1826 1)), (2, .inl (H.1 1826 3)), (3, .inl (H.1 1826 8)), (4, .inl (H.1 1826 13)), (5, .inl (H.1 1826 19)), (6, .inl dc)]) (st' := [.inr (.inr 1826)]) rfl ?_
                      have g40 : -2147483648 ≤ (H29.1 1826 30) ∧ (H29.1 1826 30) ≤ 2147483647 := hrg31.1 1826 13 30 _ .int rfl rfl
                      have g41 : -2147483648 ≤ (H29.1 1826 29) ∧ (H29.1 1826 29) ≤ 2147483647 := hrg31.1 1826 13 29 _ .int rfl rfl
                      have e42 : (H29.1 1826 29) = (H1.1 1826 29) := hx29f.2.2 29 (by decide)
                      have g43 : -2147483648 ≤ (H29.1 1826 32) ∧ (H29.1 1826 32) ≤ 2147483647 := hrg31.1 1826 13 32 _ .int rfl rfl
                      refine h_cv (i := 297) (j := 165) (b := 1826) (M' := mt_165) (xs := []) (rest := []) rfl rfl rfl rfl rfl rfl (Nat.le_of_ble_eq_true rfl) (Nat.le_of_ble_eq_true rfl) (by omega) (n_nx (by omega) (by omega : 0 ≤ (H29.1 1826 30) ∧ (H29.1 1826 30) ≤ (H29.1 1826 29) ∧ (H29.1 1826 29) ≤ 1000) (by omega : 0 ≤ (H29.1 1826 35) ∧ (H29.1 1826 35) ≤ 5) (by omega : 0 ≤ (H29.1 1826 32) ∧ (H29.1 1826 32) ≤ 1000) (by omega : (H29.1 1826 35) = 0) (X := (adv X2)) (RN_adv hR2 (fr_rf [] [] _) (by decide) (by decide)) hq3 (lk_n (by decide))) ?_
                      rintro _ H44 ⟨rfl, hx44n, hx44f, hx44a, hx44b, hx44c, -, hx44e, hx44g⟩
                      refine h_rng (fun hrg45 => ?_)
                      have hf46 : fr [1, 3, 8, 13, 19, 28, 29, 30, 31, 32, 33, 34, 35, 36, 39, 40, 41, 43, 44, 47, 74, 76, 77] [1827, 1828, 1829, 1830, 1831, 1832, 1833, 1834, 1835, 1836, 1837, 1838, 1839, 1840, 1841, 1842, 1843, 1844, 1845, 1846, 1847, 1849, 1850, 1851, 1852, 1853, 1854] H H44 := fr_t hf32 hx44f (by decide) (by decide)
                      have ha47 : agp H H44 := agp_tr ha33 (agp_fr hx44f (by decide) (by decide))
                      replace hx44a : (H29.1 1826 30) ≤ (H44.1 1826 30) := hx44a
                      replace hx44b : (H44.1 1826 30) ≤ (H29.1 1826 29) := hx44b
                      replace hx44g : (H44.1 1826 35) = 0 → ((H44.1 1826 31) = 0 ∨ (H29.1 1826 30) < (H44.1 1826 30)) := hx44g
                      refine h_run 0 (pc' := 146) (l' := [(0, .inr (.inr 1826)), (1, .inl (H.1 1826 1)), (2, .inl (H.1 1826 3)), (3, .inl (H.1 1826 8)), (4, .inl (H.1 1826 13)), (5, .inl (H.1 1826 19)), (6, .inl dc)]) (st' := []) rfl ?_
                      refine h_run 2 (pc' := 34) (l' := [(0, .inr (.inr 1826)), (1, .inl (H.1 1826 1)), (2, .inl (H.1 1826 3)), (3, .inl (H.1 1826 8)), (4, .inl (H.1 1826 13)), (5, .inl (H.1 1826 19)), (6, .inl (dc + 1))]) (st' := []) rfl ?_
                      have g48 : -2147483648 ≤ (H44.1 1826 30) ∧ (H44.1 1826 30) ≤ 2147483647 := hrg45.1 1826 13 30 _ .int rfl rfl
                      have g49 : -2147483648 ≤ (H44.1 1826 35) ∧ (H44.1 1826 35) ≤ 2147483647 := hrg45.1 1826 13 35 _ .int rfl rfl
                      have g50 : -2147483648 ≤ (H44.1 1826 32) ∧ (H44.1 1826 32) ≤ 2147483647 := hrg45.1 1826 13 32 _ .int rfl rfl
                      have g51 : -2147483648 ≤ (H44.1 1826 31) ∧ (H44.1 1826 31) ≤ 2147483647 := hrg45.1 1826 13 31 _ .int rfl rfl
                      have g52 : -2147483648 ≤ (H44.1 1826 29) ∧ (H44.1 1826 29) ≤ 2147483647 := hrg45.1 1826 13 29 _ .int rfl rfl
                      have e53 : (H44.1 1826 29) = (H29.1 1826 29) := hx44f.2.2 29 (by decide)
                      have g54 : -2147483648 ≤ (H44.1 1826 28) ∧ (H44.1 1826 28) ≤ 2147483647 := hrg45.1 1826 13 28 _ .int rfl rfl
                      have e55 : (H44.1 1826 28) = (H29.1 1826 28) := hx44f.2.2 28 (by decide)
                      have e56 : (H29.1 1826 28) = (H1.1 1826 28) := hx29f.2.2 28 (by decide)
                      have g57 : -2147483648 ≤ (H44.1 1826 77) ∧ (H44.1 1826 77) ≤ 2147483647 := hrg45.1 1826 13 77 _ .int rfl rfl
                      have e58 : (H44.1 1826 77) = (H29.1 1826 77) := hx44f.2.2 77 (by decide)
                      have e59 : (H29.1 1826 77) = (H1.1 1826 77) := hx29f.2.2 77 (by decide)
                      have g60 : -2147483648 ≤ (H44.1 1826 74) ∧ (H44.1 1826 74) ≤ 2147483647 := hrg45.1 1826 13 74 _ .int rfl rfl
                      have e61 : (H44.1 1826 74) = (H29.1 1826 74) := hx44f.2.2 74 (by decide)
                      have e62 : (H29.1 1826 74) = (H1.1 1826 74) := hx29f.2.2 74 (by decide)
                      have g63 : -2147483648 ≤ (H44.1 1826 67) ∧ (H44.1 1826 67) ≤ 2147483647 := hrg45.1 1826 13 67 _ .int rfl rfl
                      have e64 : (H44.1 1826 67) = (H29.1 1826 67) := hx44f.2.2 67 (by decide)
                      have e65 : (H29.1 1826 67) = (H1.1 1826 67) := hx29f.2.2 67 (by decide)
                      have e66 : (H1.1 1826 67) = (H.1 1826 67) := hf.2.2 67 (by decide)
                      exact ih.1 _ (dc + 1) hf46 (by omega : 0 ≤ (H44.1 1826 30) ∧ (H44.1 1826 30) ≤ (H44.1 1826 29) ∧ (H44.1 1826 29) ≤ 1000) (by omega : 0 ≤ (H44.1 1826 35) ∧ (H44.1 1826 35) ≤ 5) (by omega : 0 ≤ (H44.1 1826 32) ∧ (H44.1 1826 32) ≤ 1000) (by omega : (H44.1 1826 28) = 0) (by omega : (H44.1 1826 77) = (H.1 1826 77) ∧ (H44.1 1826 74) = (H.1 1826 74) ∧ (H44.1 1826 67) = (H.1 1826 67)) ha47 (fun _ => PWc_fr (hx29p (by omega)) hx44f (by decide) (by decide)) (GB_le hx44n hmf2 (fun q => ⟨_, hq3, (by rw [show (H44.1 1826 8) = _ from (hx44f.2.2 8 (by decide))]; exact q)⟩)) (mu_lt2 hw (by omega : (H1.1 1826 35) = 0) (by omega : (H44.1 1826 29) = (H1.1 1826 29)) (by omega : (H44.1 1826 35) ≠ 0 ∨ ((H1.1 1826 30) ≤ (H44.1 1826 30) ∧ (H44.1 1826 30) ≤ (H1.1 1826 29) ∧ (((H44.1 1826 31) = 0 ∧ (H1.1 1826 31) ≠ 0) ∨ (H1.1 1826 30) < (H44.1 1826 30)))))
                    · refine h_run 2 (pc' := 132) (l' := [(0, .inr (.inr 1826)), (1, .inl (H.1 1826 1)), (2, .inl (H.1 1826 3)), (3, .inl (H.1 1826 8)), (4, .inl (H.1 1826 13)), (5, .inl (H.1 1826 19)), (6, .inl dc)]) (st' := [.inl 2, .inr (.inr 1826)]) rfl ?_
                      refine h_cv (i := 278) (j := 159) (b := 1826) (M' := mt_159) (xs := [.inl 2]) (rest := []) rfl rfl rfl rfl rfl rfl (Nat.le_of_ble_eq_true rfl) (Nat.le_of_ble_eq_true rfl) (by omega) (m_bad0 (by omega) (by omega) (by omega : (H29.1 1826 35) = 0)) ?_
                      rintro _ _ ⟨rfl, rfl⟩
                      refine h_run 0 (pc' := 135) (l' := [(0, .inr (.inr 1826)), (1, .inl (H.1 1826 1)), (2, .inl (H.1 1826 3)), (3, .inl (H.1 1826 8)), (4, .inl (H.1 1826 13)), (5, .inl (H.1 1826 19)), (6, .inl dc)]) (st' := []) rfl ?_
                      refine h_run 1 (pc' := 136) (l' := [(0, .inr (.inr 1826)), (1, .inl (H.1 1826 1)), (2, .inl (H.1 1826 3)), (3, .inl (H.1 1826 8)), (4, .inl (H.1 1826 13)), (5, .inl (H.1 1826 19)), (6, .inl dc)]) (st' := [.inr (.inr 1826)]) rfl ?_
                      refine h_cv (i := 293) (j := 158) (b := 1826) (M' := mt_158) (xs := []) (rest := []) rfl rfl rfl rfl rfl rfl (Nat.le_of_ble_eq_true rfl) (Nat.le_of_ble_eq_true rfl) (by omega) (m_good0 (by omega) (by omega : (2 : Int) ≠ 0)) ?_
                      rintro _ _ ⟨rfl, rfl⟩
                      refine h_run 0 (pc' := 139) (l' := [(0, .inr (.inr 1826)), (1, .inl (H.1 1826 1)), (2, .inl (H.1 1826 3)), (3, .inl (H.1 1826 8)), (4, .inl (H.1 1826 13)), (5, .inl (H.1 1826 19)), (6, .inl dc)]) (st' := [.inl 0]) rfl ?_
                      refine h_zeq (off := -105) (t := 34) rfl rfl (by decide) (fun _ => ?_) (fun c => absurd c (by decide))
                      have g67 : -2147483648 ≤ (H29.1 1826 30) ∧ (H29.1 1826 30) ≤ 2147483647 := hrg31.1 1826 13 30 _ .int rfl rfl
                      have g68 : -2147483648 ≤ (H29.1 1826 32) ∧ (H29.1 1826 32) ≤ 2147483647 := hrg31.1 1826 13 32 _ .int rfl rfl
                      have g69 : -2147483648 ≤ (H29.1 1826 29) ∧ (H29.1 1826 29) ≤ 2147483647 := hrg31.1 1826 13 29 _ .int rfl rfl
                      have e70 : (H29.1 1826 29) = (H1.1 1826 29) := hx29f.2.2 29 (by decide)
                      have g71 : -2147483648 ≤ (H29.1 1826 28) ∧ (H29.1 1826 28) ≤ 2147483647 := hrg31.1 1826 13 28 _ .int rfl rfl
                      have e72 : (H29.1 1826 28) = (H1.1 1826 28) := hx29f.2.2 28 (by decide)
                      have g73 : -2147483648 ≤ (H29.1 1826 77) ∧ (H29.1 1826 77) ≤ 2147483647 := hrg31.1 1826 13 77 _ .int rfl rfl
                      have e74 : (H29.1 1826 77) = (H1.1 1826 77) := hx29f.2.2 77 (by decide)
                      have g75 : -2147483648 ≤ (H29.1 1826 74) ∧ (H29.1 1826 74) ≤ 2147483647 := hrg31.1 1826 13 74 _ .int rfl rfl
                      have e76 : (H29.1 1826 74) = (H1.1 1826 74) := hx29f.2.2 74 (by decide)
                      have g77 : -2147483648 ≤ (H29.1 1826 67) ∧ (H29.1 1826 67) ≤ 2147483647 := hrg31.1 1826 13 67 _ .int rfl rfl
                      have e78 : (H29.1 1826 67) = (H1.1 1826 67) := hx29f.2.2 67 (by decide)
                      have e79 : (H1.1 1826 67) = (H.1 1826 67) := hf.2.2 67 (by decide)
                      exact ih.1 _ dc (fr_o (fr_o hf32 (by decide)) (by decide)) (by omega : 0 ≤ (H29.1 1826 30) ∧ (H29.1 1826 30) ≤ (H29.1 1826 29) ∧ (H29.1 1826 29) ≤ 1000) (by omega : 0 ≤ (2 : Int) ∧ (2 : Int) ≤ 5) (by omega : 0 ≤ (H29.1 1826 32) ∧ (H29.1 1826 32) ≤ 1000) (by omega : (H29.1 1826 28) = 0) (by omega : (H29.1 1826 77) = (H.1 1826 77) ∧ (H29.1 1826 74) = (H.1 1826 74) ∧ (H29.1 1826 67) = (H.1 1826 67)) (agp_o (agp_o ha33 (by decide)) (by decide)) (fun (q : (2 : Int) = 0) => absurd q (by omega)) (Or.inr ⟨(by omega : (2 : Int) ≠ 0), BD_le (BD_mk hR2 (fr_o (fr_o (fr_rf [35, 36] [] H29) (by decide)) (by decide)) (by decide) (by decide) (by decide : (2 : Int) ≠ 0) rfl rfl (rch_st hq2 (by show (if tk Y (xi X2) = 59 then _ else _) = _; unfold miss; (repeat (first | rw [if_pos (by omega)] | rw [if_neg (by omega)])); try (first | rfl | (exfalso; omega))))) hmf2⟩) (mu_lt2 hw (by omega : (H1.1 1826 35) = 0) (by omega : (H29.1 1826 29) = (H1.1 1826 29)) (by omega : (2 : Int) ≠ 0 ∨ ((H1.1 1826 30) ≤ (H29.1 1826 30) ∧ (H29.1 1826 30) ≤ (H1.1 1826 29) ∧ (((H29.1 1826 31) = 0 ∧ (H1.1 1826 31) ≠ 0) ∨ (H1.1 1826 30) < (H29.1 1826 30)))))
                  · have b35x : (H29.1 1826 35) ≠ 0 := b35
                    refine h_run 0 (pc' := 118) (l' := [(0, .inr (.inr 1826)), (1, .inl (H.1 1826 1)), (2, .inl (H.1 1826 3)), (3, .inl (H.1 1826 8)), (4, .inl (H.1 1826 13)), (5, .inl (H.1 1826 19)), (6, .inl dc)]) (st' := [.inl 0]) rfl ?_
                    refine h_zeq (off := 17) (t := 135) rfl rfl (by decide) (fun _ => ?_) (fun c => absurd c (by decide))
                    refine h_run 1 (pc' := 136) (l' := [(0, .inr (.inr 1826)), (1, .inl (H.1 1826 1)), (2, .inl (H.1 1826 3)), (3, .inl (H.1 1826 8)), (4, .inl (H.1 1826 13)), (5, .inl (H.1 1826 19)), (6, .inl dc)]) (st' := [.inr (.inr 1826)]) rfl ?_
                    refine h_cv (i := 293) (j := 158) (b := 1826) (M' := mt_158) (xs := []) (rest := []) rfl rfl rfl rfl rfl rfl (Nat.le_of_ble_eq_true rfl) (Nat.le_of_ble_eq_true rfl) (by omega) (m_good0 (by omega) (by omega : (H29.1 1826 35) ≠ 0)) ?_
                    rintro _ _ ⟨rfl, rfl⟩
                    refine h_run 0 (pc' := 139) (l' := [(0, .inr (.inr 1826)), (1, .inl (H.1 1826 1)), (2, .inl (H.1 1826 3)), (3, .inl (H.1 1826 8)), (4, .inl (H.1 1826 13)), (5, .inl (H.1 1826 19)), (6, .inl dc)]) (st' := [.inl 0]) rfl ?_
                    refine h_zeq (off := -105) (t := 34) rfl rfl (by decide) (fun _ => ?_) (fun c => absurd c (by decide))
                    have g80 : -2147483648 ≤ (H29.1 1826 30) ∧ (H29.1 1826 30) ≤ 2147483647 := hrg31.1 1826 13 30 _ .int rfl rfl
                    have g81 : -2147483648 ≤ (H29.1 1826 32) ∧ (H29.1 1826 32) ≤ 2147483647 := hrg31.1 1826 13 32 _ .int rfl rfl
                    have g82 : -2147483648 ≤ (H29.1 1826 31) ∧ (H29.1 1826 31) ≤ 2147483647 := hrg31.1 1826 13 31 _ .int rfl rfl
                    have g83 : -2147483648 ≤ (H29.1 1826 29) ∧ (H29.1 1826 29) ≤ 2147483647 := hrg31.1 1826 13 29 _ .int rfl rfl
                    have e84 : (H29.1 1826 29) = (H1.1 1826 29) := hx29f.2.2 29 (by decide)
                    have g85 : -2147483648 ≤ (H29.1 1826 28) ∧ (H29.1 1826 28) ≤ 2147483647 := hrg31.1 1826 13 28 _ .int rfl rfl
                    have e86 : (H29.1 1826 28) = (H1.1 1826 28) := hx29f.2.2 28 (by decide)
                    have g87 : -2147483648 ≤ (H29.1 1826 77) ∧ (H29.1 1826 77) ≤ 2147483647 := hrg31.1 1826 13 77 _ .int rfl rfl
                    have e88 : (H29.1 1826 77) = (H1.1 1826 77) := hx29f.2.2 77 (by decide)
                    have g89 : -2147483648 ≤ (H29.1 1826 74) ∧ (H29.1 1826 74) ≤ 2147483647 := hrg31.1 1826 13 74 _ .int rfl rfl
                    have e90 : (H29.1 1826 74) = (H1.1 1826 74) := hx29f.2.2 74 (by decide)
                    have g91 : -2147483648 ≤ (H29.1 1826 67) ∧ (H29.1 1826 67) ≤ 2147483647 := hrg31.1 1826 13 67 _ .int rfl rfl
                    have e92 : (H29.1 1826 67) = (H1.1 1826 67) := hx29f.2.2 67 (by decide)
                    have e93 : (H1.1 1826 67) = (H.1 1826 67) := hf.2.2 67 (by decide)
                    exact ih.1 _ dc hf32 (by omega : 0 ≤ (H29.1 1826 30) ∧ (H29.1 1826 30) ≤ (H29.1 1826 29) ∧ (H29.1 1826 29) ≤ 1000) (by omega : 0 ≤ (H29.1 1826 35) ∧ (H29.1 1826 35) ≤ 5) (by omega : 0 ≤ (H29.1 1826 32) ∧ (H29.1 1826 32) ≤ 1000) (by omega : (H29.1 1826 28) = 0) (by omega : (H29.1 1826 77) = (H.1 1826 77) ∧ (H29.1 1826 74) = (H.1 1826 74) ∧ (H29.1 1826 67) = (H.1 1826 67)) ha33 (fun (q : (H29.1 1826 35) = 0) => absurd q (by omega)) (Or.inr ⟨(by omega : (H29.1 1826 35) ≠ 0), BD_le (GB_b hx29n (by omega)) hmf⟩) (mu_lt2 hw (by omega : (H1.1 1826 35) = 0) (by omega : (H29.1 1826 29) = (H1.1 1826 29)) (by omega : (H29.1 1826 35) ≠ 0 ∨ ((H1.1 1826 30) ≤ (H29.1 1826 30) ∧ (H29.1 1826 30) ≤ (H1.1 1826 29) ∧ (((H29.1 1826 31) = 0 ∧ (H1.1 1826 31) ≠ 0) ∨ (H1.1 1826 30) < (H29.1 1826 30)))))
              · refine h_run 1 (pc' := 87) (l' := [(0, .inr (.inr 1826)), (1, .inl (H.1 1826 1)), (2, .inl (H.1 1826 3)), (3, .inl (H.1 1826 8)), (4, .inl (H.1 1826 13)), (5, .inl (H.1 1826 19)), (6, .inl dc)]) (st' := [.inr (.inr 1826)]) rfl ?_
                have g94 : -2147483648 ≤ (H1.1 1826 30) ∧ (H1.1 1826 30) ≤ 2147483647 := hrg1.1 1826 13 30 _ .int rfl rfl
                have g95 : -2147483648 ≤ (H1.1 1826 29) ∧ (H1.1 1826 29) ≤ 2147483647 := hrg1.1 1826 13 29 _ .int rfl rfl
                have g96 : -2147483648 ≤ (H1.1 1826 8) ∧ (H1.1 1826 8) ≤ 2147483647 := hrg1.1 1826 13 8 _ .int rfl rfl
                have g98 : -2147483648 ≤ (H1.1 1826 32) ∧ (H1.1 1826 32) ≤ 2147483647 := hrg1.1 1826 13 32 _ .int rfl rfl
                refine h_cv (i := 405) (j := 186) (b := 1826) (M' := mt_186) (xs := []) (rest := []) rfl rfl rfl rfl rfl rfl (Nat.le_of_ble_eq_true rfl) (Nat.le_of_ble_eq_true rfl) (by omega) (n_rule (by omega) (by omega : 0 ≤ (H1.1 1826 30) ∧ (H1.1 1826 30) ≤ (H1.1 1826 29) ∧ (H1.1 1826 29) ≤ 1000) (by omega : 0 ≤ (H1.1 1826 35) ∧ (H1.1 1826 35) ≤ 5) (by omega : 0 ≤ (H1.1 1826 32) ∧ (H1.1 1826 32) ≤ 1000) (hP1 (by omega : (H1.1 1826 35) = 0)) (by omega : (H1.1 1826 35) = 0) hR1 (by omega : (H1.1 1826 8) = (H1.1 1826 8)) hq1 (by omega : tk Y (xi X1) = 6)) ?_
                rintro _ H97 ⟨rfl, hx97n, hx97f, hx97a, hx97c, -, hx97e, hx97g, hx97p⟩
                refine h_rng (fun hrg99 => ?_)
                have hf100 : fr [1, 3, 8, 13, 19, 28, 29, 30, 31, 32, 33, 34, 35, 36, 39, 40, 41, 43, 44, 47, 74, 76, 77] [1827, 1828, 1829, 1830, 1831, 1832, 1833, 1834, 1835, 1836, 1837, 1838, 1839, 1840, 1841, 1842, 1843, 1844, 1845, 1846, 1847, 1849, 1850, 1851, 1852, 1853, 1854] H H97 := fr_t hf hx97f (by decide) (by decide)
                have ha101 : agp H H97 := agp_tr hag hx97g
                replace hx97a : (H1.1 1826 30) ≤ (H97.1 1826 30) ∧ (H97.1 1826 30) ≤ (H1.1 1826 29) := hx97a
                replace hx97p : hid ((H97.1 1826 35) = 0 → PWc H97) := hx97p
                refine h_run 0 (pc' := 90) (l' := [(0, .inr (.inr 1826)), (1, .inl (H.1 1826 1)), (2, .inl (H.1 1826 3)), (3, .inl (H.1 1826 8)), (4, .inl (H.1 1826 13)), (5, .inl (H.1 1826 19)), (6, .inl dc)]) (st' := []) rfl ?_
                refine h_run 2 (pc' := 115) (l' := [(0, .inr (.inr 1826)), (1, .inl (H.1 1826 1)), (2, .inl (H.1 1826 3)), (3, .inl (H.1 1826 8)), (4, .inl (H.1 1826 13)), (5, .inl (H.1 1826 19)), (6, .inl dc)]) (st' := [.inr (.inr 1826)]) rfl ?_
                have g102 : -2147483648 ≤ (H97.1 1826 35) ∧ (H97.1 1826 35) ≤ 2147483647 := hrg99.1 1826 13 35 _ .int rfl rfl
                refine h_cv (i := 293) (j := 158) (b := 1826) (M' := mt_158) (xs := []) (rest := []) rfl rfl rfl rfl rfl rfl (Nat.le_of_ble_eq_true rfl) (Nat.le_of_ble_eq_true rfl) (by omega) (m_good (by omega)) ?_
                rintro _ _ ⟨⟨rfl, b103⟩ | ⟨rfl, b103⟩, rfl⟩
                · have b103x : (H97.1 1826 35) = 0 := b103
                  refine h_run 0 (pc' := 118) (l' := [(0, .inr (.inr 1826)), (1, .inl (H.1 1826 1)), (2, .inl (H.1 1826 3)), (3, .inl (H.1 1826 8)), (4, .inl (H.1 1826 13)), (5, .inl (H.1 1826 19)), (6, .inl dc)]) (st' := [.inl 1]) rfl ?_
                  refine h_zeq (off := 17) (t := 135) rfl rfl (by decide) (fun c => absurd c (by decide)) (fun _ => ?_)
                  have g104 : -2147483648 ≤ (H97.1 1826 8) ∧ (H97.1 1826 8) ≤ 2147483647 := hrg99.1 1826 13 8 _ .int rfl rfl
                  have e105 : (H97.1 1826 8) = (H1.1 1826 8) := hx97f.2.2 8 (by decide)
                  obtain ⟨X2, hq2, hR2x⟩ := GB_g hx97n (by omega)
                  have hR2 : RK Y (H97.1 1826 8) H97 X2 := by rw [show (H97.1 1826 8) = (H1.1 1826 8) from (hx97f.2.2 8 (by decide))]; exact hR2x
                  have htk2 := RK_t hR2
                  have hmf2 : (H.1 1826 8) ≤ (H97.1 1826 8) := by have q9 := hx97g.1.2.2.1; omega
                  refine h_run 2 (pc' := 125) (l' := [(0, .inr (.inr 1826)), (1, .inl (H.1 1826 1)), (2, .inl (H.1 1826 3)), (3, .inl (H.1 1826 8)), (4, .inl (H.1 1826 13)), (5, .inl (H.1 1826 19)), (6, .inl dc)]) (st' := [.inl (H97.1 1826 31)]) rfl ?_
                  have g106 : -2147483648 ≤ (H97.1 1826 31) ∧ (H97.1 1826 31) ≤ 2147483647 := hrg99.1 1826 13 31 _ .int rfl rfl
                  refine h_run 1 (pc' := 127) (l' := [(0, .inr (.inr 1826)), (1, .inl (H.1 1826 1)), (2, .inl (H.1 1826 3)), (3, .inl (H.1 1826 8)), (4, .inl (H.1 1826 13)), (5, .inl (H.1 1826 19)), (6, .inl dc)]) (st' := [.inl 59, .inl (H97.1 1826 31)]) rfl ?_
                  refine h_ieq (off := 8) (t := 135) rfl rfl (by omega) (by decide) (fun c107 => ?_) (fun c107 => ?_)
                  · refine h_run 1 (pc' := 136) (l' := [(0, .inr (.inr 1826)), (1, .inl (H.1 1826 1)), (2, .inl (H.1 1826 3)), (3, .inl (H.1 1826 8)), (4, .inl (H.1 1826 13)), (5, .inl (H.1 1826 19)), (6, .inl dc)]) (st' := [.inr (.inr 1826)]) rfl ?_
                    refine h_cv (i := 293) (j := 158) (b := 1826) (M' := mt_158) (xs := []) (rest := []) rfl rfl rfl rfl rfl rfl (Nat.le_of_ble_eq_true rfl) (Nat.le_of_ble_eq_true rfl) (by omega) (m_good1 (by omega) (by omega : (H97.1 1826 35) = 0)) ?_
                    rintro _ _ ⟨rfl, rfl⟩
                    refine h_run 0 (pc' := 139) (l' := [(0, .inr (.inr 1826)), (1, .inl (H.1 1826 1)), (2, .inl (H.1 1826 3)), (3, .inl (H.1 1826 8)), (4, .inl (H.1 1826 13)), (5, .inl (H.1 1826 19)), (6, .inl dc)]) (st' := [.inl 1]) rfl ?_
                    refine h_zeq (off := -105) (t := 34) rfl rfl (by decide) (fun c => absurd c (by decide)) (fun _ => ?_)
                    have hq3 : rch Y ([(6, 0, 0, 0)], X) ([(6, dc + 1, 0, 0)], adv X2) := rch_st hq2 (by show (if tk Y (xi X2) = 59 then _ else _) = _; (repeat (first | rw [if_pos (by omega)] | rw [if_neg (by omega)])); try (first | rfl | (exfalso; omega)))
                    refine h_run 1 (pc' := 143) (l' := [(0, .inr (.inr 1826)), (1, .inl (H.1 1826 1)), (2, .inl (H.1 1826 3)), (3, .inl (H.1 1826 8)), (4, .inl (H.1 1826 13)), (5, .inl (H.1 1826 19)), (6, .inl dc)]) (st' := [.inr (.inr 1826)]) rfl ?_
                    have g108 : -2147483648 ≤ (H97.1 1826 30) ∧ (H97.1 1826 30) ≤ 2147483647 := hrg99.1 1826 13 30 _ .int rfl rfl
                    have g109 : -2147483648 ≤ (H97.1 1826 29) ∧ (H97.1 1826 29) ≤ 2147483647 := hrg99.1 1826 13 29 _ .int rfl rfl
                    have e110 : (H97.1 1826 29) = (H1.1 1826 29) := hx97f.2.2 29 (by decide)
                    have g111 : -2147483648 ≤ (H97.1 1826 32) ∧ (H97.1 1826 32) ≤ 2147483647 := hrg99.1 1826 13 32 _ .int rfl rfl
                    refine h_cv (i := 297) (j := 165) (b := 1826) (M' := mt_165) (xs := []) (rest := []) rfl rfl rfl rfl rfl rfl (Nat.le_of_ble_eq_true rfl) (Nat.le_of_ble_eq_true rfl) (by omega) (n_nx (by omega) (by omega : 0 ≤ (H97.1 1826 30) ∧ (H97.1 1826 30) ≤ (H97.1 1826 29) ∧ (H97.1 1826 29) ≤ 1000) (by omega : 0 ≤ (H97.1 1826 35) ∧ (H97.1 1826 35) ≤ 5) (by omega : 0 ≤ (H97.1 1826 32) ∧ (H97.1 1826 32) ≤ 1000) (by omega : (H97.1 1826 35) = 0) (X := (adv X2)) (RN_adv hR2 (fr_rf [] [] _) (by decide) (by decide)) hq3 (lk_n (by decide))) ?_
                    rintro _ H112 ⟨rfl, hx112n, hx112f, hx112a, hx112b, hx112c, -, hx112e, hx112g⟩
                    refine h_rng (fun hrg113 => ?_)
                    have hf114 : fr [1, 3, 8, 13, 19, 28, 29, 30, 31, 32, 33, 34, 35, 36, 39, 40, 41, 43, 44, 47, 74, 76, 77] [1827, 1828, 1829, 1830, 1831, 1832, 1833, 1834, 1835, 1836, 1837, 1838, 1839, 1840, 1841, 1842, 1843, 1844, 1845, 1846, 1847, 1849, 1850, 1851, 1852, 1853, 1854] H H112 := fr_t hf100 hx112f (by decide) (by decide)
                    have ha115 : agp H H112 := agp_tr ha101 (agp_fr hx112f (by decide) (by decide))
                    replace hx112a : (H97.1 1826 30) ≤ (H112.1 1826 30) := hx112a
                    replace hx112b : (H112.1 1826 30) ≤ (H97.1 1826 29) := hx112b
                    replace hx112g : (H112.1 1826 35) = 0 → ((H112.1 1826 31) = 0 ∨ (H97.1 1826 30) < (H112.1 1826 30)) := hx112g
                    refine h_run 0 (pc' := 146) (l' := [(0, .inr (.inr 1826)), (1, .inl (H.1 1826 1)), (2, .inl (H.1 1826 3)), (3, .inl (H.1 1826 8)), (4, .inl (H.1 1826 13)), (5, .inl (H.1 1826 19)), (6, .inl dc)]) (st' := []) rfl ?_
                    refine h_run 2 (pc' := 34) (l' := [(0, .inr (.inr 1826)), (1, .inl (H.1 1826 1)), (2, .inl (H.1 1826 3)), (3, .inl (H.1 1826 8)), (4, .inl (H.1 1826 13)), (5, .inl (H.1 1826 19)), (6, .inl (dc + 1))]) (st' := []) rfl ?_
                    have g116 : -2147483648 ≤ (H112.1 1826 30) ∧ (H112.1 1826 30) ≤ 2147483647 := hrg113.1 1826 13 30 _ .int rfl rfl
                    have g117 : -2147483648 ≤ (H112.1 1826 35) ∧ (H112.1 1826 35) ≤ 2147483647 := hrg113.1 1826 13 35 _ .int rfl rfl
                    have g118 : -2147483648 ≤ (H112.1 1826 32) ∧ (H112.1 1826 32) ≤ 2147483647 := hrg113.1 1826 13 32 _ .int rfl rfl
                    have g119 : -2147483648 ≤ (H112.1 1826 31) ∧ (H112.1 1826 31) ≤ 2147483647 := hrg113.1 1826 13 31 _ .int rfl rfl
                    have g120 : -2147483648 ≤ (H112.1 1826 29) ∧ (H112.1 1826 29) ≤ 2147483647 := hrg113.1 1826 13 29 _ .int rfl rfl
                    have e121 : (H112.1 1826 29) = (H97.1 1826 29) := hx112f.2.2 29 (by decide)
                    have g122 : -2147483648 ≤ (H112.1 1826 28) ∧ (H112.1 1826 28) ≤ 2147483647 := hrg113.1 1826 13 28 _ .int rfl rfl
                    have e123 : (H112.1 1826 28) = (H97.1 1826 28) := hx112f.2.2 28 (by decide)
                    have e124 : (H97.1 1826 28) = (H1.1 1826 28) := hx97f.2.2 28 (by decide)
                    have g125 : -2147483648 ≤ (H112.1 1826 77) ∧ (H112.1 1826 77) ≤ 2147483647 := hrg113.1 1826 13 77 _ .int rfl rfl
                    have e126 : (H112.1 1826 77) = (H97.1 1826 77) := hx112f.2.2 77 (by decide)
                    have e127 : (H97.1 1826 77) = (H1.1 1826 77) := hx97f.2.2 77 (by decide)
                    have g128 : -2147483648 ≤ (H112.1 1826 74) ∧ (H112.1 1826 74) ≤ 2147483647 := hrg113.1 1826 13 74 _ .int rfl rfl
                    have e129 : (H112.1 1826 74) = (H97.1 1826 74) := hx112f.2.2 74 (by decide)
                    have e130 : (H97.1 1826 74) = (H1.1 1826 74) := hx97f.2.2 74 (by decide)
                    have g131 : -2147483648 ≤ (H112.1 1826 67) ∧ (H112.1 1826 67) ≤ 2147483647 := hrg113.1 1826 13 67 _ .int rfl rfl
                    have e132 : (H112.1 1826 67) = (H97.1 1826 67) := hx112f.2.2 67 (by decide)
                    have e133 : (H97.1 1826 67) = (H1.1 1826 67) := hx97f.2.2 67 (by decide)
                    have e134 : (H1.1 1826 67) = (H.1 1826 67) := hf.2.2 67 (by decide)
                    exact ih.1 _ (dc + 1) hf114 (by omega : 0 ≤ (H112.1 1826 30) ∧ (H112.1 1826 30) ≤ (H112.1 1826 29) ∧ (H112.1 1826 29) ≤ 1000) (by omega : 0 ≤ (H112.1 1826 35) ∧ (H112.1 1826 35) ≤ 5) (by omega : 0 ≤ (H112.1 1826 32) ∧ (H112.1 1826 32) ≤ 1000) (by omega : (H112.1 1826 28) = 0) (by omega : (H112.1 1826 77) = (H.1 1826 77) ∧ (H112.1 1826 74) = (H.1 1826 74) ∧ (H112.1 1826 67) = (H.1 1826 67)) ha115 (fun _ => PWc_fr (hx97p (by omega)) hx112f (by decide) (by decide)) (GB_le hx112n hmf2 (fun q => ⟨_, hq3, (by rw [show (H112.1 1826 8) = _ from (hx112f.2.2 8 (by decide))]; exact q)⟩)) (mu_lt2 hw (by omega : (H1.1 1826 35) = 0) (by omega : (H112.1 1826 29) = (H1.1 1826 29)) (by omega : (H112.1 1826 35) ≠ 0 ∨ ((H1.1 1826 30) ≤ (H112.1 1826 30) ∧ (H112.1 1826 30) ≤ (H1.1 1826 29) ∧ (((H112.1 1826 31) = 0 ∧ (H1.1 1826 31) ≠ 0) ∨ (H1.1 1826 30) < (H112.1 1826 30)))))
                  · refine h_run 2 (pc' := 132) (l' := [(0, .inr (.inr 1826)), (1, .inl (H.1 1826 1)), (2, .inl (H.1 1826 3)), (3, .inl (H.1 1826 8)), (4, .inl (H.1 1826 13)), (5, .inl (H.1 1826 19)), (6, .inl dc)]) (st' := [.inl 2, .inr (.inr 1826)]) rfl ?_
                    refine h_cv (i := 278) (j := 159) (b := 1826) (M' := mt_159) (xs := [.inl 2]) (rest := []) rfl rfl rfl rfl rfl rfl (Nat.le_of_ble_eq_true rfl) (Nat.le_of_ble_eq_true rfl) (by omega) (m_bad0 (by omega) (by omega) (by omega : (H97.1 1826 35) = 0)) ?_
                    rintro _ _ ⟨rfl, rfl⟩
                    refine h_run 0 (pc' := 135) (l' := [(0, .inr (.inr 1826)), (1, .inl (H.1 1826 1)), (2, .inl (H.1 1826 3)), (3, .inl (H.1 1826 8)), (4, .inl (H.1 1826 13)), (5, .inl (H.1 1826 19)), (6, .inl dc)]) (st' := []) rfl ?_
                    refine h_run 1 (pc' := 136) (l' := [(0, .inr (.inr 1826)), (1, .inl (H.1 1826 1)), (2, .inl (H.1 1826 3)), (3, .inl (H.1 1826 8)), (4, .inl (H.1 1826 13)), (5, .inl (H.1 1826 19)), (6, .inl dc)]) (st' := [.inr (.inr 1826)]) rfl ?_
                    refine h_cv (i := 293) (j := 158) (b := 1826) (M' := mt_158) (xs := []) (rest := []) rfl rfl rfl rfl rfl rfl (Nat.le_of_ble_eq_true rfl) (Nat.le_of_ble_eq_true rfl) (by omega) (m_good0 (by omega) (by omega : (2 : Int) ≠ 0)) ?_
                    rintro _ _ ⟨rfl, rfl⟩
                    refine h_run 0 (pc' := 139) (l' := [(0, .inr (.inr 1826)), (1, .inl (H.1 1826 1)), (2, .inl (H.1 1826 3)), (3, .inl (H.1 1826 8)), (4, .inl (H.1 1826 13)), (5, .inl (H.1 1826 19)), (6, .inl dc)]) (st' := [.inl 0]) rfl ?_
                    refine h_zeq (off := -105) (t := 34) rfl rfl (by decide) (fun _ => ?_) (fun c => absurd c (by decide))
                    have g135 : -2147483648 ≤ (H97.1 1826 30) ∧ (H97.1 1826 30) ≤ 2147483647 := hrg99.1 1826 13 30 _ .int rfl rfl
                    have g136 : -2147483648 ≤ (H97.1 1826 32) ∧ (H97.1 1826 32) ≤ 2147483647 := hrg99.1 1826 13 32 _ .int rfl rfl
                    have g137 : -2147483648 ≤ (H97.1 1826 29) ∧ (H97.1 1826 29) ≤ 2147483647 := hrg99.1 1826 13 29 _ .int rfl rfl
                    have e138 : (H97.1 1826 29) = (H1.1 1826 29) := hx97f.2.2 29 (by decide)
                    have g139 : -2147483648 ≤ (H97.1 1826 28) ∧ (H97.1 1826 28) ≤ 2147483647 := hrg99.1 1826 13 28 _ .int rfl rfl
                    have e140 : (H97.1 1826 28) = (H1.1 1826 28) := hx97f.2.2 28 (by decide)
                    have g141 : -2147483648 ≤ (H97.1 1826 77) ∧ (H97.1 1826 77) ≤ 2147483647 := hrg99.1 1826 13 77 _ .int rfl rfl
                    have e142 : (H97.1 1826 77) = (H1.1 1826 77) := hx97f.2.2 77 (by decide)
                    have g143 : -2147483648 ≤ (H97.1 1826 74) ∧ (H97.1 1826 74) ≤ 2147483647 := hrg99.1 1826 13 74 _ .int rfl rfl
                    have e144 : (H97.1 1826 74) = (H1.1 1826 74) := hx97f.2.2 74 (by decide)
                    have g145 : -2147483648 ≤ (H97.1 1826 67) ∧ (H97.1 1826 67) ≤ 2147483647 := hrg99.1 1826 13 67 _ .int rfl rfl
                    have e146 : (H97.1 1826 67) = (H1.1 1826 67) := hx97f.2.2 67 (by decide)
                    have e147 : (H1.1 1826 67) = (H.1 1826 67) := hf.2.2 67 (by decide)
                    exact ih.1 _ dc (fr_o (fr_o hf100 (by decide)) (by decide)) (by omega : 0 ≤ (H97.1 1826 30) ∧ (H97.1 1826 30) ≤ (H97.1 1826 29) ∧ (H97.1 1826 29) ≤ 1000) (by omega : 0 ≤ (2 : Int) ∧ (2 : Int) ≤ 5) (by omega : 0 ≤ (H97.1 1826 32) ∧ (H97.1 1826 32) ≤ 1000) (by omega : (H97.1 1826 28) = 0) (by omega : (H97.1 1826 77) = (H.1 1826 77) ∧ (H97.1 1826 74) = (H.1 1826 74) ∧ (H97.1 1826 67) = (H.1 1826 67)) (agp_o (agp_o ha101 (by decide)) (by decide)) (fun (q : (2 : Int) = 0) => absurd q (by omega)) (Or.inr ⟨(by omega : (2 : Int) ≠ 0), BD_le (BD_mk hR2 (fr_o (fr_o (fr_rf [35, 36] [] H97) (by decide)) (by decide)) (by decide) (by decide) (by decide : (2 : Int) ≠ 0) rfl rfl (rch_st hq2 (by show (if tk Y (xi X2) = 59 then _ else _) = _; unfold miss; (repeat (first | rw [if_pos (by omega)] | rw [if_neg (by omega)])); try (first | rfl | (exfalso; omega))))) hmf2⟩) (mu_lt2 hw (by omega : (H1.1 1826 35) = 0) (by omega : (H97.1 1826 29) = (H1.1 1826 29)) (by omega : (2 : Int) ≠ 0 ∨ ((H1.1 1826 30) ≤ (H97.1 1826 30) ∧ (H97.1 1826 30) ≤ (H1.1 1826 29) ∧ (((H97.1 1826 31) = 0 ∧ (H1.1 1826 31) ≠ 0) ∨ (H1.1 1826 30) < (H97.1 1826 30)))))
                · have b103x : (H97.1 1826 35) ≠ 0 := b103
                  refine h_run 0 (pc' := 118) (l' := [(0, .inr (.inr 1826)), (1, .inl (H.1 1826 1)), (2, .inl (H.1 1826 3)), (3, .inl (H.1 1826 8)), (4, .inl (H.1 1826 13)), (5, .inl (H.1 1826 19)), (6, .inl dc)]) (st' := [.inl 0]) rfl ?_
                  refine h_zeq (off := 17) (t := 135) rfl rfl (by decide) (fun _ => ?_) (fun c => absurd c (by decide))
                  refine h_run 1 (pc' := 136) (l' := [(0, .inr (.inr 1826)), (1, .inl (H.1 1826 1)), (2, .inl (H.1 1826 3)), (3, .inl (H.1 1826 8)), (4, .inl (H.1 1826 13)), (5, .inl (H.1 1826 19)), (6, .inl dc)]) (st' := [.inr (.inr 1826)]) rfl ?_
                  refine h_cv (i := 293) (j := 158) (b := 1826) (M' := mt_158) (xs := []) (rest := []) rfl rfl rfl rfl rfl rfl (Nat.le_of_ble_eq_true rfl) (Nat.le_of_ble_eq_true rfl) (by omega) (m_good0 (by omega) (by omega : (H97.1 1826 35) ≠ 0)) ?_
                  rintro _ _ ⟨rfl, rfl⟩
                  refine h_run 0 (pc' := 139) (l' := [(0, .inr (.inr 1826)), (1, .inl (H.1 1826 1)), (2, .inl (H.1 1826 3)), (3, .inl (H.1 1826 8)), (4, .inl (H.1 1826 13)), (5, .inl (H.1 1826 19)), (6, .inl dc)]) (st' := [.inl 0]) rfl ?_
                  refine h_zeq (off := -105) (t := 34) rfl rfl (by decide) (fun _ => ?_) (fun c => absurd c (by decide))
                  have g148 : -2147483648 ≤ (H97.1 1826 30) ∧ (H97.1 1826 30) ≤ 2147483647 := hrg99.1 1826 13 30 _ .int rfl rfl
                  have g149 : -2147483648 ≤ (H97.1 1826 32) ∧ (H97.1 1826 32) ≤ 2147483647 := hrg99.1 1826 13 32 _ .int rfl rfl
                  have g150 : -2147483648 ≤ (H97.1 1826 31) ∧ (H97.1 1826 31) ≤ 2147483647 := hrg99.1 1826 13 31 _ .int rfl rfl
                  have g151 : -2147483648 ≤ (H97.1 1826 29) ∧ (H97.1 1826 29) ≤ 2147483647 := hrg99.1 1826 13 29 _ .int rfl rfl
                  have e152 : (H97.1 1826 29) = (H1.1 1826 29) := hx97f.2.2 29 (by decide)
                  have g153 : -2147483648 ≤ (H97.1 1826 28) ∧ (H97.1 1826 28) ≤ 2147483647 := hrg99.1 1826 13 28 _ .int rfl rfl
                  have e154 : (H97.1 1826 28) = (H1.1 1826 28) := hx97f.2.2 28 (by decide)
                  have g155 : -2147483648 ≤ (H97.1 1826 77) ∧ (H97.1 1826 77) ≤ 2147483647 := hrg99.1 1826 13 77 _ .int rfl rfl
                  have e156 : (H97.1 1826 77) = (H1.1 1826 77) := hx97f.2.2 77 (by decide)
                  have g157 : -2147483648 ≤ (H97.1 1826 74) ∧ (H97.1 1826 74) ≤ 2147483647 := hrg99.1 1826 13 74 _ .int rfl rfl
                  have e158 : (H97.1 1826 74) = (H1.1 1826 74) := hx97f.2.2 74 (by decide)
                  have g159 : -2147483648 ≤ (H97.1 1826 67) ∧ (H97.1 1826 67) ≤ 2147483647 := hrg99.1 1826 13 67 _ .int rfl rfl
                  have e160 : (H97.1 1826 67) = (H1.1 1826 67) := hx97f.2.2 67 (by decide)
                  have e161 : (H1.1 1826 67) = (H.1 1826 67) := hf.2.2 67 (by decide)
                  exact ih.1 _ dc hf100 (by omega : 0 ≤ (H97.1 1826 30) ∧ (H97.1 1826 30) ≤ (H97.1 1826 29) ∧ (H97.1 1826 29) ≤ 1000) (by omega : 0 ≤ (H97.1 1826 35) ∧ (H97.1 1826 35) ≤ 5) (by omega : 0 ≤ (H97.1 1826 32) ∧ (H97.1 1826 32) ≤ 1000) (by omega : (H97.1 1826 28) = 0) (by omega : (H97.1 1826 77) = (H.1 1826 77) ∧ (H97.1 1826 74) = (H.1 1826 74) ∧ (H97.1 1826 67) = (H.1 1826 67)) ha101 (fun (q : (H97.1 1826 35) = 0) => absurd q (by omega)) (Or.inr ⟨(by omega : (H97.1 1826 35) ≠ 0), BD_le (GB_b hx97n (by omega)) hmf⟩) (mu_lt2 hw (by omega : (H1.1 1826 35) = 0) (by omega : (H97.1 1826 29) = (H1.1 1826 29)) (by omega : (H97.1 1826 35) ≠ 0 ∨ ((H1.1 1826 30) ≤ (H97.1 1826 30) ∧ (H97.1 1826 30) ≤ (H1.1 1826 29) ∧ (((H97.1 1826 31) = 0 ∧ (H1.1 1826 31) ≠ 0) ∨ (H1.1 1826 30) < (H97.1 1826 30)))))
            · refine h_run 1 (pc' := 72) (l' := [(0, .inr (.inr 1826)), (1, .inl (H.1 1826 1)), (2, .inl (H.1 1826 3)), (3, .inl (H.1 1826 8)), (4, .inl (H.1 1826 13)), (5, .inl (H.1 1826 19)), (6, .inl dc)]) (st' := [.inr (.inr 1826)]) rfl ?_
              have g162 : -2147483648 ≤ (H1.1 1826 30) ∧ (H1.1 1826 30) ≤ 2147483647 := hrg1.1 1826 13 30 _ .int rfl rfl
              have g163 : -2147483648 ≤ (H1.1 1826 29) ∧ (H1.1 1826 29) ≤ 2147483647 := hrg1.1 1826 13 29 _ .int rfl rfl
              have g164 : -2147483648 ≤ (H1.1 1826 8) ∧ (H1.1 1826 8) ≤ 2147483647 := hrg1.1 1826 13 8 _ .int rfl rfl
              have g166 : -2147483648 ≤ (H1.1 1826 32) ∧ (H1.1 1826 32) ≤ 2147483647 := hrg1.1 1826 13 32 _ .int rfl rfl
              refine h_cv (i := 402) (j := 173) (b := 1826) (M' := mt_173) (xs := []) (rest := []) rfl rfl rfl rfl rfl rfl (Nat.le_of_ble_eq_true rfl) (Nat.le_of_ble_eq_true rfl) (by omega) (n_function (by omega) (by omega : 0 ≤ (H1.1 1826 30) ∧ (H1.1 1826 30) ≤ (H1.1 1826 29) ∧ (H1.1 1826 29) ≤ 1000) (by omega : 0 ≤ (H1.1 1826 35) ∧ (H1.1 1826 35) ≤ 5) (by omega : 0 ≤ (H1.1 1826 32) ∧ (H1.1 1826 32) ≤ 1000) (hP1 (by omega : (H1.1 1826 35) = 0)) (by omega : (H1.1 1826 35) = 0) hR1 (by omega : (H1.1 1826 8) = (H1.1 1826 8)) hq1 (by omega : tk Y (xi X1) = 5)) ?_
              rintro _ H165 ⟨rfl, hx165n, hx165f, hx165a, hx165c, -, hx165e, hx165g, hx165p⟩
              refine h_rng (fun hrg167 => ?_)
              have hf168 : fr [1, 3, 8, 13, 19, 28, 29, 30, 31, 32, 33, 34, 35, 36, 39, 40, 41, 43, 44, 47, 74, 76, 77] [1827, 1828, 1829, 1830, 1831, 1832, 1833, 1834, 1835, 1836, 1837, 1838, 1839, 1840, 1841, 1842, 1843, 1844, 1845, 1846, 1847, 1849, 1850, 1851, 1852, 1853, 1854] H H165 := fr_t hf hx165f (by decide) (by decide)
              have ha169 : agp H H165 := agp_tr hag hx165g
              replace hx165a : (H1.1 1826 30) ≤ (H165.1 1826 30) ∧ (H165.1 1826 30) ≤ (H1.1 1826 29) := hx165a
              replace hx165p : hid ((H165.1 1826 35) = 0 → PWc H165) := hx165p
              refine h_run 0 (pc' := 75) (l' := [(0, .inr (.inr 1826)), (1, .inl (H.1 1826 1)), (2, .inl (H.1 1826 3)), (3, .inl (H.1 1826 8)), (4, .inl (H.1 1826 13)), (5, .inl (H.1 1826 19)), (6, .inl dc)]) (st' := []) rfl ?_
              refine h_run 2 (pc' := 115) (l' := [(0, .inr (.inr 1826)), (1, .inl (H.1 1826 1)), (2, .inl (H.1 1826 3)), (3, .inl (H.1 1826 8)), (4, .inl (H.1 1826 13)), (5, .inl (H.1 1826 19)), (6, .inl dc)]) (st' := [.inr (.inr 1826)]) rfl ?_
              have g170 : -2147483648 ≤ (H165.1 1826 35) ∧ (H165.1 1826 35) ≤ 2147483647 := hrg167.1 1826 13 35 _ .int rfl rfl
              refine h_cv (i := 293) (j := 158) (b := 1826) (M' := mt_158) (xs := []) (rest := []) rfl rfl rfl rfl rfl rfl (Nat.le_of_ble_eq_true rfl) (Nat.le_of_ble_eq_true rfl) (by omega) (m_good (by omega)) ?_
              rintro _ _ ⟨⟨rfl, b171⟩ | ⟨rfl, b171⟩, rfl⟩
              · have b171x : (H165.1 1826 35) = 0 := b171
                refine h_run 0 (pc' := 118) (l' := [(0, .inr (.inr 1826)), (1, .inl (H.1 1826 1)), (2, .inl (H.1 1826 3)), (3, .inl (H.1 1826 8)), (4, .inl (H.1 1826 13)), (5, .inl (H.1 1826 19)), (6, .inl dc)]) (st' := [.inl 1]) rfl ?_
                refine h_zeq (off := 17) (t := 135) rfl rfl (by decide) (fun c => absurd c (by decide)) (fun _ => ?_)
                have g172 : -2147483648 ≤ (H165.1 1826 8) ∧ (H165.1 1826 8) ≤ 2147483647 := hrg167.1 1826 13 8 _ .int rfl rfl
                obtain ⟨X2, hq2, hR2x, hfn⟩ := GB_g hx165n (by omega)
                have hR2 : RK Y (H165.1 1826 8) H165 X2 := by rw [hfn]; exact hR2x
                have htk2 := RK_t hR2
                have hmf2 : (H.1 1826 8) ≤ (H165.1 1826 8) := by have q9 := hx165g.1.2.2.1; omega
                refine h_run 2 (pc' := 125) (l' := [(0, .inr (.inr 1826)), (1, .inl (H.1 1826 1)), (2, .inl (H.1 1826 3)), (3, .inl (H.1 1826 8)), (4, .inl (H.1 1826 13)), (5, .inl (H.1 1826 19)), (6, .inl dc)]) (st' := [.inl (H165.1 1826 31)]) rfl ?_
                have g173 : -2147483648 ≤ (H165.1 1826 31) ∧ (H165.1 1826 31) ≤ 2147483647 := hrg167.1 1826 13 31 _ .int rfl rfl
                refine h_run 1 (pc' := 127) (l' := [(0, .inr (.inr 1826)), (1, .inl (H.1 1826 1)), (2, .inl (H.1 1826 3)), (3, .inl (H.1 1826 8)), (4, .inl (H.1 1826 13)), (5, .inl (H.1 1826 19)), (6, .inl dc)]) (st' := [.inl 59, .inl (H165.1 1826 31)]) rfl ?_
                refine h_ieq (off := 8) (t := 135) rfl rfl (by omega) (by decide) (fun c174 => ?_) (fun c174 => ?_)
                · refine h_run 1 (pc' := 136) (l' := [(0, .inr (.inr 1826)), (1, .inl (H.1 1826 1)), (2, .inl (H.1 1826 3)), (3, .inl (H.1 1826 8)), (4, .inl (H.1 1826 13)), (5, .inl (H.1 1826 19)), (6, .inl dc)]) (st' := [.inr (.inr 1826)]) rfl ?_
                  refine h_cv (i := 293) (j := 158) (b := 1826) (M' := mt_158) (xs := []) (rest := []) rfl rfl rfl rfl rfl rfl (Nat.le_of_ble_eq_true rfl) (Nat.le_of_ble_eq_true rfl) (by omega) (m_good1 (by omega) (by omega : (H165.1 1826 35) = 0)) ?_
                  rintro _ _ ⟨rfl, rfl⟩
                  refine h_run 0 (pc' := 139) (l' := [(0, .inr (.inr 1826)), (1, .inl (H.1 1826 1)), (2, .inl (H.1 1826 3)), (3, .inl (H.1 1826 8)), (4, .inl (H.1 1826 13)), (5, .inl (H.1 1826 19)), (6, .inl dc)]) (st' := [.inl 1]) rfl ?_
                  refine h_zeq (off := -105) (t := 34) rfl rfl (by decide) (fun c => absurd c (by decide)) (fun _ => ?_)
                  have hq3 : rch Y ([(6, 0, 0, 0)], X) ([(6, dc + 1, 0, 0)], adv X2) := rch_st hq2 (by show (if tk Y (xi X2) = 59 then _ else _) = _; (repeat (first | rw [if_pos (by omega)] | rw [if_neg (by omega)])); try (first | rfl | (exfalso; omega)))
                  refine h_run 1 (pc' := 143) (l' := [(0, .inr (.inr 1826)), (1, .inl (H.1 1826 1)), (2, .inl (H.1 1826 3)), (3, .inl (H.1 1826 8)), (4, .inl (H.1 1826 13)), (5, .inl (H.1 1826 19)), (6, .inl dc)]) (st' := [.inr (.inr 1826)]) rfl ?_
                  have g175 : -2147483648 ≤ (H165.1 1826 30) ∧ (H165.1 1826 30) ≤ 2147483647 := hrg167.1 1826 13 30 _ .int rfl rfl
                  have g176 : -2147483648 ≤ (H165.1 1826 29) ∧ (H165.1 1826 29) ≤ 2147483647 := hrg167.1 1826 13 29 _ .int rfl rfl
                  have e177 : (H165.1 1826 29) = (H1.1 1826 29) := hx165f.2.2 29 (by decide)
                  have g178 : -2147483648 ≤ (H165.1 1826 32) ∧ (H165.1 1826 32) ≤ 2147483647 := hrg167.1 1826 13 32 _ .int rfl rfl
                  refine h_cv (i := 297) (j := 165) (b := 1826) (M' := mt_165) (xs := []) (rest := []) rfl rfl rfl rfl rfl rfl (Nat.le_of_ble_eq_true rfl) (Nat.le_of_ble_eq_true rfl) (by omega) (n_nx (by omega) (by omega : 0 ≤ (H165.1 1826 30) ∧ (H165.1 1826 30) ≤ (H165.1 1826 29) ∧ (H165.1 1826 29) ≤ 1000) (by omega : 0 ≤ (H165.1 1826 35) ∧ (H165.1 1826 35) ≤ 5) (by omega : 0 ≤ (H165.1 1826 32) ∧ (H165.1 1826 32) ≤ 1000) (by omega : (H165.1 1826 35) = 0) (X := (adv X2)) (RN_adv hR2 (fr_rf [] [] _) (by decide) (by decide)) hq3 (lk_n (by decide))) ?_
                  rintro _ H179 ⟨rfl, hx179n, hx179f, hx179a, hx179b, hx179c, -, hx179e, hx179g⟩
                  refine h_rng (fun hrg180 => ?_)
                  have hf181 : fr [1, 3, 8, 13, 19, 28, 29, 30, 31, 32, 33, 34, 35, 36, 39, 40, 41, 43, 44, 47, 74, 76, 77] [1827, 1828, 1829, 1830, 1831, 1832, 1833, 1834, 1835, 1836, 1837, 1838, 1839, 1840, 1841, 1842, 1843, 1844, 1845, 1846, 1847, 1849, 1850, 1851, 1852, 1853, 1854] H H179 := fr_t hf168 hx179f (by decide) (by decide)
                  have ha182 : agp H H179 := agp_tr ha169 (agp_fr hx179f (by decide) (by decide))
                  replace hx179a : (H165.1 1826 30) ≤ (H179.1 1826 30) := hx179a
                  replace hx179b : (H179.1 1826 30) ≤ (H165.1 1826 29) := hx179b
                  replace hx179g : (H179.1 1826 35) = 0 → ((H179.1 1826 31) = 0 ∨ (H165.1 1826 30) < (H179.1 1826 30)) := hx179g
                  refine h_run 0 (pc' := 146) (l' := [(0, .inr (.inr 1826)), (1, .inl (H.1 1826 1)), (2, .inl (H.1 1826 3)), (3, .inl (H.1 1826 8)), (4, .inl (H.1 1826 13)), (5, .inl (H.1 1826 19)), (6, .inl dc)]) (st' := []) rfl ?_
                  refine h_run 2 (pc' := 34) (l' := [(0, .inr (.inr 1826)), (1, .inl (H.1 1826 1)), (2, .inl (H.1 1826 3)), (3, .inl (H.1 1826 8)), (4, .inl (H.1 1826 13)), (5, .inl (H.1 1826 19)), (6, .inl (dc + 1))]) (st' := []) rfl ?_
                  have g183 : -2147483648 ≤ (H179.1 1826 30) ∧ (H179.1 1826 30) ≤ 2147483647 := hrg180.1 1826 13 30 _ .int rfl rfl
                  have g184 : -2147483648 ≤ (H179.1 1826 35) ∧ (H179.1 1826 35) ≤ 2147483647 := hrg180.1 1826 13 35 _ .int rfl rfl
                  have g185 : -2147483648 ≤ (H179.1 1826 32) ∧ (H179.1 1826 32) ≤ 2147483647 := hrg180.1 1826 13 32 _ .int rfl rfl
                  have g186 : -2147483648 ≤ (H179.1 1826 31) ∧ (H179.1 1826 31) ≤ 2147483647 := hrg180.1 1826 13 31 _ .int rfl rfl
                  have g187 : -2147483648 ≤ (H179.1 1826 29) ∧ (H179.1 1826 29) ≤ 2147483647 := hrg180.1 1826 13 29 _ .int rfl rfl
                  have e188 : (H179.1 1826 29) = (H165.1 1826 29) := hx179f.2.2 29 (by decide)
                  have g189 : -2147483648 ≤ (H179.1 1826 28) ∧ (H179.1 1826 28) ≤ 2147483647 := hrg180.1 1826 13 28 _ .int rfl rfl
                  have e190 : (H179.1 1826 28) = (H165.1 1826 28) := hx179f.2.2 28 (by decide)
                  have e191 : (H165.1 1826 28) = (H1.1 1826 28) := hx165f.2.2 28 (by decide)
                  have g192 : -2147483648 ≤ (H179.1 1826 77) ∧ (H179.1 1826 77) ≤ 2147483647 := hrg180.1 1826 13 77 _ .int rfl rfl
                  have e193 : (H179.1 1826 77) = (H165.1 1826 77) := hx179f.2.2 77 (by decide)
                  have e194 : (H165.1 1826 77) = (H1.1 1826 77) := hx165f.2.2 77 (by decide)
                  have g195 : -2147483648 ≤ (H179.1 1826 74) ∧ (H179.1 1826 74) ≤ 2147483647 := hrg180.1 1826 13 74 _ .int rfl rfl
                  have e196 : (H179.1 1826 74) = (H165.1 1826 74) := hx179f.2.2 74 (by decide)
                  have e197 : (H165.1 1826 74) = (H1.1 1826 74) := hx165f.2.2 74 (by decide)
                  have g198 : -2147483648 ≤ (H179.1 1826 67) ∧ (H179.1 1826 67) ≤ 2147483647 := hrg180.1 1826 13 67 _ .int rfl rfl
                  have e199 : (H179.1 1826 67) = (H165.1 1826 67) := hx179f.2.2 67 (by decide)
                  have e200 : (H165.1 1826 67) = (H1.1 1826 67) := hx165f.2.2 67 (by decide)
                  have e201 : (H1.1 1826 67) = (H.1 1826 67) := hf.2.2 67 (by decide)
                  exact ih.1 _ (dc + 1) hf181 (by omega : 0 ≤ (H179.1 1826 30) ∧ (H179.1 1826 30) ≤ (H179.1 1826 29) ∧ (H179.1 1826 29) ≤ 1000) (by omega : 0 ≤ (H179.1 1826 35) ∧ (H179.1 1826 35) ≤ 5) (by omega : 0 ≤ (H179.1 1826 32) ∧ (H179.1 1826 32) ≤ 1000) (by omega : (H179.1 1826 28) = 0) (by omega : (H179.1 1826 77) = (H.1 1826 77) ∧ (H179.1 1826 74) = (H.1 1826 74) ∧ (H179.1 1826 67) = (H.1 1826 67)) ha182 (fun _ => PWc_fr (hx165p (by omega)) hx179f (by decide) (by decide)) (GB_le hx179n hmf2 (fun q => ⟨_, hq3, (by rw [show (H179.1 1826 8) = _ from (hx179f.2.2 8 (by decide))]; exact q)⟩)) (mu_lt2 hw (by omega : (H1.1 1826 35) = 0) (by omega : (H179.1 1826 29) = (H1.1 1826 29)) (by omega : (H179.1 1826 35) ≠ 0 ∨ ((H1.1 1826 30) ≤ (H179.1 1826 30) ∧ (H179.1 1826 30) ≤ (H1.1 1826 29) ∧ (((H179.1 1826 31) = 0 ∧ (H1.1 1826 31) ≠ 0) ∨ (H1.1 1826 30) < (H179.1 1826 30)))))
                · refine h_run 2 (pc' := 132) (l' := [(0, .inr (.inr 1826)), (1, .inl (H.1 1826 1)), (2, .inl (H.1 1826 3)), (3, .inl (H.1 1826 8)), (4, .inl (H.1 1826 13)), (5, .inl (H.1 1826 19)), (6, .inl dc)]) (st' := [.inl 2, .inr (.inr 1826)]) rfl ?_
                  refine h_cv (i := 278) (j := 159) (b := 1826) (M' := mt_159) (xs := [.inl 2]) (rest := []) rfl rfl rfl rfl rfl rfl (Nat.le_of_ble_eq_true rfl) (Nat.le_of_ble_eq_true rfl) (by omega) (m_bad0 (by omega) (by omega) (by omega : (H165.1 1826 35) = 0)) ?_
                  rintro _ _ ⟨rfl, rfl⟩
                  refine h_run 0 (pc' := 135) (l' := [(0, .inr (.inr 1826)), (1, .inl (H.1 1826 1)), (2, .inl (H.1 1826 3)), (3, .inl (H.1 1826 8)), (4, .inl (H.1 1826 13)), (5, .inl (H.1 1826 19)), (6, .inl dc)]) (st' := []) rfl ?_
                  refine h_run 1 (pc' := 136) (l' := [(0, .inr (.inr 1826)), (1, .inl (H.1 1826 1)), (2, .inl (H.1 1826 3)), (3, .inl (H.1 1826 8)), (4, .inl (H.1 1826 13)), (5, .inl (H.1 1826 19)), (6, .inl dc)]) (st' := [.inr (.inr 1826)]) rfl ?_
                  refine h_cv (i := 293) (j := 158) (b := 1826) (M' := mt_158) (xs := []) (rest := []) rfl rfl rfl rfl rfl rfl (Nat.le_of_ble_eq_true rfl) (Nat.le_of_ble_eq_true rfl) (by omega) (m_good0 (by omega) (by omega : (2 : Int) ≠ 0)) ?_
                  rintro _ _ ⟨rfl, rfl⟩
                  refine h_run 0 (pc' := 139) (l' := [(0, .inr (.inr 1826)), (1, .inl (H.1 1826 1)), (2, .inl (H.1 1826 3)), (3, .inl (H.1 1826 8)), (4, .inl (H.1 1826 13)), (5, .inl (H.1 1826 19)), (6, .inl dc)]) (st' := [.inl 0]) rfl ?_
                  refine h_zeq (off := -105) (t := 34) rfl rfl (by decide) (fun _ => ?_) (fun c => absurd c (by decide))
                  have g202 : -2147483648 ≤ (H165.1 1826 30) ∧ (H165.1 1826 30) ≤ 2147483647 := hrg167.1 1826 13 30 _ .int rfl rfl
                  have g203 : -2147483648 ≤ (H165.1 1826 32) ∧ (H165.1 1826 32) ≤ 2147483647 := hrg167.1 1826 13 32 _ .int rfl rfl
                  have g204 : -2147483648 ≤ (H165.1 1826 29) ∧ (H165.1 1826 29) ≤ 2147483647 := hrg167.1 1826 13 29 _ .int rfl rfl
                  have e205 : (H165.1 1826 29) = (H1.1 1826 29) := hx165f.2.2 29 (by decide)
                  have g206 : -2147483648 ≤ (H165.1 1826 28) ∧ (H165.1 1826 28) ≤ 2147483647 := hrg167.1 1826 13 28 _ .int rfl rfl
                  have e207 : (H165.1 1826 28) = (H1.1 1826 28) := hx165f.2.2 28 (by decide)
                  have g208 : -2147483648 ≤ (H165.1 1826 77) ∧ (H165.1 1826 77) ≤ 2147483647 := hrg167.1 1826 13 77 _ .int rfl rfl
                  have e209 : (H165.1 1826 77) = (H1.1 1826 77) := hx165f.2.2 77 (by decide)
                  have g210 : -2147483648 ≤ (H165.1 1826 74) ∧ (H165.1 1826 74) ≤ 2147483647 := hrg167.1 1826 13 74 _ .int rfl rfl
                  have e211 : (H165.1 1826 74) = (H1.1 1826 74) := hx165f.2.2 74 (by decide)
                  have g212 : -2147483648 ≤ (H165.1 1826 67) ∧ (H165.1 1826 67) ≤ 2147483647 := hrg167.1 1826 13 67 _ .int rfl rfl
                  have e213 : (H165.1 1826 67) = (H1.1 1826 67) := hx165f.2.2 67 (by decide)
                  have e214 : (H1.1 1826 67) = (H.1 1826 67) := hf.2.2 67 (by decide)
                  exact ih.1 _ dc (fr_o (fr_o hf168 (by decide)) (by decide)) (by omega : 0 ≤ (H165.1 1826 30) ∧ (H165.1 1826 30) ≤ (H165.1 1826 29) ∧ (H165.1 1826 29) ≤ 1000) (by omega : 0 ≤ (2 : Int) ∧ (2 : Int) ≤ 5) (by omega : 0 ≤ (H165.1 1826 32) ∧ (H165.1 1826 32) ≤ 1000) (by omega : (H165.1 1826 28) = 0) (by omega : (H165.1 1826 77) = (H.1 1826 77) ∧ (H165.1 1826 74) = (H.1 1826 74) ∧ (H165.1 1826 67) = (H.1 1826 67)) (agp_o (agp_o ha169 (by decide)) (by decide)) (fun (q : (2 : Int) = 0) => absurd q (by omega)) (Or.inr ⟨(by omega : (2 : Int) ≠ 0), BD_le (BD_mk hR2 (fr_o (fr_o (fr_rf [35, 36] [] H165) (by decide)) (by decide)) (by decide) (by decide) (by decide : (2 : Int) ≠ 0) rfl rfl (rch_st hq2 (by show (if tk Y (xi X2) = 59 then _ else _) = _; unfold miss; (repeat (first | rw [if_pos (by omega)] | rw [if_neg (by omega)])); try (first | rfl | (exfalso; omega))))) hmf2⟩) (mu_lt2 hw (by omega : (H1.1 1826 35) = 0) (by omega : (H165.1 1826 29) = (H1.1 1826 29)) (by omega : (2 : Int) ≠ 0 ∨ ((H1.1 1826 30) ≤ (H165.1 1826 30) ∧ (H165.1 1826 30) ≤ (H1.1 1826 29) ∧ (((H165.1 1826 31) = 0 ∧ (H1.1 1826 31) ≠ 0) ∨ (H1.1 1826 30) < (H165.1 1826 30)))))
              · have b171x : (H165.1 1826 35) ≠ 0 := b171
                refine h_run 0 (pc' := 118) (l' := [(0, .inr (.inr 1826)), (1, .inl (H.1 1826 1)), (2, .inl (H.1 1826 3)), (3, .inl (H.1 1826 8)), (4, .inl (H.1 1826 13)), (5, .inl (H.1 1826 19)), (6, .inl dc)]) (st' := [.inl 0]) rfl ?_
                refine h_zeq (off := 17) (t := 135) rfl rfl (by decide) (fun _ => ?_) (fun c => absurd c (by decide))
                refine h_run 1 (pc' := 136) (l' := [(0, .inr (.inr 1826)), (1, .inl (H.1 1826 1)), (2, .inl (H.1 1826 3)), (3, .inl (H.1 1826 8)), (4, .inl (H.1 1826 13)), (5, .inl (H.1 1826 19)), (6, .inl dc)]) (st' := [.inr (.inr 1826)]) rfl ?_
                refine h_cv (i := 293) (j := 158) (b := 1826) (M' := mt_158) (xs := []) (rest := []) rfl rfl rfl rfl rfl rfl (Nat.le_of_ble_eq_true rfl) (Nat.le_of_ble_eq_true rfl) (by omega) (m_good0 (by omega) (by omega : (H165.1 1826 35) ≠ 0)) ?_
                rintro _ _ ⟨rfl, rfl⟩
                refine h_run 0 (pc' := 139) (l' := [(0, .inr (.inr 1826)), (1, .inl (H.1 1826 1)), (2, .inl (H.1 1826 3)), (3, .inl (H.1 1826 8)), (4, .inl (H.1 1826 13)), (5, .inl (H.1 1826 19)), (6, .inl dc)]) (st' := [.inl 0]) rfl ?_
                refine h_zeq (off := -105) (t := 34) rfl rfl (by decide) (fun _ => ?_) (fun c => absurd c (by decide))
                have g215 : -2147483648 ≤ (H165.1 1826 30) ∧ (H165.1 1826 30) ≤ 2147483647 := hrg167.1 1826 13 30 _ .int rfl rfl
                have g216 : -2147483648 ≤ (H165.1 1826 32) ∧ (H165.1 1826 32) ≤ 2147483647 := hrg167.1 1826 13 32 _ .int rfl rfl
                have g217 : -2147483648 ≤ (H165.1 1826 31) ∧ (H165.1 1826 31) ≤ 2147483647 := hrg167.1 1826 13 31 _ .int rfl rfl
                have g218 : -2147483648 ≤ (H165.1 1826 29) ∧ (H165.1 1826 29) ≤ 2147483647 := hrg167.1 1826 13 29 _ .int rfl rfl
                have e219 : (H165.1 1826 29) = (H1.1 1826 29) := hx165f.2.2 29 (by decide)
                have g220 : -2147483648 ≤ (H165.1 1826 28) ∧ (H165.1 1826 28) ≤ 2147483647 := hrg167.1 1826 13 28 _ .int rfl rfl
                have e221 : (H165.1 1826 28) = (H1.1 1826 28) := hx165f.2.2 28 (by decide)
                have g222 : -2147483648 ≤ (H165.1 1826 77) ∧ (H165.1 1826 77) ≤ 2147483647 := hrg167.1 1826 13 77 _ .int rfl rfl
                have e223 : (H165.1 1826 77) = (H1.1 1826 77) := hx165f.2.2 77 (by decide)
                have g224 : -2147483648 ≤ (H165.1 1826 74) ∧ (H165.1 1826 74) ≤ 2147483647 := hrg167.1 1826 13 74 _ .int rfl rfl
                have e225 : (H165.1 1826 74) = (H1.1 1826 74) := hx165f.2.2 74 (by decide)
                have g226 : -2147483648 ≤ (H165.1 1826 67) ∧ (H165.1 1826 67) ≤ 2147483647 := hrg167.1 1826 13 67 _ .int rfl rfl
                have e227 : (H165.1 1826 67) = (H1.1 1826 67) := hx165f.2.2 67 (by decide)
                have e228 : (H1.1 1826 67) = (H.1 1826 67) := hf.2.2 67 (by decide)
                exact ih.1 _ dc hf168 (by omega : 0 ≤ (H165.1 1826 30) ∧ (H165.1 1826 30) ≤ (H165.1 1826 29) ∧ (H165.1 1826 29) ≤ 1000) (by omega : 0 ≤ (H165.1 1826 35) ∧ (H165.1 1826 35) ≤ 5) (by omega : 0 ≤ (H165.1 1826 32) ∧ (H165.1 1826 32) ≤ 1000) (by omega : (H165.1 1826 28) = 0) (by omega : (H165.1 1826 77) = (H.1 1826 77) ∧ (H165.1 1826 74) = (H.1 1826 74) ∧ (H165.1 1826 67) = (H.1 1826 67)) ha169 (fun (q : (H165.1 1826 35) = 0) => absurd q (by omega)) (Or.inr ⟨(by omega : (H165.1 1826 35) ≠ 0), BD_le (GB_b hx165n (by omega)) hmf⟩) (mu_lt2 hw (by omega : (H1.1 1826 35) = 0) (by omega : (H165.1 1826 29) = (H1.1 1826 29)) (by omega : (H165.1 1826 35) ≠ 0 ∨ ((H1.1 1826 30) ≤ (H165.1 1826 30) ∧ (H165.1 1826 30) ≤ (H1.1 1826 29) ∧ (((H165.1 1826 31) = 0 ∧ (H1.1 1826 31) ≠ 0) ∨ (H1.1 1826 30) < (H165.1 1826 30)))))
          · refine h_run 1 (pc' := 57) (l' := [(0, .inr (.inr 1826)), (1, .inl (H.1 1826 1)), (2, .inl (H.1 1826 3)), (3, .inl (H.1 1826 8)), (4, .inl (H.1 1826 13)), (5, .inl (H.1 1826 19)), (6, .inl dc)]) (st' := [.inr (.inr 1826)]) rfl ?_
            have g229 : -2147483648 ≤ (H1.1 1826 30) ∧ (H1.1 1826 30) ≤ 2147483647 := hrg1.1 1826 13 30 _ .int rfl rfl
            have g230 : -2147483648 ≤ (H1.1 1826 29) ∧ (H1.1 1826 29) ≤ 2147483647 := hrg1.1 1826 13 29 _ .int rfl rfl
            have g231 : -2147483648 ≤ (H1.1 1826 8) ∧ (H1.1 1826 8) ≤ 2147483647 := hrg1.1 1826 13 8 _ .int rfl rfl
            have g233 : -2147483648 ≤ (H1.1 1826 32) ∧ (H1.1 1826 32) ≤ 2147483647 := hrg1.1 1826 13 32 _ .int rfl rfl
            refine h_cv (i := 399) (j := 170) (b := 1826) (M' := mt_170) (xs := []) (rest := []) rfl rfl rfl rfl rfl rfl (Nat.le_of_ble_eq_true rfl) (Nat.le_of_ble_eq_true rfl) (by omega) (n_data (by omega) (by omega : 0 ≤ (H1.1 1826 30) ∧ (H1.1 1826 30) ≤ (H1.1 1826 29) ∧ (H1.1 1826 29) ≤ 1000) (by omega : 0 ≤ (H1.1 1826 35) ∧ (H1.1 1826 35) ≤ 5) (by omega : 0 ≤ (H1.1 1826 32) ∧ (H1.1 1826 32) ≤ 1000) (hP1 (by omega : (H1.1 1826 35) = 0)) (by omega : (H1.1 1826 35) = 0) hR1 hq1 (by omega : tk Y (xi X1) = 4)) ?_
            rintro _ H232 ⟨rfl, hx232n, hx232f, hx232a, hx232c, -, hx232e, hx232g, hx232p⟩
            refine h_rng (fun hrg234 => ?_)
            have hf235 : fr [1, 3, 8, 13, 19, 28, 29, 30, 31, 32, 33, 34, 35, 36, 39, 40, 41, 43, 44, 47, 74, 76, 77] [1827, 1828, 1829, 1830, 1831, 1832, 1833, 1834, 1835, 1836, 1837, 1838, 1839, 1840, 1841, 1842, 1843, 1844, 1845, 1846, 1847, 1849, 1850, 1851, 1852, 1853, 1854] H H232 := fr_t hf hx232f (by decide) (by decide)
            have ha236 : agp H H232 := agp_tr hag hx232g
            replace hx232a : (H1.1 1826 30) ≤ (H232.1 1826 30) ∧ (H232.1 1826 30) ≤ (H1.1 1826 29) := hx232a
            replace hx232p : hid ((H232.1 1826 35) = 0 → PWc H232) := hx232p
            refine h_run 0 (pc' := 60) (l' := [(0, .inr (.inr 1826)), (1, .inl (H.1 1826 1)), (2, .inl (H.1 1826 3)), (3, .inl (H.1 1826 8)), (4, .inl (H.1 1826 13)), (5, .inl (H.1 1826 19)), (6, .inl dc)]) (st' := []) rfl ?_
            refine h_run 2 (pc' := 115) (l' := [(0, .inr (.inr 1826)), (1, .inl (H.1 1826 1)), (2, .inl (H.1 1826 3)), (3, .inl (H.1 1826 8)), (4, .inl (H.1 1826 13)), (5, .inl (H.1 1826 19)), (6, .inl dc)]) (st' := [.inr (.inr 1826)]) rfl ?_
            have g237 : -2147483648 ≤ (H232.1 1826 35) ∧ (H232.1 1826 35) ≤ 2147483647 := hrg234.1 1826 13 35 _ .int rfl rfl
            refine h_cv (i := 293) (j := 158) (b := 1826) (M' := mt_158) (xs := []) (rest := []) rfl rfl rfl rfl rfl rfl (Nat.le_of_ble_eq_true rfl) (Nat.le_of_ble_eq_true rfl) (by omega) (m_good (by omega)) ?_
            rintro _ _ ⟨⟨rfl, b238⟩ | ⟨rfl, b238⟩, rfl⟩
            · have b238x : (H232.1 1826 35) = 0 := b238
              refine h_run 0 (pc' := 118) (l' := [(0, .inr (.inr 1826)), (1, .inl (H.1 1826 1)), (2, .inl (H.1 1826 3)), (3, .inl (H.1 1826 8)), (4, .inl (H.1 1826 13)), (5, .inl (H.1 1826 19)), (6, .inl dc)]) (st' := [.inl 1]) rfl ?_
              refine h_zeq (off := 17) (t := 135) rfl rfl (by decide) (fun c => absurd c (by decide)) (fun _ => ?_)
              have g239 : -2147483648 ≤ (H232.1 1826 8) ∧ (H232.1 1826 8) ≤ 2147483647 := hrg234.1 1826 13 8 _ .int rfl rfl
              have e240 : (H232.1 1826 8) = (H1.1 1826 8) := hx232f.2.2 8 (by decide)
              obtain ⟨X2, hq2, hR2x⟩ := GB_g hx232n (by omega)
              have hR2 : RK Y (H232.1 1826 8) H232 X2 := by rw [show (H232.1 1826 8) = (H1.1 1826 8) from (hx232f.2.2 8 (by decide))]; exact hR2x
              have htk2 := RK_t hR2
              have hmf2 : (H.1 1826 8) ≤ (H232.1 1826 8) := by have q9 := hx232g.1.2.2.1; omega
              refine h_run 2 (pc' := 125) (l' := [(0, .inr (.inr 1826)), (1, .inl (H.1 1826 1)), (2, .inl (H.1 1826 3)), (3, .inl (H.1 1826 8)), (4, .inl (H.1 1826 13)), (5, .inl (H.1 1826 19)), (6, .inl dc)]) (st' := [.inl (H232.1 1826 31)]) rfl ?_
              have g241 : -2147483648 ≤ (H232.1 1826 31) ∧ (H232.1 1826 31) ≤ 2147483647 := hrg234.1 1826 13 31 _ .int rfl rfl
              refine h_run 1 (pc' := 127) (l' := [(0, .inr (.inr 1826)), (1, .inl (H.1 1826 1)), (2, .inl (H.1 1826 3)), (3, .inl (H.1 1826 8)), (4, .inl (H.1 1826 13)), (5, .inl (H.1 1826 19)), (6, .inl dc)]) (st' := [.inl 59, .inl (H232.1 1826 31)]) rfl ?_
              refine h_ieq (off := 8) (t := 135) rfl rfl (by omega) (by decide) (fun c242 => ?_) (fun c242 => ?_)
              · refine h_run 1 (pc' := 136) (l' := [(0, .inr (.inr 1826)), (1, .inl (H.1 1826 1)), (2, .inl (H.1 1826 3)), (3, .inl (H.1 1826 8)), (4, .inl (H.1 1826 13)), (5, .inl (H.1 1826 19)), (6, .inl dc)]) (st' := [.inr (.inr 1826)]) rfl ?_
                refine h_cv (i := 293) (j := 158) (b := 1826) (M' := mt_158) (xs := []) (rest := []) rfl rfl rfl rfl rfl rfl (Nat.le_of_ble_eq_true rfl) (Nat.le_of_ble_eq_true rfl) (by omega) (m_good1 (by omega) (by omega : (H232.1 1826 35) = 0)) ?_
                rintro _ _ ⟨rfl, rfl⟩
                refine h_run 0 (pc' := 139) (l' := [(0, .inr (.inr 1826)), (1, .inl (H.1 1826 1)), (2, .inl (H.1 1826 3)), (3, .inl (H.1 1826 8)), (4, .inl (H.1 1826 13)), (5, .inl (H.1 1826 19)), (6, .inl dc)]) (st' := [.inl 1]) rfl ?_
                refine h_zeq (off := -105) (t := 34) rfl rfl (by decide) (fun c => absurd c (by decide)) (fun _ => ?_)
                have hq3 : rch Y ([(6, 0, 0, 0)], X) ([(6, dc + 1, 0, 0)], adv X2) := rch_st hq2 (by show (if tk Y (xi X2) = 59 then _ else _) = _; (repeat (first | rw [if_pos (by omega)] | rw [if_neg (by omega)])); try (first | rfl | (exfalso; omega)))
                refine h_run 1 (pc' := 143) (l' := [(0, .inr (.inr 1826)), (1, .inl (H.1 1826 1)), (2, .inl (H.1 1826 3)), (3, .inl (H.1 1826 8)), (4, .inl (H.1 1826 13)), (5, .inl (H.1 1826 19)), (6, .inl dc)]) (st' := [.inr (.inr 1826)]) rfl ?_
                have g243 : -2147483648 ≤ (H232.1 1826 30) ∧ (H232.1 1826 30) ≤ 2147483647 := hrg234.1 1826 13 30 _ .int rfl rfl
                have g244 : -2147483648 ≤ (H232.1 1826 29) ∧ (H232.1 1826 29) ≤ 2147483647 := hrg234.1 1826 13 29 _ .int rfl rfl
                have e245 : (H232.1 1826 29) = (H1.1 1826 29) := hx232f.2.2 29 (by decide)
                have g246 : -2147483648 ≤ (H232.1 1826 32) ∧ (H232.1 1826 32) ≤ 2147483647 := hrg234.1 1826 13 32 _ .int rfl rfl
                refine h_cv (i := 297) (j := 165) (b := 1826) (M' := mt_165) (xs := []) (rest := []) rfl rfl rfl rfl rfl rfl (Nat.le_of_ble_eq_true rfl) (Nat.le_of_ble_eq_true rfl) (by omega) (n_nx (by omega) (by omega : 0 ≤ (H232.1 1826 30) ∧ (H232.1 1826 30) ≤ (H232.1 1826 29) ∧ (H232.1 1826 29) ≤ 1000) (by omega : 0 ≤ (H232.1 1826 35) ∧ (H232.1 1826 35) ≤ 5) (by omega : 0 ≤ (H232.1 1826 32) ∧ (H232.1 1826 32) ≤ 1000) (by omega : (H232.1 1826 35) = 0) (X := (adv X2)) (RN_adv hR2 (fr_rf [] [] _) (by decide) (by decide)) hq3 (lk_n (by decide))) ?_
                rintro _ H247 ⟨rfl, hx247n, hx247f, hx247a, hx247b, hx247c, -, hx247e, hx247g⟩
                refine h_rng (fun hrg248 => ?_)
                have hf249 : fr [1, 3, 8, 13, 19, 28, 29, 30, 31, 32, 33, 34, 35, 36, 39, 40, 41, 43, 44, 47, 74, 76, 77] [1827, 1828, 1829, 1830, 1831, 1832, 1833, 1834, 1835, 1836, 1837, 1838, 1839, 1840, 1841, 1842, 1843, 1844, 1845, 1846, 1847, 1849, 1850, 1851, 1852, 1853, 1854] H H247 := fr_t hf235 hx247f (by decide) (by decide)
                have ha250 : agp H H247 := agp_tr ha236 (agp_fr hx247f (by decide) (by decide))
                replace hx247a : (H232.1 1826 30) ≤ (H247.1 1826 30) := hx247a
                replace hx247b : (H247.1 1826 30) ≤ (H232.1 1826 29) := hx247b
                replace hx247g : (H247.1 1826 35) = 0 → ((H247.1 1826 31) = 0 ∨ (H232.1 1826 30) < (H247.1 1826 30)) := hx247g
                refine h_run 0 (pc' := 146) (l' := [(0, .inr (.inr 1826)), (1, .inl (H.1 1826 1)), (2, .inl (H.1 1826 3)), (3, .inl (H.1 1826 8)), (4, .inl (H.1 1826 13)), (5, .inl (H.1 1826 19)), (6, .inl dc)]) (st' := []) rfl ?_
                refine h_run 2 (pc' := 34) (l' := [(0, .inr (.inr 1826)), (1, .inl (H.1 1826 1)), (2, .inl (H.1 1826 3)), (3, .inl (H.1 1826 8)), (4, .inl (H.1 1826 13)), (5, .inl (H.1 1826 19)), (6, .inl (dc + 1))]) (st' := []) rfl ?_
                have g251 : -2147483648 ≤ (H247.1 1826 30) ∧ (H247.1 1826 30) ≤ 2147483647 := hrg248.1 1826 13 30 _ .int rfl rfl
                have g252 : -2147483648 ≤ (H247.1 1826 35) ∧ (H247.1 1826 35) ≤ 2147483647 := hrg248.1 1826 13 35 _ .int rfl rfl
                have g253 : -2147483648 ≤ (H247.1 1826 32) ∧ (H247.1 1826 32) ≤ 2147483647 := hrg248.1 1826 13 32 _ .int rfl rfl
                have g254 : -2147483648 ≤ (H247.1 1826 31) ∧ (H247.1 1826 31) ≤ 2147483647 := hrg248.1 1826 13 31 _ .int rfl rfl
                have g255 : -2147483648 ≤ (H247.1 1826 29) ∧ (H247.1 1826 29) ≤ 2147483647 := hrg248.1 1826 13 29 _ .int rfl rfl
                have e256 : (H247.1 1826 29) = (H232.1 1826 29) := hx247f.2.2 29 (by decide)
                have g257 : -2147483648 ≤ (H247.1 1826 28) ∧ (H247.1 1826 28) ≤ 2147483647 := hrg248.1 1826 13 28 _ .int rfl rfl
                have e258 : (H247.1 1826 28) = (H232.1 1826 28) := hx247f.2.2 28 (by decide)
                have e259 : (H232.1 1826 28) = (H1.1 1826 28) := hx232f.2.2 28 (by decide)
                have g260 : -2147483648 ≤ (H247.1 1826 77) ∧ (H247.1 1826 77) ≤ 2147483647 := hrg248.1 1826 13 77 _ .int rfl rfl
                have e261 : (H247.1 1826 77) = (H232.1 1826 77) := hx247f.2.2 77 (by decide)
                have e262 : (H232.1 1826 77) = (H1.1 1826 77) := hx232f.2.2 77 (by decide)
                have g263 : -2147483648 ≤ (H247.1 1826 74) ∧ (H247.1 1826 74) ≤ 2147483647 := hrg248.1 1826 13 74 _ .int rfl rfl
                have e264 : (H247.1 1826 74) = (H232.1 1826 74) := hx247f.2.2 74 (by decide)
                have e265 : (H232.1 1826 74) = (H1.1 1826 74) := hx232f.2.2 74 (by decide)
                have g266 : -2147483648 ≤ (H247.1 1826 67) ∧ (H247.1 1826 67) ≤ 2147483647 := hrg248.1 1826 13 67 _ .int rfl rfl
                have e267 : (H247.1 1826 67) = (H232.1 1826 67) := hx247f.2.2 67 (by decide)
                have e268 : (H232.1 1826 67) = (H1.1 1826 67) := hx232f.2.2 67 (by decide)
                have e269 : (H1.1 1826 67) = (H.1 1826 67) := hf.2.2 67 (by decide)
                exact ih.1 _ (dc + 1) hf249 (by omega : 0 ≤ (H247.1 1826 30) ∧ (H247.1 1826 30) ≤ (H247.1 1826 29) ∧ (H247.1 1826 29) ≤ 1000) (by omega : 0 ≤ (H247.1 1826 35) ∧ (H247.1 1826 35) ≤ 5) (by omega : 0 ≤ (H247.1 1826 32) ∧ (H247.1 1826 32) ≤ 1000) (by omega : (H247.1 1826 28) = 0) (by omega : (H247.1 1826 77) = (H.1 1826 77) ∧ (H247.1 1826 74) = (H.1 1826 74) ∧ (H247.1 1826 67) = (H.1 1826 67)) ha250 (fun _ => PWc_fr (hx232p (by omega)) hx247f (by decide) (by decide)) (GB_le hx247n hmf2 (fun q => ⟨_, hq3, (by rw [show (H247.1 1826 8) = _ from (hx247f.2.2 8 (by decide))]; exact q)⟩)) (mu_lt2 hw (by omega : (H1.1 1826 35) = 0) (by omega : (H247.1 1826 29) = (H1.1 1826 29)) (by omega : (H247.1 1826 35) ≠ 0 ∨ ((H1.1 1826 30) ≤ (H247.1 1826 30) ∧ (H247.1 1826 30) ≤ (H1.1 1826 29) ∧ (((H247.1 1826 31) = 0 ∧ (H1.1 1826 31) ≠ 0) ∨ (H1.1 1826 30) < (H247.1 1826 30)))))
              · refine h_run 2 (pc' := 132) (l' := [(0, .inr (.inr 1826)), (1, .inl (H.1 1826 1)), (2, .inl (H.1 1826 3)), (3, .inl (H.1 1826 8)), (4, .inl (H.1 1826 13)), (5, .inl (H.1 1826 19)), (6, .inl dc)]) (st' := [.inl 2, .inr (.inr 1826)]) rfl ?_
                refine h_cv (i := 278) (j := 159) (b := 1826) (M' := mt_159) (xs := [.inl 2]) (rest := []) rfl rfl rfl rfl rfl rfl (Nat.le_of_ble_eq_true rfl) (Nat.le_of_ble_eq_true rfl) (by omega) (m_bad0 (by omega) (by omega) (by omega : (H232.1 1826 35) = 0)) ?_
                rintro _ _ ⟨rfl, rfl⟩
                refine h_run 0 (pc' := 135) (l' := [(0, .inr (.inr 1826)), (1, .inl (H.1 1826 1)), (2, .inl (H.1 1826 3)), (3, .inl (H.1 1826 8)), (4, .inl (H.1 1826 13)), (5, .inl (H.1 1826 19)), (6, .inl dc)]) (st' := []) rfl ?_
                refine h_run 1 (pc' := 136) (l' := [(0, .inr (.inr 1826)), (1, .inl (H.1 1826 1)), (2, .inl (H.1 1826 3)), (3, .inl (H.1 1826 8)), (4, .inl (H.1 1826 13)), (5, .inl (H.1 1826 19)), (6, .inl dc)]) (st' := [.inr (.inr 1826)]) rfl ?_
                refine h_cv (i := 293) (j := 158) (b := 1826) (M' := mt_158) (xs := []) (rest := []) rfl rfl rfl rfl rfl rfl (Nat.le_of_ble_eq_true rfl) (Nat.le_of_ble_eq_true rfl) (by omega) (m_good0 (by omega) (by omega : (2 : Int) ≠ 0)) ?_
                rintro _ _ ⟨rfl, rfl⟩
                refine h_run 0 (pc' := 139) (l' := [(0, .inr (.inr 1826)), (1, .inl (H.1 1826 1)), (2, .inl (H.1 1826 3)), (3, .inl (H.1 1826 8)), (4, .inl (H.1 1826 13)), (5, .inl (H.1 1826 19)), (6, .inl dc)]) (st' := [.inl 0]) rfl ?_
                refine h_zeq (off := -105) (t := 34) rfl rfl (by decide) (fun _ => ?_) (fun c => absurd c (by decide))
                have g270 : -2147483648 ≤ (H232.1 1826 30) ∧ (H232.1 1826 30) ≤ 2147483647 := hrg234.1 1826 13 30 _ .int rfl rfl
                have g271 : -2147483648 ≤ (H232.1 1826 32) ∧ (H232.1 1826 32) ≤ 2147483647 := hrg234.1 1826 13 32 _ .int rfl rfl
                have g272 : -2147483648 ≤ (H232.1 1826 29) ∧ (H232.1 1826 29) ≤ 2147483647 := hrg234.1 1826 13 29 _ .int rfl rfl
                have e273 : (H232.1 1826 29) = (H1.1 1826 29) := hx232f.2.2 29 (by decide)
                have g274 : -2147483648 ≤ (H232.1 1826 28) ∧ (H232.1 1826 28) ≤ 2147483647 := hrg234.1 1826 13 28 _ .int rfl rfl
                have e275 : (H232.1 1826 28) = (H1.1 1826 28) := hx232f.2.2 28 (by decide)
                have g276 : -2147483648 ≤ (H232.1 1826 77) ∧ (H232.1 1826 77) ≤ 2147483647 := hrg234.1 1826 13 77 _ .int rfl rfl
                have e277 : (H232.1 1826 77) = (H1.1 1826 77) := hx232f.2.2 77 (by decide)
                have g278 : -2147483648 ≤ (H232.1 1826 74) ∧ (H232.1 1826 74) ≤ 2147483647 := hrg234.1 1826 13 74 _ .int rfl rfl
                have e279 : (H232.1 1826 74) = (H1.1 1826 74) := hx232f.2.2 74 (by decide)
                have g280 : -2147483648 ≤ (H232.1 1826 67) ∧ (H232.1 1826 67) ≤ 2147483647 := hrg234.1 1826 13 67 _ .int rfl rfl
                have e281 : (H232.1 1826 67) = (H1.1 1826 67) := hx232f.2.2 67 (by decide)
                have e282 : (H1.1 1826 67) = (H.1 1826 67) := hf.2.2 67 (by decide)
                exact ih.1 _ dc (fr_o (fr_o hf235 (by decide)) (by decide)) (by omega : 0 ≤ (H232.1 1826 30) ∧ (H232.1 1826 30) ≤ (H232.1 1826 29) ∧ (H232.1 1826 29) ≤ 1000) (by omega : 0 ≤ (2 : Int) ∧ (2 : Int) ≤ 5) (by omega : 0 ≤ (H232.1 1826 32) ∧ (H232.1 1826 32) ≤ 1000) (by omega : (H232.1 1826 28) = 0) (by omega : (H232.1 1826 77) = (H.1 1826 77) ∧ (H232.1 1826 74) = (H.1 1826 74) ∧ (H232.1 1826 67) = (H.1 1826 67)) (agp_o (agp_o ha236 (by decide)) (by decide)) (fun (q : (2 : Int) = 0) => absurd q (by omega)) (Or.inr ⟨(by omega : (2 : Int) ≠ 0), BD_le (BD_mk hR2 (fr_o (fr_o (fr_rf [35, 36] [] H232) (by decide)) (by decide)) (by decide) (by decide) (by decide : (2 : Int) ≠ 0) rfl rfl (rch_st hq2 (by show (if tk Y (xi X2) = 59 then _ else _) = _; unfold miss; (repeat (first | rw [if_pos (by omega)] | rw [if_neg (by omega)])); try (first | rfl | (exfalso; omega))))) hmf2⟩) (mu_lt2 hw (by omega : (H1.1 1826 35) = 0) (by omega : (H232.1 1826 29) = (H1.1 1826 29)) (by omega : (2 : Int) ≠ 0 ∨ ((H1.1 1826 30) ≤ (H232.1 1826 30) ∧ (H232.1 1826 30) ≤ (H1.1 1826 29) ∧ (((H232.1 1826 31) = 0 ∧ (H1.1 1826 31) ≠ 0) ∨ (H1.1 1826 30) < (H232.1 1826 30)))))
            · have b238x : (H232.1 1826 35) ≠ 0 := b238
              refine h_run 0 (pc' := 118) (l' := [(0, .inr (.inr 1826)), (1, .inl (H.1 1826 1)), (2, .inl (H.1 1826 3)), (3, .inl (H.1 1826 8)), (4, .inl (H.1 1826 13)), (5, .inl (H.1 1826 19)), (6, .inl dc)]) (st' := [.inl 0]) rfl ?_
              refine h_zeq (off := 17) (t := 135) rfl rfl (by decide) (fun _ => ?_) (fun c => absurd c (by decide))
              refine h_run 1 (pc' := 136) (l' := [(0, .inr (.inr 1826)), (1, .inl (H.1 1826 1)), (2, .inl (H.1 1826 3)), (3, .inl (H.1 1826 8)), (4, .inl (H.1 1826 13)), (5, .inl (H.1 1826 19)), (6, .inl dc)]) (st' := [.inr (.inr 1826)]) rfl ?_
              refine h_cv (i := 293) (j := 158) (b := 1826) (M' := mt_158) (xs := []) (rest := []) rfl rfl rfl rfl rfl rfl (Nat.le_of_ble_eq_true rfl) (Nat.le_of_ble_eq_true rfl) (by omega) (m_good0 (by omega) (by omega : (H232.1 1826 35) ≠ 0)) ?_
              rintro _ _ ⟨rfl, rfl⟩
              refine h_run 0 (pc' := 139) (l' := [(0, .inr (.inr 1826)), (1, .inl (H.1 1826 1)), (2, .inl (H.1 1826 3)), (3, .inl (H.1 1826 8)), (4, .inl (H.1 1826 13)), (5, .inl (H.1 1826 19)), (6, .inl dc)]) (st' := [.inl 0]) rfl ?_
              refine h_zeq (off := -105) (t := 34) rfl rfl (by decide) (fun _ => ?_) (fun c => absurd c (by decide))
              have g283 : -2147483648 ≤ (H232.1 1826 30) ∧ (H232.1 1826 30) ≤ 2147483647 := hrg234.1 1826 13 30 _ .int rfl rfl
              have g284 : -2147483648 ≤ (H232.1 1826 32) ∧ (H232.1 1826 32) ≤ 2147483647 := hrg234.1 1826 13 32 _ .int rfl rfl
              have g285 : -2147483648 ≤ (H232.1 1826 31) ∧ (H232.1 1826 31) ≤ 2147483647 := hrg234.1 1826 13 31 _ .int rfl rfl
              have g286 : -2147483648 ≤ (H232.1 1826 29) ∧ (H232.1 1826 29) ≤ 2147483647 := hrg234.1 1826 13 29 _ .int rfl rfl
              have e287 : (H232.1 1826 29) = (H1.1 1826 29) := hx232f.2.2 29 (by decide)
              have g288 : -2147483648 ≤ (H232.1 1826 28) ∧ (H232.1 1826 28) ≤ 2147483647 := hrg234.1 1826 13 28 _ .int rfl rfl
              have e289 : (H232.1 1826 28) = (H1.1 1826 28) := hx232f.2.2 28 (by decide)
              have g290 : -2147483648 ≤ (H232.1 1826 77) ∧ (H232.1 1826 77) ≤ 2147483647 := hrg234.1 1826 13 77 _ .int rfl rfl
              have e291 : (H232.1 1826 77) = (H1.1 1826 77) := hx232f.2.2 77 (by decide)
              have g292 : -2147483648 ≤ (H232.1 1826 74) ∧ (H232.1 1826 74) ≤ 2147483647 := hrg234.1 1826 13 74 _ .int rfl rfl
              have e293 : (H232.1 1826 74) = (H1.1 1826 74) := hx232f.2.2 74 (by decide)
              have g294 : -2147483648 ≤ (H232.1 1826 67) ∧ (H232.1 1826 67) ≤ 2147483647 := hrg234.1 1826 13 67 _ .int rfl rfl
              have e295 : (H232.1 1826 67) = (H1.1 1826 67) := hx232f.2.2 67 (by decide)
              have e296 : (H1.1 1826 67) = (H.1 1826 67) := hf.2.2 67 (by decide)
              exact ih.1 _ dc hf235 (by omega : 0 ≤ (H232.1 1826 30) ∧ (H232.1 1826 30) ≤ (H232.1 1826 29) ∧ (H232.1 1826 29) ≤ 1000) (by omega : 0 ≤ (H232.1 1826 35) ∧ (H232.1 1826 35) ≤ 5) (by omega : 0 ≤ (H232.1 1826 32) ∧ (H232.1 1826 32) ≤ 1000) (by omega : (H232.1 1826 28) = 0) (by omega : (H232.1 1826 77) = (H.1 1826 77) ∧ (H232.1 1826 74) = (H.1 1826 74) ∧ (H232.1 1826 67) = (H.1 1826 67)) ha236 (fun (q : (H232.1 1826 35) = 0) => absurd q (by omega)) (Or.inr ⟨(by omega : (H232.1 1826 35) ≠ 0), BD_le (GB_b hx232n (by omega)) hmf⟩) (mu_lt2 hw (by omega : (H1.1 1826 35) = 0) (by omega : (H232.1 1826 29) = (H1.1 1826 29)) (by omega : (H232.1 1826 35) ≠ 0 ∨ ((H1.1 1826 30) ≤ (H232.1 1826 30) ∧ (H232.1 1826 30) ≤ (H1.1 1826 29) ∧ (((H232.1 1826 31) = 0 ∧ (H1.1 1826 31) ≠ 0) ∨ (H1.1 1826 30) < (H232.1 1826 30)))))
      · have b3x : (H1.1 1826 35) ≠ 0 := b3
        refine h_run 0 (pc' := 38) (l' := [(0, .inr (.inr 1826)), (1, .inl (H.1 1826 1)), (2, .inl (H.1 1826 3)), (3, .inl (H.1 1826 8)), (4, .inl (H.1 1826 13)), (5, .inl (H.1 1826 19)), (6, .inl dc)]) (st' := [.inl 0]) rfl ?_
        refine h_zeq (off := 114) (t := 152) rfl rfl (by decide) (fun _ => ?_) (fun c => absurd c (by decide))
        refine h_run 1 (pc' := 153) (l' := [(0, .inr (.inr 1826)), (1, .inl (H.1 1826 1)), (2, .inl (H.1 1826 3)), (3, .inl (H.1 1826 8)), (4, .inl (H.1 1826 13)), (5, .inl (H.1 1826 19)), (6, .inl dc)]) (st' := [.inr (.inr 1826)]) rfl ?_
        refine h_cv (i := 293) (j := 158) (b := 1826) (M' := mt_158) (xs := []) (rest := []) rfl rfl rfl rfl rfl rfl (Nat.le_of_ble_eq_true rfl) (Nat.le_of_ble_eq_true rfl) (by omega) (m_good0 (by omega) (by omega : (H1.1 1826 35) ≠ 0)) ?_
        rintro _ _ ⟨rfl, rfl⟩
        refine h_run 0 (pc' := 156) (l' := [(0, .inr (.inr 1826)), (1, .inl (H.1 1826 1)), (2, .inl (H.1 1826 3)), (3, .inl (H.1 1826 8)), (4, .inl (H.1 1826 13)), (5, .inl (H.1 1826 19)), (6, .inl dc)]) (st' := [.inl 0]) rfl ?_
        refine h_zne (off := 47) (t := 203) rfl rfl (by decide) (fun c => absurd c (by decide)) (fun _ => ?_)
        refine h_run 2 (pc' := 161) (l' := [(0, .inr (.inr 1826)), (1, .inl (H.1 1826 1)), (2, .inl (H.1 1826 3)), (3, .inl (H.1 1826 8)), (4, .inl (H.1 1826 13)), (5, .inl (H.1 1826 19)), (6, .inl dc)]) (st' := [.inl (H.1 1826 1), .inr (.inr 1826)]) rfl ?_
        refine h_puti (i := 306) (ci := 13) (k := 1) (a := 1826) (x := (H.1 1826 1)) rfl rfl rfl rfl rfl rfl (by decide) (by omega) ?_
        refine h_run 2 (pc' := 166) (l' := [(0, .inr (.inr 1826)), (1, .inl (H.1 1826 1)), (2, .inl (H.1 1826 3)), (3, .inl (H.1 1826 8)), (4, .inl (H.1 1826 13)), (5, .inl (H.1 1826 19)), (6, .inl dc)]) (st' := [.inl (H.1 1826 3), .inr (.inr 1826)]) rfl ?_
        refine h_puti (i := 319) (ci := 13) (k := 3) (a := 1826) (x := (H.1 1826 3)) rfl rfl rfl rfl rfl rfl (by decide) (by omega) ?_
        refine h_run 2 (pc' := 171) (l' := [(0, .inr (.inr 1826)), (1, .inl (H.1 1826 1)), (2, .inl (H.1 1826 3)), (3, .inl (H.1 1826 8)), (4, .inl (H.1 1826 13)), (5, .inl (H.1 1826 19)), (6, .inl dc)]) (st' := [.inl (H.1 1826 8), .inr (.inr 1826)]) rfl ?_
        refine h_puti (i := 325) (ci := 13) (k := 8) (a := 1826) (x := (H.1 1826 8)) rfl rfl rfl rfl rfl rfl (by decide) (by omega) ?_
        refine h_run 2 (pc' := 177) (l' := [(0, .inr (.inr 1826)), (1, .inl (H.1 1826 1)), (2, .inl (H.1 1826 3)), (3, .inl (H.1 1826 8)), (4, .inl (H.1 1826 13)), (5, .inl (H.1 1826 19)), (6, .inl dc)]) (st' := [.inl (H.1 1826 13), .inr (.inr 1826)]) rfl ?_
        refine h_puti (i := 376) (ci := 13) (k := 13) (a := 1826) (x := (H.1 1826 13)) rfl rfl rfl rfl rfl rfl (by decide) (by omega) ?_
        refine h_run 2 (pc' := 183) (l' := [(0, .inr (.inr 1826)), (1, .inl (H.1 1826 1)), (2, .inl (H.1 1826 3)), (3, .inl (H.1 1826 8)), (4, .inl (H.1 1826 13)), (5, .inl (H.1 1826 19)), (6, .inl dc)]) (st' := [.inl (H.1 1826 19), .inr (.inr 1826)]) rfl ?_
        refine h_puti (i := 387) (ci := 13) (k := 19) (a := 1826) (x := (H.1 1826 19)) rfl rfl rfl rfl rfl rfl (by decide) (by omega) ?_
        refine h_run 3 (pc' := 191) (l' := [(0, .inr (.inr 1826)), (1, .inl (H.1 1826 1)), (2, .inl (H.1 1826 3)), (3, .inl (H.1 1826 8)), (4, .inl (H.1 1826 13)), (5, .inl (H.1 1826 19)), (6, .inl dc)]) (st' := [.inl (H1.1 1826 35), .inr (.inr 1826)]) rfl ?_
        refine h_puti (i := 411) (ci := 13) (k := 34) (a := 1826) (x := (H1.1 1826 35)) rfl rfl rfl rfl rfl rfl (by decide) (by omega) ?_
        refine h_run 3 (pc' := 201) (l' := [(0, .inr (.inr 1826)), (1, .inl (H.1 1826 1)), (2, .inl (H.1 1826 3)), (3, .inl (H.1 1826 8)), (4, .inl (H.1 1826 13)), (5, .inl (H.1 1826 19)), (6, .inl dc)]) (st' := [.inl (H1.1 1826 36), .inl (-1000)]) rfl ?_
        have g297 : -2147483648 ≤ (H1.1 1826 36) ∧ (H1.1 1826 36) ≤ 2147483647 := hrg1.1 1826 13 36 _ .int rfl rfl
        refine h_run 1 (pc' := 202) (l' := [(0, .inr (.inr 1826)), (1, .inl (H.1 1826 1)), (2, .inl (H.1 1826 3)), (3, .inl (H.1 1826 8)), (4, .inl (H.1 1826 13)), (5, .inl (H.1 1826 19)), (6, .inl dc)]) (st' := [.inl ((-1000) - (H1.1 1826 36))]) rfl ?_
        refine h_reti (x := ((-1000) - (H1.1 1826 36))) rfl rfl ?_
        have g298 : -2147483648 ≤ (H1.1 1826 32) ∧ (H1.1 1826 32) ≤ 2147483647 := hrg1.1 1826 13 32 _ .int rfl rfl
        have g299 : -2147483648 ≤ (H1.1 1826 28) ∧ (H1.1 1826 28) ≤ 2147483647 := hrg1.1 1826 13 28 _ .int rfl rfl
        have g300 : -2147483648 ≤ (H1.1 1826 77) ∧ (H1.1 1826 77) ≤ 2147483647 := hrg1.1 1826 13 77 _ .int rfl rfl
        have g301 : -2147483648 ≤ (H1.1 1826 74) ∧ (H1.1 1826 74) ≤ 2147483647 := hrg1.1 1826 13 74 _ .int rfl rfl
        exact ⟨⟨_, rfl, (Or.inr (by obtain ⟨q1, ⟨Xf, q2⟩, K2, X2, q3, q4⟩ := GB_b hRG (by omega); exact ⟨Xf, _, _, q2, rfl, rfl, (by show TA (H.1 1826 8) _ X; exact TA_back q4 (J_all hP0 hN0 q3) hA (Int.le_of_eq hT.2.2.1.1) (fr_o (fr_o (fr_o (fr_o (fr_o (fr_o (fr_rf [1, 3, 8, 13, 19, 34] [] H1) (by decide)) (by decide)) (by decide)) (by decide)) (by decide)) (by decide)) (by decide) hT.1.1 hT.2.1.1 hT.2.2.1.1 hT.2.2.2.1.1.1 hT.2.2.2.1.1.2)⟩))⟩, (fr_o (fr_o (fr_o (fr_o (fr_o (fr_o hf (by decide)) (by decide)) (by decide)) (by decide)) (by decide)) (by decide)), (by omega : (H1.1 1826 28) = 0), (by omega : 0 ≤ (H1.1 1826 32) ∧ (H1.1 1826 32) ≤ 1000), (agp_o (agp_n19 (agp_n13 (agp_n8 (agp_n3 (agp_n1 hag (by omega : (H.1 1826 1) ≤ (H.1 1826 1))) (by omega : (H.1 1826 3) ≤ (H.1 1826 3))) (by omega : (H.1 1826 8) ≤ (H.1 1826 8))) (by omega : (H.1 1826 13) ≤ (H.1 1826 13))) (by omega : (H.1 1826 19) ≤ (H.1 1826 19))) (by decide)), (id (PW_agp hP hag (Int.le_refl _) (Int.le_refl _) (Int.le_refl _) (Int.le_refl _)) : PW H1 (H.1 1826 1) (H.1 1826 3) (H.1 1826 8) (H.1 1826 13) (H.1 1826 19)), (by omega : (H1.1 1826 77) = 0 ∨ ((H1.1 1826 77) = (H.1 1826 77) ∧ (H1.1 1826 74) = (H.1 1826 74) ∧ (H.1 1826 19) = (H.1 1826 19) ∧ (H.1 1826 3) = (H.1 1826 3) ∧ (H.1 1826 8) = (H.1 1826 8)))⟩
    · intro H1 dc i hf ha hk hst1 htp hgl hag hP2 hi hRE hw
      refine h_rng (fun hrg302 => ?_)
      obtain ⟨⟨pb1, pb2, pb3, pb4, pb5⟩, pw1, pw2, pw3, pw4⟩ := (id hP : PW H (H.1 1826 1) (H.1 1826 3) (H.1 1826 8) (H.1 1826 13) (H.1 1826 19))
      obtain ⟨⟨qb1, qb2, qb3, qb4, qb5⟩, -⟩ := (id hP2 : PW H1 (H1.1 1826 1) (H1.1 1826 3) (H1.1 1826 8) (H1.1 1826 13) (H1.1 1826 19))
      refine h_run 3 (pc' := 212) (l' := [(0, .inr (.inr 1826)), (4, .inl (H.1 1826 13)), (6, .inl dc), (7, .inl (i : Int))]) (st' := [.inl (H1.1 1826 19), .inl (i : Int)]) rfl ?_
      have g303 : -2147483648 ≤ (H1.1 1826 19) ∧ (H1.1 1826 19) ≤ 2147483647 := hrg302.1 1826 13 19 _ .int rfl rfl
      refine h_ige (off := 26) (t := 238) rfl rfl (by omega) (by omega) (fun c304 => ?_) (fun c304 => ?_)
      · refine h_run 2 (pc' := 240) (l' := [(0, .inr (.inr 1826)), (4, .inl (H.1 1826 13)), (6, .inl dc), (7, .inl (i : Int))]) (st' := [.inl (-1), .inr (.inr 1826)]) rfl ?_
        refine h_puti (i := 150) (ci := 13) (k := 74) (a := 1826) (x := (-1)) rfl rfl rfl rfl rfl rfl (by decide) (by decide) ?_
        refine h_run 2 (pc' := 245) (l' := [(0, .inr (.inr 1826)), (4, .inl (H.1 1826 13)), (6, .inl dc), (7, .inl (i : Int))]) (st' := [.inl 0, .inr (.inr 1826)]) rfl ?_
        refine h_puti (i := 414) (ci := 13) (k := 77) (a := 1826) (x := 0) rfl rfl rfl rfl rfl rfl (by decide) (by decide) ?_
        refine h_run 2 (pc' := 250) (l' := [(0, .inr (.inr 1826)), (4, .inl (H.1 1826 13)), (6, .inl dc), (7, .inl (i : Int))]) (st' := [.inl 0, .inr (.inr 1826)]) rfl ?_
        refine h_puti (i := 417) (ci := 13) (k := 76) (a := 1826) (x := 0) rfl rfl rfl rfl rfl rfl (by decide) (by decide) ?_
        refine h_run 1 (pc' := 255) (l' := [(0, .inr (.inr 1826)), (4, .inl (H.1 1826 13)), (6, .inl dc), (7, .inl (i : Int))]) (st' := [.inl dc]) rfl ?_
        refine h_reti (x := dc) rfl rfl ?_
        have g305 : -2147483648 ≤ (H1.1 1826 32) ∧ (H1.1 1826 32) ≤ 2147483647 := hrg302.1 1826 13 32 _ .int rfl rfl
        have g306 : -2147483648 ≤ (H1.1 1826 28) ∧ (H1.1 1826 28) ≤ 2147483647 := hrg302.1 1826 13 28 _ .int rfl rfl
        have g307 : -2147483648 ≤ (H1.1 1826 3) ∧ (H1.1 1826 3) ≤ 2147483647 := hrg302.1 1826 13 3 _ .int rfl rfl
        have g308 : -2147483648 ≤ (H1.1 1826 8) ∧ (H1.1 1826 8) ≤ 2147483647 := hrg302.1 1826 13 8 _ .int rfl rfl
        exact ⟨⟨_, rfl, (Or.inl (by obtain ⟨X1, q1, q2⟩ := hRE; exact ⟨X1, q1, (by show TA (H1.1 1826 8) _ X1; exact TA_fr q2 (fr_o (fr_o (fr_o (fr_rf [74, 76, 77] [] H1) (by decide)) (by decide)) (by decide)) (by decide) (by decide))⟩))⟩, (fr_o (fr_o (fr_o hf (by decide)) (by decide)) (by decide)), (by omega : (H1.1 1826 28) = 0), (by omega : 0 ≤ (H1.1 1826 32) ∧ (H1.1 1826 32) ≤ 1000), (agp_o (agp_o (agp_o hag (by decide)) (by decide)) (by decide)), (PWc_o (PWc_o (PWc_o hP2 (by decide)) (by decide)) (by decide)), (by omega : (0 : Int) = 0 ∨ ((0 : Int) = (H.1 1826 77) ∧ (-1 : Int) = (H.1 1826 74) ∧ (H1.1 1826 19) = (H.1 1826 19) ∧ (H1.1 1826 3) = (H.1 1826 3) ∧ (H1.1 1826 8) = (H.1 1826 8)))⟩
      · refine h_run 2 (pc' := 219) (l' := [(0, .inr (.inr 1826)), (4, .inl (H.1 1826 13)), (6, .inl dc), (7, .inl (i : Int))]) (st' := [.inl (H1.1 1826 13)]) rfl ?_
        have g309 : -2147483648 ≤ (H1.1 1826 13) ∧ (H1.1 1826 13) ≤ 2147483647 := hrg302.1 1826 13 13 _ .int rfl rfl
        refine h_run 1 (pc' := 221) (l' := [(0, .inr (.inr 1826)), (4, .inl (H.1 1826 13)), (6, .inl dc), (7, .inl (i : Int))]) (st' := [.inl (H.1 1826 13), .inl (H1.1 1826 13)]) rfl ?_
        refine h_ile (off := 17) (t := 238) rfl rfl (by omega) (by omega) (fun c310 => ?_) (fun c310 => ?_)
        · refine h_run 2 (pc' := 240) (l' := [(0, .inr (.inr 1826)), (4, .inl (H.1 1826 13)), (6, .inl dc), (7, .inl (i : Int))]) (st' := [.inl (-1), .inr (.inr 1826)]) rfl ?_
          refine h_puti (i := 150) (ci := 13) (k := 74) (a := 1826) (x := (-1)) rfl rfl rfl rfl rfl rfl (by decide) (by decide) ?_
          refine h_run 2 (pc' := 245) (l' := [(0, .inr (.inr 1826)), (4, .inl (H.1 1826 13)), (6, .inl dc), (7, .inl (i : Int))]) (st' := [.inl 0, .inr (.inr 1826)]) rfl ?_
          refine h_puti (i := 414) (ci := 13) (k := 77) (a := 1826) (x := 0) rfl rfl rfl rfl rfl rfl (by decide) (by decide) ?_
          refine h_run 2 (pc' := 250) (l' := [(0, .inr (.inr 1826)), (4, .inl (H.1 1826 13)), (6, .inl dc), (7, .inl (i : Int))]) (st' := [.inl 0, .inr (.inr 1826)]) rfl ?_
          refine h_puti (i := 417) (ci := 13) (k := 76) (a := 1826) (x := 0) rfl rfl rfl rfl rfl rfl (by decide) (by decide) ?_
          refine h_run 1 (pc' := 255) (l' := [(0, .inr (.inr 1826)), (4, .inl (H.1 1826 13)), (6, .inl dc), (7, .inl (i : Int))]) (st' := [.inl dc]) rfl ?_
          refine h_reti (x := dc) rfl rfl ?_
          have g311 : -2147483648 ≤ (H1.1 1826 32) ∧ (H1.1 1826 32) ≤ 2147483647 := hrg302.1 1826 13 32 _ .int rfl rfl
          have g312 : -2147483648 ≤ (H1.1 1826 28) ∧ (H1.1 1826 28) ≤ 2147483647 := hrg302.1 1826 13 28 _ .int rfl rfl
          have g313 : -2147483648 ≤ (H1.1 1826 3) ∧ (H1.1 1826 3) ≤ 2147483647 := hrg302.1 1826 13 3 _ .int rfl rfl
          have g314 : -2147483648 ≤ (H1.1 1826 8) ∧ (H1.1 1826 8) ≤ 2147483647 := hrg302.1 1826 13 8 _ .int rfl rfl
          exact ⟨⟨_, rfl, (Or.inl (by obtain ⟨X1, q1, q2⟩ := hRE; exact ⟨X1, q1, (by show TA (H1.1 1826 8) _ X1; exact TA_fr q2 (fr_o (fr_o (fr_o (fr_rf [74, 76, 77] [] H1) (by decide)) (by decide)) (by decide)) (by decide) (by decide))⟩))⟩, (fr_o (fr_o (fr_o hf (by decide)) (by decide)) (by decide)), (by omega : (H1.1 1826 28) = 0), (by omega : 0 ≤ (H1.1 1826 32) ∧ (H1.1 1826 32) ≤ 1000), (agp_o (agp_o (agp_o hag (by decide)) (by decide)) (by decide)), (PWc_o (PWc_o (PWc_o hP2 (by decide)) (by decide)) (by decide)), (by omega : (0 : Int) = 0 ∨ ((0 : Int) = (H.1 1826 77) ∧ (-1 : Int) = (H.1 1826 74) ∧ (H1.1 1826 19) = (H.1 1826 19) ∧ (H1.1 1826 3) = (H.1 1826 3) ∧ (H1.1 1826 8) = (H.1 1826 8)))⟩
        · refine h_run 4 (pc' := 231) (l' := [(0, .inr (.inr 1826)), (4, .inl (H.1 1826 13)), (6, .inl dc), (7, .inl (i : Int))]) (st' := [.inl 0, .inl (i : Int), .inr (.inr 1847)]) rfl ?_
          refine h_ist (c := 1847) (j := i) (i := (i : Int)) (x := 0) rfl rfl (by decide) (by decide) rfl (by omega) (by decide) ?_
          refine h_run 2 (pc' := 206) (l' := [(0, .inr (.inr 1826)), (4, .inl (H.1 1826 13)), (6, .inl dc), (7, .inl ((i : Int) + 1))]) (st' := []) rfl ?_
          have g315 : -2147483648 ≤ (H1.1 1826 30) ∧ (H1.1 1826 30) ≤ 2147483647 := hrg302.1 1826 13 30 _ .int rfl rfl
          have g316 : -2147483648 ≤ (H1.1 1826 35) ∧ (H1.1 1826 35) ≤ 2147483647 := hrg302.1 1826 13 35 _ .int rfl rfl
          have g317 : -2147483648 ≤ (H1.1 1826 32) ∧ (H1.1 1826 32) ≤ 2147483647 := hrg302.1 1826 13 32 _ .int rfl rfl
          have g318 : -2147483648 ≤ (H1.1 1826 31) ∧ (H1.1 1826 31) ≤ 2147483647 := hrg302.1 1826 13 31 _ .int rfl rfl
          have g319 : -2147483648 ≤ (H1.1 1826 29) ∧ (H1.1 1826 29) ≤ 2147483647 := hrg302.1 1826 13 29 _ .int rfl rfl
          have g320 : -2147483648 ≤ (H1.1 1826 28) ∧ (H1.1 1826 28) ≤ 2147483647 := hrg302.1 1826 13 28 _ .int rfl rfl
          have g321 : -2147483648 ≤ (H1.1 1826 77) ∧ (H1.1 1826 77) ≤ 2147483647 := hrg302.1 1826 13 77 _ .int rfl rfl
          have g322 : -2147483648 ≤ (H1.1 1826 74) ∧ (H1.1 1826 74) ≤ 2147483647 := hrg302.1 1826 13 74 _ .int rfl rfl
          have g323 : -2147483648 ≤ (H1.1 1826 67) ∧ (H1.1 1826 67) ≤ 2147483647 := hrg302.1 1826 13 67 _ .int rfl rfl
          have e324 : (H1.1 1826 67) = (H.1 1826 67) := hf.2.2 67 (by decide)
          rw [show ((i : Int) + 1) = (((i + 1) : Nat) : Int) by omega]
          exact ih.2 _ dc (i + 1) (fr_a hf (by decide)) (by omega : 0 ≤ (H1.1 1826 30) ∧ (H1.1 1826 30) ≤ (H1.1 1826 29) ∧ (H1.1 1826 29) ≤ 1000) (by omega : 0 ≤ (H1.1 1826 35) ∧ (H1.1 1826 35) ≤ 5) (by omega : 0 ≤ (H1.1 1826 32) ∧ (H1.1 1826 32) ≤ 1000) (by omega : (H1.1 1826 28) = 0) (by omega : (H1.1 1826 77) = (H.1 1826 77) ∧ (H1.1 1826 74) = (H.1 1826 74) ∧ (H1.1 1826 67) = (H.1 1826 67)) (agp_a hag (by decide)) (PWc_a hP2 (by decide)) (by omega) (hRE.imp (fun X1 g => ⟨g.1, TA_fr g.2 (fr_a (fr_rf [] [1847] H1) (by decide)) (by decide) (by decide)⟩)) (by omega : 16 - (i + 1) < w)
set_option maxRecDepth 100000 in
theorem n_read {zC : Nat → Option zsh} {d : Nat} (hd : 10 ≤ d) {H : hp} {Y : yx} {X : rx} (ht : 0 ≤ (H.1 1826 28) ∧ (H.1 1826 28) ≤ 1000) (hst : 0 ≤ (H.1 1826 32) ∧ (H.1 1826 32) ≤ 1000) (hP : PWc H) (hB : TB Y H) (h00 : X 0 0 = 0) (hT : TA (H.1 1826 8) H X) (hA : AB X) (hP0 : P0 X) (hN0 : NN X) : hG (zs zC) d mt_192 0 (zargs 0 [.inr (.inr 1826)]) [] H (fun r H2 => (∃ r0 : Int, r = some (.inl r0) ∧ RQ9 Y X r0 H2) ∧ fr [1, 3, 8, 13, 19, 28, 29, 30, 31, 32, 33, 34, 35, 36, 39, 40, 41, 43, 44, 47, 74, 76, 77] [1827, 1828, 1829, 1830, 1831, 1832, 1833, 1834, 1835, 1836, 1837, 1838, 1839, 1840, 1841, 1842, 1843, 1844, 1845, 1846, 1847, 1849, 1850, 1851, 1852, 1853, 1854] H H2 ∧ (H2.1 1826 28) = 0 ∧ (0 ≤ (H2.1 1826 32) ∧ (H2.1 1826 32) ≤ 1000) ∧ agp H H2 ∧ PWc H2 ∧ ((H2.1 1826 77) = 0 ∨ ((H2.1 1826 77) = (H.1 1826 77) ∧ (H2.1 1826 74) = (H.1 1826 74) ∧ (H2.1 1826 19) = (H.1 1826 19) ∧ (H2.1 1826 3) = (H.1 1826 3) ∧ (H2.1 1826 8) = (H.1 1826 8)))) := by
  refine h_rng (fun hrg0 => ?_)
  refine h_run 0 (pc' := 0) (l' := [(0, .inr (.inr 1826))]) (st' := []) rfl ?_
  obtain ⟨⟨pb1, pb2, pb3, pb4, pb5⟩, pw1, pw2, pw3, pw4⟩ := (id hP : PW H (H.1 1826 1) (H.1 1826 3) (H.1 1826 8) (H.1 1826 13) (H.1 1826 19))
  refine h_run 2 (pc' := 4) (l' := [(0, .inr (.inr 1826))]) (st' := [.inl (H.1 1826 1)]) rfl ?_
  have g325 : -2147483648 ≤ (H.1 1826 1) ∧ (H.1 1826 1) ≤ 2147483647 := hrg0.1 1826 13 1 _ .int rfl rfl
  refine h_run 3 (pc' := 9) (l' := [(0, .inr (.inr 1826)), (1, .inl (H.1 1826 1))]) (st' := [.inl (H.1 1826 3)]) rfl ?_
  have g326 : -2147483648 ≤ (H.1 1826 3) ∧ (H.1 1826 3) ≤ 2147483647 := hrg0.1 1826 13 3 _ .int rfl rfl
  refine h_run 3 (pc' := 14) (l' := [(0, .inr (.inr 1826)), (1, .inl (H.1 1826 1)), (2, .inl (H.1 1826 3))]) (st' := [.inl (H.1 1826 8)]) rfl ?_
  have g327 : -2147483648 ≤ (H.1 1826 8) ∧ (H.1 1826 8) ≤ 2147483647 := hrg0.1 1826 13 8 _ .int rfl rfl
  refine h_run 3 (pc' := 19) (l' := [(0, .inr (.inr 1826)), (1, .inl (H.1 1826 1)), (2, .inl (H.1 1826 3)), (3, .inl (H.1 1826 8))]) (st' := [.inl (H.1 1826 13)]) rfl ?_
  have g328 : -2147483648 ≤ (H.1 1826 13) ∧ (H.1 1826 13) ≤ 2147483647 := hrg0.1 1826 13 13 _ .int rfl rfl
  refine h_run 3 (pc' := 25) (l' := [(0, .inr (.inr 1826)), (1, .inl (H.1 1826 1)), (2, .inl (H.1 1826 3)), (3, .inl (H.1 1826 8)), (4, .inl (H.1 1826 13))]) (st' := [.inl (H.1 1826 19)]) rfl ?_
  have g329 : -2147483648 ≤ (H.1 1826 19) ∧ (H.1 1826 19) ≤ 2147483647 := hrg0.1 1826 13 19 _ .int rfl rfl
  refine h_run 4 (pc' := 31) (l' := [(0, .inr (.inr 1826)), (1, .inl (H.1 1826 1)), (2, .inl (H.1 1826 3)), (3, .inl (H.1 1826 8)), (4, .inl (H.1 1826 13)), (5, .inl (H.1 1826 19)), (6, .inl 0)]) (st' := [.inr (.inr 1826)]) rfl ?_
  have g330 : -2147483648 ≤ (H.1 1826 28) ∧ (H.1 1826 28) ≤ 2147483647 := hrg0.1 1826 13 28 _ .int rfl rfl
  have g331 : -2147483648 ≤ (H.1 1826 32) ∧ (H.1 1826 32) ≤ 2147483647 := hrg0.1 1826 13 32 _ .int rfl rfl
  refine h_cv (i := 396) (j := 191) (b := 1826) (M' := mt_191) (xs := []) (rest := []) rfl rfl rfl rfl rfl rfl (Nat.le_of_ble_eq_true rfl) (Nat.le_of_ble_eq_true rfl) (by omega) (n_openTape (by omega) (by omega : 0 ≤ (H.1 1826 28) ∧ (H.1 1826 28) ≤ 1000) (by omega : 0 ≤ (H.1 1826 32) ∧ (H.1 1826 32) ≤ 1000) hB h00 hT (rch_rf Y ([(6, 0, 0, 0)], X)) (lk_n (n := 6) (by decide))) ?_
  rintro _ H332 ⟨rfl, hx332n, hx332f, hx332t, hx332a, hx332c, hx332e⟩
  refine h_rng (fun hrg333 => ?_)
  have hf334 : fr [1, 3, 8, 13, 19, 28, 29, 30, 31, 32, 33, 34, 35, 36, 39, 40, 41, 43, 44, 47, 74, 76, 77] [1827, 1828, 1829, 1830, 1831, 1832, 1833, 1834, 1835, 1836, 1837, 1838, 1839, 1840, 1841, 1842, 1843, 1844, 1845, 1846, 1847, 1849, 1850, 1851, 1852, 1853, 1854] H H332 := fr_t (fr_rf _ _ _) hx332f (by decide) (by decide)
  have ha335 : agp H H332 := agp_tr (agp_rf _) (agp_fr hx332f (by decide) (by decide))
  replace hx332t : (H332.1 1826 28) = 0 ∧ (H332.1 1826 29) = (H.1 1826 28) := hx332t
  refine h_run 0 (pc' := 34) (l' := [(0, .inr (.inr 1826)), (1, .inl (H.1 1826 1)), (2, .inl (H.1 1826 3)), (3, .inl (H.1 1826 8)), (4, .inl (H.1 1826 13)), (5, .inl (H.1 1826 19)), (6, .inl 0)]) (st' := []) rfl ?_
  have g336 : -2147483648 ≤ (H332.1 1826 30) ∧ (H332.1 1826 30) ≤ 2147483647 := hrg333.1 1826 13 30 _ .int rfl rfl
  have g337 : -2147483648 ≤ (H332.1 1826 35) ∧ (H332.1 1826 35) ≤ 2147483647 := hrg333.1 1826 13 35 _ .int rfl rfl
  have g338 : -2147483648 ≤ (H332.1 1826 32) ∧ (H332.1 1826 32) ≤ 2147483647 := hrg333.1 1826 13 32 _ .int rfl rfl
  have g339 : -2147483648 ≤ (H332.1 1826 31) ∧ (H332.1 1826 31) ≤ 2147483647 := hrg333.1 1826 13 31 _ .int rfl rfl
  have g340 : -2147483648 ≤ (H332.1 1826 29) ∧ (H332.1 1826 29) ≤ 2147483647 := hrg333.1 1826 13 29 _ .int rfl rfl
  have g341 : -2147483648 ≤ (H332.1 1826 28) ∧ (H332.1 1826 28) ≤ 2147483647 := hrg333.1 1826 13 28 _ .int rfl rfl
  have g342 : -2147483648 ≤ (H332.1 1826 77) ∧ (H332.1 1826 77) ≤ 2147483647 := hrg333.1 1826 13 77 _ .int rfl rfl
  have e343 : (H332.1 1826 77) = (H.1 1826 77) := hx332f.2.2 77 (by decide)
  have g344 : -2147483648 ≤ (H332.1 1826 74) ∧ (H332.1 1826 74) ≤ 2147483647 := hrg333.1 1826 13 74 _ .int rfl rfl
  have e345 : (H332.1 1826 74) = (H.1 1826 74) := hx332f.2.2 74 (by decide)
  have g346 : -2147483648 ≤ (H332.1 1826 67) ∧ (H332.1 1826 67) ≤ 2147483647 := hrg333.1 1826 13 67 _ .int rfl rfl
  have e347 : (H332.1 1826 67) = (H.1 1826 67) := hx332f.2.2 67 (by decide)
  exact (n_read_cut hd ht hst hP hB h00 hT hA hP0 hN0 _).1 _ (0 : Int) hf334 (by omega : 0 ≤ (H332.1 1826 30) ∧ (H332.1 1826 30) ≤ (H332.1 1826 29) ∧ (H332.1 1826 29) ≤ 1000) (by omega : 0 ≤ (H332.1 1826 35) ∧ (H332.1 1826 35) ≤ 5) (by omega : 0 ≤ (H332.1 1826 32) ∧ (H332.1 1826 32) ≤ 1000) (by omega : (H332.1 1826 28) = 0) (by omega : (H332.1 1826 77) = (H.1 1826 77) ∧ (H332.1 1826 74) = (H.1 1826 74) ∧ (H332.1 1826 67) = (H.1 1826 67)) ha335 (fun _ => PWc_fr hP hx332f (by decide) (by decide)) (GB_i hx332n (fun q => ⟨X, rch_rf _ _, (by rw [show (H332.1 1826 8) = (H.1 1826 8) from (hx332f.2.2 8 (by decide))]; exact q)⟩)) (Nat.lt_succ_self _)
