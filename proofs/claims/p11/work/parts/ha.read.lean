/-! the reference's reading against the machine: a text -/
theorem n_nx0 {zC : Nat → Option zsh} {d : Nat} (hd : 3 ≤ d) {H : hp} {Y : yx} {m : Int} {c0 : cf} {K : List tq} {X : rx} (h0 : 0 ≤ (H.1 1826 30) ∧ (H.1 1826 30) ≤ (H.1 1826 29) ∧ (H.1 1826 29) ≤ 1000) (hw : 0 ≤ (H.1 1826 35) ∧ (H.1 1826 35) ≤ 5) (hst : 0 ≤ (H.1 1826 32) ∧ (H.1 1826 32) ≤ 1000) (hw0 : (H.1 1826 35) = 0) (ha : (H.1 1826 30) = 0) (h00 : X 0 0 = 0) (hY : YB Y H) (hT : TA m H X) (hq : rch Y c0 (K, X)) (hK : lkK K) : hG (zs zC) d mt_165 0 (zargs 0 [.inr (.inr 1826)]) [] H (fun r H2 => r = none ∧ GB Y m c0 H2 (RK Y m H2 X) ∧ fr [30, 31, 32, 33, 35, 36] [] H H2 ∧ (H.1 1826 30) ≤ (H2.1 1826 30) ∧ (H2.1 1826 30) ≤ (H.1 1826 29) ∧ (0 ≤ (H2.1 1826 35) ∧ (H2.1 1826 35) ≤ 5) ∧ ((H.1 1826 35) ≠ 0 → (H2.1 1826 35) = (H.1 1826 35)) ∧ (0 ≤ (H2.1 1826 32) ∧ (H2.1 1826 32) ≤ 1000) ∧ ((H2.1 1826 35) = 0 → ((H2.1 1826 31) = 0 ∨ (H.1 1826 30) < (H2.1 1826 30)))) := by
  have hsz := hY.1
  have e1 : skp Y.1 ((H.1 1826 29) - (H.1 1826 30)).toNat ((H.1 1826 30)).toNat = tS Y.1 Y.2 0 := by
    rw [ha, show ((H.1 1826 29) - 0).toNat = Y.2 by omega]
    rfl
  refine h_mono (n_next hd h0 hw hst hw0 hY e1) ?_
  rintro r H2 ⟨hr, hn1, hn2, hn3, hn4, hn5, hn6, hn7, hnew⟩
  have hx : xi X = 0 := by
    unfold xi
    omega
  refine ⟨hr, ?_, hn1, hn2, hn3, hn4, hn5, hn6, hn7⟩
  have hT2 := TA_fr hT hn1 (by decide) (by decide)
  rcases hnew with ⟨q1, q2⟩ | ⟨q1, q2, q3⟩
  · exact Or.inl ⟨q1, q1, YB_fr hY hn1 (by decide) (by decide), by rw [hx]; exact q2, by omega, hT2⟩
  · obtain ⟨X', hX⟩ := bad_tk (Y := Y) (X := X) hK (by rw [hx]; exact q3)
    refine Or.inr ⟨by omega, by omega, ⟨X', ?_⟩, K, X, hq, hT2⟩
    rw [q1, q2]
    have e : ts Y (xi X) = ((tS Y.1 Y.2 0 : Nat) : Int) := by
      unfold ts
      rw [hx]
    rw [← e]
    exact rch_tr hq hX
/-- both tapes hold the same -/
def TB (Y : yx) (H : hp) : Prop := ((H.1 1826 28) = Y.2 ∧ Y.2 ≤ 1000) ∧ ∀ j : Nat, j < Y.2 → z_and ((H.1 1848) j) 255 = Y.1 j
theorem GB_tr {Y : yx} {m : Int} {c0 c1 : cf} {H : hp} {P : Prop} (r : rch Y c0 c1) (h : GB Y m c1 H P) : GB Y m c0 H P := h.imp id (fun q => ⟨q.1, q.2.1, q.2.2.1.imp (fun _ g => rch_tr r g), q.2.2.2.imp (fun _ q9 => q9.imp (fun _ g => ⟨rch_tr r g.1, g.2⟩))⟩)
/-- the sides told lie in the reference's rows -/
def RS9 (H : hp) (X : rx) : Prop := (∀ r : Nat, (r : Int) < X 0 6 → LQ H r X (4 * r + 100) ∧ RQr H r X (4 * r + 101)) ∧ ∀ l : Nat, (l : Int) < X 0 7 → WQ H (2 * l) X (4 * l + 102) ∧ WQ H (2 * l + 1) X (4 * l + 103) ∧ WV H l X
theorem RS9_ag {H K : hp} {X X1 : rx} (h : RS9 H X) (hM : MI X) (h6 : (H.1 1826 13) = X 0 6) (h7 : (H.1 1826 19) = X 0 7) (g : agp H K) (hl : LB X X1) (hr : ∀ r : Nat, X 0 6 ≤ (r : Int) → (r : Int) < X1 0 6 → LQ K r X1 (4 * r + 100) ∧ RQr K r X1 (4 * r + 101)) (hw : ∀ l : Nat, X 0 7 ≤ (l : Int) → (l : Int) < X1 0 7 → WQ K (2 * l) X1 (4 * l + 102) ∧ WQ K (2 * l + 1) X1 (4 * l + 103) ∧ WV K l X1) : RS9 K X1 := by
  obtain ⟨-, -, -, g4, g5⟩ := g
  refine ⟨fun r r2 => ?_, fun l l2 => ?_⟩
  · by_cases e : (r : Int) < X 0 6
    · obtain ⟨⟨a1, a2, a3⟩, b1, b2⟩ := h.1 r e
      obtain ⟨c1, c2, c3, c4⟩ := g4 r (by omega)
      have m0 := (hM.2.2 (4 * r + 100) (by omega)).1
      have m1 := (hM.2.2 (4 * r + 101) (by omega)).1
      unfold LQ RQr
      rw [(hl.2.1 r e).1, (hl.2.1 r e).2, c1, c2, c3]
      exact ⟨⟨a1, a2, fun x hx => by rw [(c4 x (by omega)).1]; exact a3 x hx⟩, b1, fun x hx => by rw [(c4 x (by omega)).2]; exact b2 x hx⟩
    · exact hr r (by omega) r2
  · by_cases e : (l : Int) < X 0 7
    · obtain ⟨⟨a1, a2⟩, ⟨b1, b2⟩, ⟨w1, w2⟩, w3⟩ := h.2 l e
      obtain ⟨c1, c2, c3, c4⟩ := g5 l (by omega)
      have m0 := (hM.2.2 (4 * l + 102) (by omega)).1
      have m1 := (hM.2.2 (4 * l + 103) (by omega)).1
      have d0 := c3 0 (by decide)
      have d1 := c3 1 (by decide)
      unfold WQ WV
      rw [(hl.2.2 l e).1, (hl.2.2 l e).2]
      refine ⟨⟨d0.trans a1, fun x hx => ?_⟩, ⟨d1.trans b1, fun x hx => ?_⟩, ⟨c1.trans w1, w2⟩, fun v hv => (c2 v (by omega)).trans (w3 v hv)⟩
      · have q := c4 x (by omega)
        rw [show 48 * (2 * l) + x = 96 * l + x by omega]
        rw [q]
        have q2 := a2 x hx
        rw [show 48 * (2 * l) + x = 96 * l + x by omega] at q2
        exact q2
      · have q := c4 (48 + x) (by omega)
        rw [show 48 * (2 * l + 1) + x = 96 * l + (48 + x) by omega, q]
        have q2 := b2 x hx
        rw [show 48 * (2 * l + 1) + x = 96 * l + (48 + x) by omega] at q2
        exact q2
    · exact hw l (by omega) l2
theorem RS9_same {H K : hp} {X : rx} (h : RS9 H X) (hM : MI X) (h6 : (H.1 1826 13) = X 0 6) (h7 : (H.1 1826 19) = X 0 7) (g : agp H K) : RS9 K X := RS9_ag h hM h6 h7 g (LB_rf X) (fun _ a b => absurd b (by omega)) (fun _ a b => absurd b (by omega))
theorem RS9_x {H : hp} {X X1 : rx} (h : RS9 H X) (e : ∀ c, 100 ≤ c → X1 c = X c) (e6 : X1 0 6 = X 0 6) (e7 : X1 0 7 = X 0 7) : RS9 H X1 := by
  refine ⟨fun r hr => ?_, fun l hl => ?_⟩
  · unfold LQ RQr
    rw [e _ (by omega), e _ (by omega)]
    exact h.1 r (by omega)
  · unfold WQ WV
    rw [e _ (by omega), e _ (by omega)]
    exact h.2 l (by omega)
theorem RS9_adv {H : hp} {X : rx} (h : RS9 H X) : RS9 H (adv X) := RS9_x h (fun c hc => xu_ne _ _ _ (by omega)) (adv_0 X (by decide)) (adv_0 X (by decide))
theorem RS9_fr {ob ar : List Nat} {H K : hp} {X : rx} (h : RS9 H X) (f : fr ob ar H K) (h1 : ∀ c ∈ [1836, 1837, 1838, 1839, 1840, 1842, 1843, 1845, 1846], c ∉ ar) : RS9 K X := ⟨fun r hr => ⟨LQ_fr (h.1 r hr).1 f (fun c hc => h1 c (by simp only [List.mem_cons, List.not_mem_nil, or_false] at hc ⊢; omega)), RQ_fr (h.1 r hr).2 f (fun c hc => h1 c (by simp only [List.mem_cons, List.not_mem_nil, or_false] at hc ⊢; omega))⟩, fun l hl => ⟨WQ_fr (h.2 l hl).1 f (fun c hc => h1 c (by simp only [List.mem_cons, List.not_mem_nil, or_false] at hc ⊢; omega)), WQ_fr (h.2 l hl).2.1 f (fun c hc => h1 c (by simp only [List.mem_cons, List.not_mem_nil, or_false] at hc ⊢; omega)), WV_fr (h.2 l hl).2.2 f (fun c hc => h1 c (by simp only [List.mem_cons, List.not_mem_nil, or_false] at hc ⊢; omega))⟩⟩
theorem GB_le {Y : yx} {m m' : Int} {c0 : cf} {H : hp} {P Q : Prop} (h : GB Y m c0 H P) (hm : m' ≤ m) (g : P → Q) : GB Y m' c0 H Q := h.imp (fun q => ⟨q.1, g q.2⟩) (fun q => ⟨q.1, BD_le q.2 hm⟩)
/-- what was told before stays -/
theorem TA_back {m : Int} {H K : hp} {X X2 : rx} {ob ar : List Nat} (h : TA m H X2) (j : JB X X2) (hA : AB X) (hm : m ≤ X 0 5) (f : fr ob ar H K) (h1 : ∀ c ∈ [1827, 1828, 1829, 1830, 1831, 1832, 1833, 1834, 1835, 1841], c ∉ ar) (v1 : (K.1 1826 1) = X 0 3) (v2 : (K.1 1826 3) = X 0 4) (v3 : (K.1 1826 8) = X 0 5) (v4 : (K.1 1826 13) = X 0 6) (v5 : (K.1 1826 19) = X 0 7) : TA m K X := by
  obtain ⟨⟨j3, j4, j5, j6, j7⟩, b1, b2, b3, b4⟩ := j
  obtain ⟨a1, a2, a3, a4, a5⟩ := h
  have e : ∀ c ∈ [1827, 1828, 1829, 1830, 1831, 1832, 1833, 1834, 1835, 1841], c ≠ 1826 → K.1 c = H.1 c := fun c hc hn => f.2.1 c hn (h1 c hc)
  unfold TA A1 A2 A3 A4 TF
  rw [e 1827 (by decide) (by decide), e 1828 (by decide) (by decide), e 1829 (by decide) (by decide), e 1830 (by decide) (by decide), e 1831 (by decide) (by decide), e 1832 (by decide) (by decide), e 1833 (by decide) (by decide), e 1834 (by decide) (by decide), e 1835 (by decide) (by decide), e 1841 (by decide) (by decide)]
  refine ⟨⟨v1, fun k hk => ?_⟩, ⟨v2, fun k hk => ?_⟩, ⟨v3, fun k hk => ?_⟩, ⟨⟨v4, v5⟩, fun k hk => ?_⟩, fun k hk => ?_⟩
  · rw [a1.2 k (by omega), b1 k hk]
  · obtain ⟨c1, c2, c3, c4⟩ := a2.2 k (by omega)
    obtain ⟨d1, d2, d3, d4⟩ := b2 k hk
    have := hA.1 k hk
    exact ⟨by rw [c1, d1], by rw [c2, d2], by rw [c3, d3], fun a ha => by rw [c4 a (by omega), d4 a (by omega)]⟩
  · obtain ⟨c1, c3, c4⟩ := a3.2 k (by omega)
    obtain ⟨d1, d2, d3, d4⟩ := b3 k hk
    have := hA.2 k hk
    exact ⟨by rw [c1, d1], by rw [c3, d3], fun a ha => by rw [c4 a (by omega), d4 a (by omega)]⟩
  · rw [a4.2 k (by omega), b4 k hk]
  · rw [a5 k hk, (b3 k (by omega)).2.1]
/-- what read() says, told by the machine -/
def RQ9 (Y : yx) (X : rx) (z : Int) (H : hp) : Prop := (∃ X1, rch Y ([(6, 0, 0, 0)], X) ([], xu X1 0 9 z) ∧ TA (H.1 1826 8) H X1 ∧ RS9 H X1) ∨ ∃ Xf k p, rch Y ([(6, 0, 0, 0)], X) ([(0, k, p, 0)], Xf) ∧ z = -1000 - p ∧ (H.1 1826 34) = k ∧ TA (H.1 1826 8) H X ∧ RS9 H X

/-! openTape -/
set_option maxRecDepth 100000 in
theorem n_openTape {zC : Nat → Option zsh} {d : Nat} (hd : 4 ≤ d) {H : hp}  {Y : yx} {m : Int} {c0 : cf} {K : List tq} {X : rx} (ht : 0 ≤ (H.1 1826 28) ∧ (H.1 1826 28) ≤ 1000) (hst : 0 ≤ (H.1 1826 32) ∧ (H.1 1826 32) ≤ 1000) (hB : TB Y H) (h00 : X 0 0 = 0) (hT : TA m H X) (hq : rch Y c0 (K, X)) (hK : lkK K) : hG (zs zC) d mt_191 0 (zargs 0 [.inr (.inr 1826)]) [] H (fun r H2 => r = none ∧ GB Y m c0 H2 (RK Y m H2 X) ∧ fr [30, 31, 32, 33, 35, 36, 28, 29] [] H H2 ∧ ((H2.1 1826 28) = 0 ∧ (H2.1 1826 29) = (H.1 1826 28)) ∧ (0 ≤ (H2.1 1826 30) ∧ (H2.1 1826 30) ≤ (H2.1 1826 29)) ∧ (0 ≤ (H2.1 1826 35) ∧ (H2.1 1826 35) ≤ 5) ∧ (0 ≤ (H2.1 1826 32) ∧ (H2.1 1826 32) ≤ 1000)) := by
  refine h_rng (fun hrg0 => ?_)
  refine h_run 0 (pc' := 0) (l' := [(0, .inr (.inr 1826))]) (st' := []) rfl ?_
  have hB1 := hB.1
  refine h_run 3 (pc' := 5) (l' := [(0, .inr (.inr 1826))]) (st' := [.inl (H.1 1826 28), .inr (.inr 1826)]) rfl ?_
  have g1 : -2147483648 ≤ (H.1 1826 28) ∧ (H.1 1826 28) ≤ 2147483647 := hrg0.1 1826 13 28 _ .int rfl rfl
  refine h_puti (i := 264) (ci := 13) (k := 29) (a := 1826) (x := (H.1 1826 28)) rfl rfl rfl rfl rfl rfl (by decide) (by omega) ?_
  refine h_run 2 (pc' := 10) (l' := [(0, .inr (.inr 1826))]) (st' := [.inl 0, .inr (.inr 1826)]) rfl ?_
  refine h_puti (i := 393) (ci := 13) (k := 28) (a := 1826) (x := 0) rfl rfl rfl rfl rfl rfl (by decide) (by decide) ?_
  refine h_run 2 (pc' := 15) (l' := [(0, .inr (.inr 1826))]) (st' := [.inl 0, .inr (.inr 1826)]) rfl ?_
  refine h_puti (i := 261) (ci := 13) (k := 30) (a := 1826) (x := 0) rfl rfl rfl rfl rfl rfl (by decide) (by decide) ?_
  refine h_run 2 (pc' := 20) (l' := [(0, .inr (.inr 1826))]) (st' := [.inl 0, .inr (.inr 1826)]) rfl ?_
  refine h_puti (i := 248) (ci := 13) (k := 35) (a := 1826) (x := 0) rfl rfl rfl rfl rfl rfl (by decide) (by decide) ?_
  refine h_run 1 (pc' := 24) (l' := [(0, .inr (.inr 1826))]) (st' := [.inr (.inr 1826)]) rfl ?_
  have g2 : -2147483648 ≤ (H.1 1826 32) ∧ (H.1 1826 32) ≤ 2147483647 := hrg0.1 1826 13 32 _ .int rfl rfl
  refine h_cv (i := 297) (j := 165) (b := 1826) (M' := mt_165) (xs := []) (rest := []) rfl rfl rfl rfl rfl rfl (Nat.le_of_ble_eq_true rfl) (Nat.le_of_ble_eq_true rfl) (by omega) (n_nx0 (by omega) (by omega : 0 ≤ (0 : Int) ∧ (0 : Int) ≤ (H.1 1826 28) ∧ (H.1 1826 28) ≤ 1000) (by omega : 0 ≤ (0 : Int) ∧ (0 : Int) ≤ 5) (by omega : 0 ≤ (H.1 1826 32) ∧ (H.1 1826 32) ≤ 1000) (by omega : (0 : Int) = 0) rfl h00 ⟨⟨(by omega : (H.1 1826 28) = (Y.2 : Int)), hB.1.2⟩, hB.2⟩ (TA_fr hT (fr_o (fr_o (fr_o (fr_o (fr_rf [28, 29, 30, 35] [] H) (by decide)) (by decide)) (by decide)) (by decide)) (by decide) (by decide)) hq hK) ?_
  rintro _ H3 ⟨rfl, hx3n, hx3f, hx3a, hx3b, hx3c, -, hx3e, hx3g⟩
  refine h_rng (fun hrg4 => ?_)
  have hf5 : fr [30, 31, 32, 33, 35, 36, 28, 29] [] H H3 := fr_t (fr_o (fr_o (fr_o (fr_o (fr_rf _ _ _) (by decide)) (by decide)) (by decide)) (by decide)) hx3f (by decide) (by decide)
  replace hx3a : (0 : Int) ≤ (H3.1 1826 30) := hx3a
  replace hx3b : (H3.1 1826 30) ≤ (H.1 1826 28) := hx3b
  replace hx3g : (H3.1 1826 35) = 0 → ((H3.1 1826 31) = 0 ∨ (0 : Int) < (H3.1 1826 30)) := hx3g
  refine h_run 0 (pc' := 27) (l' := [(0, .inr (.inr 1826))]) (st' := []) rfl ?_
  refine h_ret rfl rfl ?_
  have g6 : -2147483648 ≤ (H3.1 1826 28) ∧ (H3.1 1826 28) ≤ 2147483647 := hrg4.1 1826 13 28 _ .int rfl rfl
  have e7 : (H3.1 1826 28) = 0 := hx3f.2.2 28 (by decide)
  have g8 : -2147483648 ≤ (H3.1 1826 29) ∧ (H3.1 1826 29) ≤ 2147483647 := hrg4.1 1826 13 29 _ .int rfl rfl
  have e9 : (H3.1 1826 29) = (H.1 1826 28) := hx3f.2.2 29 (by decide)
  have g10 : -2147483648 ≤ (H3.1 1826 30) ∧ (H3.1 1826 30) ≤ 2147483647 := hrg4.1 1826 13 30 _ .int rfl rfl
  have g11 : -2147483648 ≤ (H3.1 1826 35) ∧ (H3.1 1826 35) ≤ 2147483647 := hrg4.1 1826 13 35 _ .int rfl rfl
  have g12 : -2147483648 ≤ (H3.1 1826 32) ∧ (H3.1 1826 32) ≤ 2147483647 := hrg4.1 1826 13 32 _ .int rfl rfl
  exact ⟨rfl, hx3n, hf5, (by omega : (H3.1 1826 28) = 0 ∧ (H3.1 1826 29) = (H.1 1826 28)), (by omega : 0 ≤ (H3.1 1826 30) ∧ (H3.1 1826 30) ≤ (H3.1 1826 29)), (by omega : 0 ≤ (H3.1 1826 35) ∧ (H3.1 1826 35) ≤ 5), (by omega : 0 ≤ (H3.1 1826 32) ∧ (H3.1 1826 32) ≤ 1000)⟩

/-! read -/
set_option maxRecDepth 100000 in
theorem n_read_cut {zC : Nat → Option zsh} {d : Nat} (hd : 10 ≤ d) {H : hp} {Y : yx} {X : rx} (ht : 0 ≤ (H.1 1826 28) ∧ (H.1 1826 28) ≤ 1000) (hst : 0 ≤ (H.1 1826 32) ∧ (H.1 1826 32) ≤ 1000) (hP : PWc H) (hB : TB Y H) (h00 : X 0 0 = 0) (hT : TA (H.1 1826 8) H X) (hA : AB X) (hP0 : P0 X) (hN0 : NN X) (hRS : RS9 H X) (hM : MI X) : ∀ w : Nat, (∀ (H1 : hp) (dc : Int), (fr [1, 3, 8, 13, 19, 28, 29, 30, 31, 32, 33, 34, 35, 36, 39, 40, 41, 43, 44, 47, 74, 76, 77] [1827, 1828, 1829, 1830, 1831, 1832, 1833, 1834, 1835, 1836, 1837, 1838, 1839, 1840, 1841, 1842, 1843, 1844, 1845, 1846, 1847, 1849, 1850, 1851, 1852, 1853, 1854] H H1) → (0 ≤ (H1.1 1826 30) ∧ (H1.1 1826 30) ≤ (H1.1 1826 29) ∧ (H1.1 1826 29) ≤ 1000) → (0 ≤ (H1.1 1826 35) ∧ (H1.1 1826 35) ≤ 5) → (0 ≤ (H1.1 1826 32) ∧ (H1.1 1826 32) ≤ 1000) → ((H1.1 1826 28) = 0) → ((H1.1 1826 77) = (H.1 1826 77) ∧ (H1.1 1826 74) = (H.1 1826 74) ∧ (H1.1 1826 67) = (H.1 1826 67)) → (agp H H1) → ((H1.1 1826 35) = 0 → PWc H1) → (GB Y (H.1 1826 8) ([(6, 0, 0, 0)], X) H1 (∃ X1 : rx, rch Y ([(6, 0, 0, 0)], X) ([(6, dc, 0, 0)], X1) ∧ RK Y (H1.1 1826 8) H1 X1 ∧ RS9 H1 X1)) → mu (H1.1 1826 35) (H1.1 1826 31) (H1.1 1826 30) (H1.1 1826 29) + 1000 < w → hG (zs zC) d mt_192 34 [(0, .inr (.inr 1826)), (1, .inl (H.1 1826 1)), (2, .inl (H.1 1826 3)), (3, .inl (H.1 1826 8)), (4, .inl (H.1 1826 13)), (5, .inl (H.1 1826 19)), (6, .inl dc)] [] H1 (fun r H2 => (∃ r0 : Int, r = some (.inl r0) ∧ RQ9 Y X r0 H2) ∧ fr [1, 3, 8, 13, 19, 28, 29, 30, 31, 32, 33, 34, 35, 36, 39, 40, 41, 43, 44, 47, 74, 76, 77] [1827, 1828, 1829, 1830, 1831, 1832, 1833, 1834, 1835, 1836, 1837, 1838, 1839, 1840, 1841, 1842, 1843, 1844, 1845, 1846, 1847, 1849, 1850, 1851, 1852, 1853, 1854] H H2 ∧ (H2.1 1826 28) = 0 ∧ (0 ≤ (H2.1 1826 32) ∧ (H2.1 1826 32) ≤ 1000) ∧ agp H H2 ∧ PWc H2 ∧ ((H2.1 1826 77) = 0 ∨ ((H2.1 1826 77) = (H.1 1826 77) ∧ (H2.1 1826 74) = (H.1 1826 74) ∧ (H2.1 1826 19) = (H.1 1826 19) ∧ (H2.1 1826 3) = (H.1 1826 3) ∧ (H2.1 1826 8) = (H.1 1826 8))))) ∧ (∀ (H1 : hp) (dc : Int) (i : Nat), (fr [1, 3, 8, 13, 19, 28, 29, 30, 31, 32, 33, 34, 35, 36, 39, 40, 41, 43, 44, 47, 74, 76, 77] [1827, 1828, 1829, 1830, 1831, 1832, 1833, 1834, 1835, 1836, 1837, 1838, 1839, 1840, 1841, 1842, 1843, 1844, 1845, 1846, 1847, 1849, 1850, 1851, 1852, 1853, 1854] H H1) → (0 ≤ (H1.1 1826 30) ∧ (H1.1 1826 30) ≤ (H1.1 1826 29) ∧ (H1.1 1826 29) ≤ 1000) → (0 ≤ (H1.1 1826 35) ∧ (H1.1 1826 35) ≤ 5) → (0 ≤ (H1.1 1826 32) ∧ (H1.1 1826 32) ≤ 1000) → ((H1.1 1826 28) = 0) → ((H1.1 1826 77) = (H.1 1826 77) ∧ (H1.1 1826 74) = (H.1 1826 74) ∧ (H1.1 1826 67) = (H.1 1826 67)) → (agp H H1) → (PWc H1) → (i ≤ 16) → (∃ X1 : rx, rch Y ([(6, 0, 0, 0)], X) ([], xu X1 0 9 dc) ∧ TA (H1.1 1826 8) H1 X1 ∧ RS9 H1 X1) → 16 - i < w → hG (zs zC) d mt_192 206 [(0, .inr (.inr 1826)), (4, .inl (H.1 1826 13)), (6, .inl dc), (7, .inl (i : Int))] [] H1 (fun r H2 => (∃ r0 : Int, r = some (.inl r0) ∧ RQ9 Y X r0 H2) ∧ fr [1, 3, 8, 13, 19, 28, 29, 30, 31, 32, 33, 34, 35, 36, 39, 40, 41, 43, 44, 47, 74, 76, 77] [1827, 1828, 1829, 1830, 1831, 1832, 1833, 1834, 1835, 1836, 1837, 1838, 1839, 1840, 1841, 1842, 1843, 1844, 1845, 1846, 1847, 1849, 1850, 1851, 1852, 1853, 1854] H H2 ∧ (H2.1 1826 28) = 0 ∧ (0 ≤ (H2.1 1826 32) ∧ (H2.1 1826 32) ≤ 1000) ∧ agp H H2 ∧ PWc H2 ∧ ((H2.1 1826 77) = 0 ∨ ((H2.1 1826 77) = (H.1 1826 77) ∧ (H2.1 1826 74) = (H.1 1826 74) ∧ (H2.1 1826 19) = (H.1 1826 19) ∧ (H2.1 1826 3) = (H.1 1826 3) ∧ (H2.1 1826 8) = (H.1 1826 8))))) := by
  intro w
  induction w with
  | zero => exact ⟨fun _ _ _ _ _ _ _ _ _ _ _ h => absurd h (Nat.not_lt_zero _), fun _ _ _ _ _ _ _ _ _ _ _ _ _ h => absurd h (Nat.not_lt_zero _)⟩
  | succ w ih =>
    refine ⟨?_, ?_⟩
    · intro H1 dc hf ha hk hst1 htp hgl hag hP1 hRG hw
      refine h_rng (fun hrg1 => ?_)
      obtain ⟨⟨pb1, pb2, pb3, pb4, pb5⟩, pw1, pw2, pw3, pw4⟩ := (id hP : PW H (H.1 1826 1) (H.1 1826 3) (H.1 1826 8) (H.1 1826 13) (H.1 1826 19))
      have hmf : (H.1 1826 8) ≤ (H1.1 1826 8) := hag.1.2.2.1
      refine h_run 1 (pc' := 35) (l' := [(0, .inr (.inr 1826)), (1, .inl (H.1 1826 1)), (2, .inl (H.1 1826 3)), (3, .inl (H.1 1826 8)), (4, .inl (H.1 1826 13)), (5, .inl (H.1 1826 19)), (6, .inl dc)]) (st' := [.inr (.inr 1826)]) rfl ?_
      have g2 : -2147483648 ≤ (H1.1 1826 35) ∧ (H1.1 1826 35) ≤ 2147483647 := hrg1.1 1826 13 35 _ .int rfl rfl
      refine h_cv (i := 293) (j := 158) (b := 1826) (M' := mt_158) (xs := []) (rest := []) rfl rfl rfl rfl rfl rfl (Nat.le_of_ble_eq_true rfl) (Nat.le_of_ble_eq_true rfl) (by omega) (m_good (by omega)) ?_
      rintro _ _ ⟨⟨rfl, b3⟩ | ⟨rfl, b3⟩, rfl⟩
      · have b3x : (H1.1 1826 35) = 0 := b3
        refine h_run 0 (pc' := 38) (l' := [(0, .inr (.inr 1826)), (1, .inl (H.1 1826 1)), (2, .inl (H.1 1826 3)), (3, .inl (H.1 1826 8)), (4, .inl (H.1 1826 13)), (5, .inl (H.1 1826 19)), (6, .inl dc)]) (st' := [.inl 1]) rfl ?_
        refine h_zeq (off := 114) (t := 152) rfl rfl (by decide) (fun c => absurd c (by decide)) (fun _ => ?_)
        obtain ⟨X1, hq1, hR1, hS1⟩ := GB_g hRG (by omega)
        have htk1 := RK_t hR1
        obtain ⟨hM1, hP1x, hJL⟩ := JL_all hP0 hN0 hM hq1
        refine h_run 2 (pc' := 45) (l' := [(0, .inr (.inr 1826)), (1, .inl (H.1 1826 1)), (2, .inl (H.1 1826 3)), (3, .inl (H.1 1826 8)), (4, .inl (H.1 1826 13)), (5, .inl (H.1 1826 19)), (6, .inl dc)]) (st' := [.inl (H1.1 1826 31)]) rfl ?_
        have g4 : -2147483648 ≤ (H1.1 1826 31) ∧ (H1.1 1826 31) ≤ 2147483647 := hrg1.1 1826 13 31 _ .int rfl rfl
        refine h_zeq (off := 107) (t := 152) rfl rfl (by omega) (fun c5 => ?_) (fun c5 => ?_)
        · refine h_run 1 (pc' := 153) (l' := [(0, .inr (.inr 1826)), (1, .inl (H.1 1826 1)), (2, .inl (H.1 1826 3)), (3, .inl (H.1 1826 8)), (4, .inl (H.1 1826 13)), (5, .inl (H.1 1826 19)), (6, .inl dc)]) (st' := [.inr (.inr 1826)]) rfl ?_
          refine h_cv (i := 293) (j := 158) (b := 1826) (M' := mt_158) (xs := []) (rest := []) rfl rfl rfl rfl rfl rfl (Nat.le_of_ble_eq_true rfl) (Nat.le_of_ble_eq_true rfl) (by omega) (m_good1 (by omega) (by omega : (H1.1 1826 35) = 0)) ?_
          rintro _ _ ⟨rfl, rfl⟩
          refine h_run 0 (pc' := 156) (l' := [(0, .inr (.inr 1826)), (1, .inl (H.1 1826 1)), (2, .inl (H.1 1826 3)), (3, .inl (H.1 1826 8)), (4, .inl (H.1 1826 13)), (5, .inl (H.1 1826 19)), (6, .inl dc)]) (st' := [.inl 1]) rfl ?_
          refine h_zne (off := 47) (t := 203) rfl rfl (by decide) (fun _ => ?_) (fun c => absurd c (by decide))
          have hqe : rch Y ([(6, 0, 0, 0)], X) ([], xu X1 0 9 dc) := rch_st hq1 (by show stDec Y dc [] X1 = _; unfold stDec; (repeat (first | rw [if_pos (by omega)] | rw [if_neg (by omega)])); try (first | rfl | (exfalso; omega)))
          refine h_run 2 (pc' := 206) (l' := [(0, .inr (.inr 1826)), (1, .inl (H.1 1826 1)), (2, .inl (H.1 1826 3)), (3, .inl (H.1 1826 8)), (4, .inl (H.1 1826 13)), (5, .inl (H.1 1826 19)), (6, .inl dc), (7, .inl 0)]) (st' := []) rfl ?_
          have g6 : -2147483648 ≤ (H1.1 1826 30) ∧ (H1.1 1826 30) ≤ 2147483647 := hrg1.1 1826 13 30 _ .int rfl rfl
          have g7 : -2147483648 ≤ (H1.1 1826 32) ∧ (H1.1 1826 32) ≤ 2147483647 := hrg1.1 1826 13 32 _ .int rfl rfl
          have g8 : -2147483648 ≤ (H1.1 1826 29) ∧ (H1.1 1826 29) ≤ 2147483647 := hrg1.1 1826 13 29 _ .int rfl rfl
          have g9 : -2147483648 ≤ (H1.1 1826 28) ∧ (H1.1 1826 28) ≤ 2147483647 := hrg1.1 1826 13 28 _ .int rfl rfl
          have g10 : -2147483648 ≤ (H1.1 1826 77) ∧ (H1.1 1826 77) ≤ 2147483647 := hrg1.1 1826 13 77 _ .int rfl rfl
          have g11 : -2147483648 ≤ (H1.1 1826 74) ∧ (H1.1 1826 74) ≤ 2147483647 := hrg1.1 1826 13 74 _ .int rfl rfl
          have g12 : -2147483648 ≤ (H1.1 1826 67) ∧ (H1.1 1826 67) ≤ 2147483647 := hrg1.1 1826 13 67 _ .int rfl rfl
          have e13 : (H1.1 1826 67) = (H.1 1826 67) := hf.2.2 67 (by decide)
          refine h_loc [0, 4, 6, 7] rfl ?_
          exact ih.2 _ dc 0 hf (by omega : 0 ≤ (H1.1 1826 30) ∧ (H1.1 1826 30) ≤ (H1.1 1826 29) ∧ (H1.1 1826 29) ≤ 1000) (by omega : 0 ≤ (H1.1 1826 35) ∧ (H1.1 1826 35) ≤ 5) (by omega : 0 ≤ (H1.1 1826 32) ∧ (H1.1 1826 32) ≤ 1000) (by omega : (H1.1 1826 28) = 0) (by omega : (H1.1 1826 77) = (H.1 1826 77) ∧ (H1.1 1826 74) = (H.1 1826 74) ∧ (H1.1 1826 67) = (H.1 1826 67)) hag (hP1 (by omega)) (by omega) ⟨X1, hqe, hR1.2.2.2.2, hS1⟩ (by omega : 16 - 0 < w)
        · refine h_run 2 (pc' := 52) (l' := [(0, .inr (.inr 1826)), (1, .inl (H.1 1826 1)), (2, .inl (H.1 1826 3)), (3, .inl (H.1 1826 8)), (4, .inl (H.1 1826 13)), (5, .inl (H.1 1826 19)), (6, .inl dc)]) (st' := [.inl (H1.1 1826 31)]) rfl ?_
          refine h_run 1 (pc' := 53) (l' := [(0, .inr (.inr 1826)), (1, .inl (H.1 1826 1)), (2, .inl (H.1 1826 3)), (3, .inl (H.1 1826 8)), (4, .inl (H.1 1826 13)), (5, .inl (H.1 1826 19)), (6, .inl dc)]) (st' := [.inl 3, .inl (H1.1 1826 31)]) rfl ?_
          refine h_ine (off := 10) (t := 63) rfl rfl (by omega) (by decide) (fun c14 => ?_) (fun c14 => ?_)
          · refine h_run 2 (pc' := 67) (l' := [(0, .inr (.inr 1826)), (1, .inl (H.1 1826 1)), (2, .inl (H.1 1826 3)), (3, .inl (H.1 1826 8)), (4, .inl (H.1 1826 13)), (5, .inl (H.1 1826 19)), (6, .inl dc)]) (st' := [.inl (H1.1 1826 31)]) rfl ?_
            refine h_run 1 (pc' := 68) (l' := [(0, .inr (.inr 1826)), (1, .inl (H.1 1826 1)), (2, .inl (H.1 1826 3)), (3, .inl (H.1 1826 8)), (4, .inl (H.1 1826 13)), (5, .inl (H.1 1826 19)), (6, .inl dc)]) (st' := [.inl 4, .inl (H1.1 1826 31)]) rfl ?_
            refine h_ine (off := 10) (t := 78) rfl rfl (by omega) (by decide) (fun c15 => ?_) (fun c15 => ?_)
            · refine h_run 2 (pc' := 82) (l' := [(0, .inr (.inr 1826)), (1, .inl (H.1 1826 1)), (2, .inl (H.1 1826 3)), (3, .inl (H.1 1826 8)), (4, .inl (H.1 1826 13)), (5, .inl (H.1 1826 19)), (6, .inl dc)]) (st' := [.inl (H1.1 1826 31)]) rfl ?_
              refine h_run 1 (pc' := 83) (l' := [(0, .inr (.inr 1826)), (1, .inl (H.1 1826 1)), (2, .inl (H.1 1826 3)), (3, .inl (H.1 1826 8)), (4, .inl (H.1 1826 13)), (5, .inl (H.1 1826 19)), (6, .inl dc)]) (st' := [.inl 5, .inl (H1.1 1826 31)]) rfl ?_
              refine h_ine (off := 10) (t := 93) rfl rfl (by omega) (by decide) (fun c16 => ?_) (fun c16 => ?_)
              · refine h_run 2 (pc' := 97) (l' := [(0, .inr (.inr 1826)), (1, .inl (H.1 1826 1)), (2, .inl (H.1 1826 3)), (3, .inl (H.1 1826 8)), (4, .inl (H.1 1826 13)), (5, .inl (H.1 1826 19)), (6, .inl dc)]) (st' := [.inl (H1.1 1826 31)]) rfl ?_
                refine h_run 1 (pc' := 99) (l' := [(0, .inr (.inr 1826)), (1, .inl (H.1 1826 1)), (2, .inl (H.1 1826 3)), (3, .inl (H.1 1826 8)), (4, .inl (H.1 1826 13)), (5, .inl (H.1 1826 19)), (6, .inl dc)]) (st' := [.inl 6, .inl (H1.1 1826 31)]) rfl ?_
                refine h_ine (off := 10) (t := 109) rfl rfl (by omega) (by decide) (fun c17 => ?_) (fun c17 => ?_)
                · refine h_run 2 (pc' := 111) (l' := [(0, .inr (.inr 1826)), (1, .inl (H.1 1826 1)), (2, .inl (H.1 1826 3)), (3, .inl (H.1 1826 8)), (4, .inl (H.1 1826 13)), (5, .inl (H.1 1826 19)), (6, .inl dc)]) (st' := [.inl 2, .inr (.inr 1826)]) rfl ?_
                  refine h_cv (i := 278) (j := 159) (b := 1826) (M' := mt_159) (xs := [.inl 2]) (rest := []) rfl rfl rfl rfl rfl rfl (Nat.le_of_ble_eq_true rfl) (Nat.le_of_ble_eq_true rfl) (by omega) (m_bad0 (by omega) (by omega) (by omega : (H1.1 1826 35) = 0)) ?_
                  rintro _ _ ⟨rfl, rfl⟩
                  refine h_run 0 (pc' := 114) (l' := [(0, .inr (.inr 1826)), (1, .inl (H.1 1826 1)), (2, .inl (H.1 1826 3)), (3, .inl (H.1 1826 8)), (4, .inl (H.1 1826 13)), (5, .inl (H.1 1826 19)), (6, .inl dc)]) (st' := []) rfl ?_
                  refine h_run 1 (pc' := 115) (l' := [(0, .inr (.inr 1826)), (1, .inl (H.1 1826 1)), (2, .inl (H.1 1826 3)), (3, .inl (H.1 1826 8)), (4, .inl (H.1 1826 13)), (5, .inl (H.1 1826 19)), (6, .inl dc)]) (st' := [.inr (.inr 1826)]) rfl ?_
                  refine h_cv (i := 293) (j := 158) (b := 1826) (M' := mt_158) (xs := []) (rest := []) rfl rfl rfl rfl rfl rfl (Nat.le_of_ble_eq_true rfl) (Nat.le_of_ble_eq_true rfl) (by omega) (m_good0 (by omega) (by omega : (2 : Int) ≠ 0)) ?_
                  rintro _ _ ⟨rfl, rfl⟩
                  refine h_run 0 (pc' := 118) (l' := [(0, .inr (.inr 1826)), (1, .inl (H.1 1826 1)), (2, .inl (H.1 1826 3)), (3, .inl (H.1 1826 8)), (4, .inl (H.1 1826 13)), (5, .inl (H.1 1826 19)), (6, .inl dc)]) (st' := [.inl 0]) rfl ?_
                  refine h_zeq (off := 17) (t := 135) rfl rfl (by decide) (fun _ => ?_) (fun c => absurd c (by decide))
                  refine h_run 1 (pc' := 136) (l' := [(0, .inr (.inr 1826)), (1, .inl (H.1 1826 1)), (2, .inl (H.1 1826 3)), (3, .inl (H.1 1826 8)), (4, .inl (H.1 1826 13)), (5, .inl (H.1 1826 19)), (6, .inl dc)]) (st' := [.inr (.inr 1826)]) rfl ?_
                  refine h_cv (i := 293) (j := 158) (b := 1826) (M' := mt_158) (xs := []) (rest := []) rfl rfl rfl rfl rfl rfl (Nat.le_of_ble_eq_true rfl) (Nat.le_of_ble_eq_true rfl) (by omega) (m_good0 (by omega) (by omega : (2 : Int) ≠ 0)) ?_
                  rintro _ _ ⟨rfl, rfl⟩
                  refine h_run 0 (pc' := 139) (l' := [(0, .inr (.inr 1826)), (1, .inl (H.1 1826 1)), (2, .inl (H.1 1826 3)), (3, .inl (H.1 1826 8)), (4, .inl (H.1 1826 13)), (5, .inl (H.1 1826 19)), (6, .inl dc)]) (st' := [.inl 0]) rfl ?_
                  refine h_zeq (off := -105) (t := 34) rfl rfl (by decide) (fun _ => ?_) (fun c => absurd c (by decide))
                  have g18 : -2147483648 ≤ (H1.1 1826 30) ∧ (H1.1 1826 30) ≤ 2147483647 := hrg1.1 1826 13 30 _ .int rfl rfl
                  have g19 : -2147483648 ≤ (H1.1 1826 32) ∧ (H1.1 1826 32) ≤ 2147483647 := hrg1.1 1826 13 32 _ .int rfl rfl
                  have g20 : -2147483648 ≤ (H1.1 1826 29) ∧ (H1.1 1826 29) ≤ 2147483647 := hrg1.1 1826 13 29 _ .int rfl rfl
                  have g21 : -2147483648 ≤ (H1.1 1826 28) ∧ (H1.1 1826 28) ≤ 2147483647 := hrg1.1 1826 13 28 _ .int rfl rfl
                  have g22 : -2147483648 ≤ (H1.1 1826 77) ∧ (H1.1 1826 77) ≤ 2147483647 := hrg1.1 1826 13 77 _ .int rfl rfl
                  have g23 : -2147483648 ≤ (H1.1 1826 74) ∧ (H1.1 1826 74) ≤ 2147483647 := hrg1.1 1826 13 74 _ .int rfl rfl
                  have g24 : -2147483648 ≤ (H1.1 1826 67) ∧ (H1.1 1826 67) ≤ 2147483647 := hrg1.1 1826 13 67 _ .int rfl rfl
                  have e25 : (H1.1 1826 67) = (H.1 1826 67) := hf.2.2 67 (by decide)
                  exact ih.1 _ dc (fr_o (fr_o hf (by decide)) (by decide)) (by omega : 0 ≤ (H1.1 1826 30) ∧ (H1.1 1826 30) ≤ (H1.1 1826 29) ∧ (H1.1 1826 29) ≤ 1000) (by omega : 0 ≤ (2 : Int) ∧ (2 : Int) ≤ 5) (by omega : 0 ≤ (H1.1 1826 32) ∧ (H1.1 1826 32) ≤ 1000) (by omega : (H1.1 1826 28) = 0) (by omega : (H1.1 1826 77) = (H.1 1826 77) ∧ (H1.1 1826 74) = (H.1 1826 74) ∧ (H1.1 1826 67) = (H.1 1826 67)) (agp_o (agp_o hag (by decide)) (by decide)) (fun (q : (2 : Int) = 0) => absurd q (by omega)) (Or.inr ⟨(by omega : (2 : Int) ≠ 0), BD_le (BD_mk hR1 (fr_o (fr_o (fr_rf [35, 36] [] H1) (by decide)) (by decide)) (by decide) (by decide) (by decide : (2 : Int) ≠ 0) rfl rfl (rch_st hq1 (by show stDec Y dc [] X1 = _; unfold stDec miss; (repeat (first | rw [if_pos (by omega)] | rw [if_neg (by omega)])); try (first | rfl | (exfalso; omega))))) hmf⟩) (mu_lt2 hw (by omega : (H1.1 1826 35) = 0) (by omega : (H1.1 1826 29) = (H1.1 1826 29)) (by omega : (2 : Int) ≠ 0 ∨ ((H1.1 1826 30) ≤ (H1.1 1826 30) ∧ (H1.1 1826 30) ≤ (H1.1 1826 29) ∧ (((H1.1 1826 31) = 0 ∧ (H1.1 1826 31) ≠ 0) ∨ (H1.1 1826 30) < (H1.1 1826 30)))))
                · refine h_run 1 (pc' := 103) (l' := [(0, .inr (.inr 1826)), (1, .inl (H.1 1826 1)), (2, .inl (H.1 1826 3)), (3, .inl (H.1 1826 8)), (4, .inl (H.1 1826 13)), (5, .inl (H.1 1826 19)), (6, .inl dc)]) (st' := [.inr (.inr 1826)]) rfl ?_
                  have g26 : -2147483648 ≤ (H1.1 1826 30) ∧ (H1.1 1826 30) ≤ 2147483647 := hrg1.1 1826 13 30 _ .int rfl rfl
                  have g27 : -2147483648 ≤ (H1.1 1826 29) ∧ (H1.1 1826 29) ≤ 2147483647 := hrg1.1 1826 13 29 _ .int rfl rfl
                  have g28 : -2147483648 ≤ (H1.1 1826 8) ∧ (H1.1 1826 8) ≤ 2147483647 := hrg1.1 1826 13 8 _ .int rfl rfl
                  have g30 : -2147483648 ≤ (H1.1 1826 32) ∧ (H1.1 1826 32) ≤ 2147483647 := hrg1.1 1826 13 32 _ .int rfl rfl
                  refine h_cv (i := 408) (j := 187) (b := 1826) (M' := mt_187) (xs := []) (rest := []) rfl rfl rfl rfl rfl rfl (Nat.le_of_ble_eq_true rfl) (Nat.le_of_ble_eq_true rfl) (by omega) (n_tellLaw (by omega) (by omega : 0 ≤ (H1.1 1826 30) ∧ (H1.1 1826 30) ≤ (H1.1 1826 29) ∧ (H1.1 1826 29) ≤ 1000) (by omega : 0 ≤ (H1.1 1826 35) ∧ (H1.1 1826 35) ≤ 5) (by omega : 0 ≤ (H1.1 1826 32) ∧ (H1.1 1826 32) ≤ 1000) (hP1 (by omega : (H1.1 1826 35) = 0)) (by omega : (H1.1 1826 35) = 0) hR1 (by omega : (H1.1 1826 8) = (H1.1 1826 8)) (show rch Y ([(6, dc, 0, 0)], X1) ((6, dc, 0, 0) :: [], X1) from rch_rf _ _) (by omega : tk Y (xi X1) = 7)) ?_
                  rintro _ H29 ⟨rfl, hx29n, hx29f, hx29a, hx29c, -, hx29e, hx29g, hx29p⟩
                  refine h_rng (fun hrg31 => ?_)
                  have hf32 : fr [1, 3, 8, 13, 19, 28, 29, 30, 31, 32, 33, 34, 35, 36, 39, 40, 41, 43, 44, 47, 74, 76, 77] [1827, 1828, 1829, 1830, 1831, 1832, 1833, 1834, 1835, 1836, 1837, 1838, 1839, 1840, 1841, 1842, 1843, 1844, 1845, 1846, 1847, 1849, 1850, 1851, 1852, 1853, 1854] H H29 := fr_t hf hx29f (by decide) (by decide)
                  have ha33 : agp H H29 := agp_tr hag hx29g
                  replace hx29a : (H1.1 1826 30) ≤ (H29.1 1826 30) ∧ (H29.1 1826 30) ≤ (H1.1 1826 29) := hx29a
                  replace hx29p : hid ((H29.1 1826 35) = 0 → PWc H29) := hx29p
                  replace hx29n := GB_tr hq1 hx29n
                  refine h_run 0 (pc' := 106) (l' := [(0, .inr (.inr 1826)), (1, .inl (H.1 1826 1)), (2, .inl (H.1 1826 3)), (3, .inl (H.1 1826 8)), (4, .inl (H.1 1826 13)), (5, .inl (H.1 1826 19)), (6, .inl dc)]) (st' := []) rfl ?_
                  refine h_run 2 (pc' := 115) (l' := [(0, .inr (.inr 1826)), (1, .inl (H.1 1826 1)), (2, .inl (H.1 1826 3)), (3, .inl (H.1 1826 8)), (4, .inl (H.1 1826 13)), (5, .inl (H.1 1826 19)), (6, .inl dc)]) (st' := [.inr (.inr 1826)]) rfl ?_
                  have g34 : -2147483648 ≤ (H29.1 1826 35) ∧ (H29.1 1826 35) ≤ 2147483647 := hrg31.1 1826 13 35 _ .int rfl rfl
                  refine h_cv (i := 293) (j := 158) (b := 1826) (M' := mt_158) (xs := []) (rest := []) rfl rfl rfl rfl rfl rfl (Nat.le_of_ble_eq_true rfl) (Nat.le_of_ble_eq_true rfl) (by omega) (m_good (by omega)) ?_
                  rintro _ _ ⟨⟨rfl, b35⟩ | ⟨rfl, b35⟩, rfl⟩
                  · have b35x : (H29.1 1826 35) = 0 := b35
                    refine h_run 0 (pc' := 118) (l' := [(0, .inr (.inr 1826)), (1, .inl (H.1 1826 1)), (2, .inl (H.1 1826 3)), (3, .inl (H.1 1826 8)), (4, .inl (H.1 1826 13)), (5, .inl (H.1 1826 19)), (6, .inl dc)]) (st' := [.inl 1]) rfl ?_
                    refine h_zeq (off := 17) (t := 135) rfl rfl (by decide) (fun c => absurd c (by decide)) (fun _ => ?_)
                    have g36 : -2147483648 ≤ (H29.1 1826 8) ∧ (H29.1 1826 8) ≤ 2147483647 := hrg31.1 1826 13 8 _ .int rfl rfl
                    have e37 : (H29.1 1826 8) = (H1.1 1826 8) := hx29f.2.2 8 (by decide)
                    have g38 : -2147483648 ≤ (H29.1 1826 13) ∧ (H29.1 1826 13) ≤ 2147483647 := hrg31.1 1826 13 13 _ .int rfl rfl
                    have e39 : (H29.1 1826 13) = (H1.1 1826 13) := hx29f.2.2 13 (by decide)
                    have g40 : -2147483648 ≤ (H29.1 1826 19) ∧ (H29.1 1826 19) ≤ 2147483647 := hrg31.1 1826 13 19 _ .int rfl rfl
                    obtain ⟨X2, hm2, hR2x, hc7, hL2, hQ2, hU2⟩ := GB_g hx29n (by omega)
                    have hq2 := rch_tr hq1 hm2
                    obtain ⟨hj2, hl2⟩ := hJL _ _ hm2
                    have h16 := hR1.2.2.2.2.2.2.2.1.1.1
                    have h17 := hR1.2.2.2.2.2.2.2.1.1.2
                    have h26 := hR2x.2.2.2.2.2.2.2.1.1.1
                    have h27 := hR2x.2.2.2.2.2.2.2.1.1.2
                    have hS2 : RS9 H29 X2 := RS9_ag hS1 hM1 h16 h17 hx29g hl2 (fun _ a9 b9 => absurd b9 (by omega)) (fun r a9 b9 => by have e9 : r = (X1 0 7).toNat := (by omega); rw [e9]; exact ⟨hL2, hQ2, hU2⟩)
                    have hR2 : RK Y (H29.1 1826 8) H29 X2 := by rw [show (H29.1 1826 8) = (H1.1 1826 8) from (hx29f.2.2 8 (by decide))]; exact hR2x
                    have htk2 := RK_t hR2
                    have hmf2 : (H.1 1826 8) ≤ (H29.1 1826 8) := by have q9 := hx29g.1.2.2.1; omega
                    refine h_run 2 (pc' := 125) (l' := [(0, .inr (.inr 1826)), (1, .inl (H.1 1826 1)), (2, .inl (H.1 1826 3)), (3, .inl (H.1 1826 8)), (4, .inl (H.1 1826 13)), (5, .inl (H.1 1826 19)), (6, .inl dc)]) (st' := [.inl (H29.1 1826 31)]) rfl ?_
                    have g41 : -2147483648 ≤ (H29.1 1826 31) ∧ (H29.1 1826 31) ≤ 2147483647 := hrg31.1 1826 13 31 _ .int rfl rfl
                    refine h_run 1 (pc' := 127) (l' := [(0, .inr (.inr 1826)), (1, .inl (H.1 1826 1)), (2, .inl (H.1 1826 3)), (3, .inl (H.1 1826 8)), (4, .inl (H.1 1826 13)), (5, .inl (H.1 1826 19)), (6, .inl dc)]) (st' := [.inl 59, .inl (H29.1 1826 31)]) rfl ?_
                    refine h_ieq (off := 8) (t := 135) rfl rfl (by omega) (by decide) (fun c42 => ?_) (fun c42 => ?_)
                    · refine h_run 1 (pc' := 136) (l' := [(0, .inr (.inr 1826)), (1, .inl (H.1 1826 1)), (2, .inl (H.1 1826 3)), (3, .inl (H.1 1826 8)), (4, .inl (H.1 1826 13)), (5, .inl (H.1 1826 19)), (6, .inl dc)]) (st' := [.inr (.inr 1826)]) rfl ?_
                      refine h_cv (i := 293) (j := 158) (b := 1826) (M' := mt_158) (xs := []) (rest := []) rfl rfl rfl rfl rfl rfl (Nat.le_of_ble_eq_true rfl) (Nat.le_of_ble_eq_true rfl) (by omega) (m_good1 (by omega) (by omega : (H29.1 1826 35) = 0)) ?_
                      rintro _ _ ⟨rfl, rfl⟩
                      refine h_run 0 (pc' := 139) (l' := [(0, .inr (.inr 1826)), (1, .inl (H.1 1826 1)), (2, .inl (H.1 1826 3)), (3, .inl (H.1 1826 8)), (4, .inl (H.1 1826 13)), (5, .inl (H.1 1826 19)), (6, .inl dc)]) (st' := [.inl 1]) rfl ?_
                      refine h_zeq (off := -105) (t := 34) rfl rfl (by decide) (fun c => absurd c (by decide)) (fun _ => ?_)
                      have hq3 : rch Y ([(6, 0, 0, 0)], X) ([(6, dc + 1, 0, 0)], adv X2) := rch_st hq2 (by show (if tk Y (xi X2) = 59 then _ else _) = _; (repeat (first | rw [if_pos (by omega)] | rw [if_neg (by omega)])); try (first | rfl | (exfalso; omega)))
                      refine h_run 1 (pc' := 143) (l' := [(0, .inr (.inr 1826)), (1, .inl (H.1 1826 1)), (2, .inl (H.1 1826 3)), (3, .inl (H.1 1826 8)), (4, .inl (H.1 1826 13)), (5, .inl (H.1 1826 19)), (6, .inl dc)]) (st' := [.inr (.inr 1826)]) rfl ?_
                      have g43 : -2147483648 ≤ (H29.1 1826 30) ∧ (H29.1 1826 30) ≤ 2147483647 := hrg31.1 1826 13 30 _ .int rfl rfl
                      have g44 : -2147483648 ≤ (H29.1 1826 29) ∧ (H29.1 1826 29) ≤ 2147483647 := hrg31.1 1826 13 29 _ .int rfl rfl
                      have e45 : (H29.1 1826 29) = (H1.1 1826 29) := hx29f.2.2 29 (by decide)
                      have g46 : -2147483648 ≤ (H29.1 1826 32) ∧ (H29.1 1826 32) ≤ 2147483647 := hrg31.1 1826 13 32 _ .int rfl rfl
                      refine h_cv (i := 297) (j := 165) (b := 1826) (M' := mt_165) (xs := []) (rest := []) rfl rfl rfl rfl rfl rfl (Nat.le_of_ble_eq_true rfl) (Nat.le_of_ble_eq_true rfl) (by omega) (n_nx (by omega) (by omega : 0 ≤ (H29.1 1826 30) ∧ (H29.1 1826 30) ≤ (H29.1 1826 29) ∧ (H29.1 1826 29) ≤ 1000) (by omega : 0 ≤ (H29.1 1826 35) ∧ (H29.1 1826 35) ≤ 5) (by omega : 0 ≤ (H29.1 1826 32) ∧ (H29.1 1826 32) ≤ 1000) (by omega : (H29.1 1826 35) = 0) (X := (adv X2)) (RN_adv hR2 (fr_rf [] [] _) (by decide) (by decide)) hq3 (lk_n (by decide))) ?_
                      rintro _ H47 ⟨rfl, hx47n, hx47f, hx47a, hx47b, hx47c, -, hx47e, hx47g⟩
                      refine h_rng (fun hrg48 => ?_)
                      have hf49 : fr [1, 3, 8, 13, 19, 28, 29, 30, 31, 32, 33, 34, 35, 36, 39, 40, 41, 43, 44, 47, 74, 76, 77] [1827, 1828, 1829, 1830, 1831, 1832, 1833, 1834, 1835, 1836, 1837, 1838, 1839, 1840, 1841, 1842, 1843, 1844, 1845, 1846, 1847, 1849, 1850, 1851, 1852, 1853, 1854] H H47 := fr_t hf32 hx47f (by decide) (by decide)
                      have ha50 : agp H H47 := agp_tr ha33 (agp_fr hx47f (by decide) (by decide))
                      replace hx47a : (H29.1 1826 30) ≤ (H47.1 1826 30) := hx47a
                      replace hx47b : (H47.1 1826 30) ≤ (H29.1 1826 29) := hx47b
                      replace hx47g : (H47.1 1826 35) = 0 → ((H47.1 1826 31) = 0 ∨ (H29.1 1826 30) < (H47.1 1826 30)) := hx47g
                      refine h_run 0 (pc' := 146) (l' := [(0, .inr (.inr 1826)), (1, .inl (H.1 1826 1)), (2, .inl (H.1 1826 3)), (3, .inl (H.1 1826 8)), (4, .inl (H.1 1826 13)), (5, .inl (H.1 1826 19)), (6, .inl dc)]) (st' := []) rfl ?_
                      refine h_run 2 (pc' := 34) (l' := [(0, .inr (.inr 1826)), (1, .inl (H.1 1826 1)), (2, .inl (H.1 1826 3)), (3, .inl (H.1 1826 8)), (4, .inl (H.1 1826 13)), (5, .inl (H.1 1826 19)), (6, .inl (dc + 1))]) (st' := []) rfl ?_
                      have g51 : -2147483648 ≤ (H47.1 1826 30) ∧ (H47.1 1826 30) ≤ 2147483647 := hrg48.1 1826 13 30 _ .int rfl rfl
                      have g52 : -2147483648 ≤ (H47.1 1826 35) ∧ (H47.1 1826 35) ≤ 2147483647 := hrg48.1 1826 13 35 _ .int rfl rfl
                      have g53 : -2147483648 ≤ (H47.1 1826 32) ∧ (H47.1 1826 32) ≤ 2147483647 := hrg48.1 1826 13 32 _ .int rfl rfl
                      have g54 : -2147483648 ≤ (H47.1 1826 31) ∧ (H47.1 1826 31) ≤ 2147483647 := hrg48.1 1826 13 31 _ .int rfl rfl
                      have g55 : -2147483648 ≤ (H47.1 1826 29) ∧ (H47.1 1826 29) ≤ 2147483647 := hrg48.1 1826 13 29 _ .int rfl rfl
                      have e56 : (H47.1 1826 29) = (H29.1 1826 29) := hx47f.2.2 29 (by decide)
                      have g57 : -2147483648 ≤ (H47.1 1826 28) ∧ (H47.1 1826 28) ≤ 2147483647 := hrg48.1 1826 13 28 _ .int rfl rfl
                      have e58 : (H47.1 1826 28) = (H29.1 1826 28) := hx47f.2.2 28 (by decide)
                      have e59 : (H29.1 1826 28) = (H1.1 1826 28) := hx29f.2.2 28 (by decide)
                      have g60 : -2147483648 ≤ (H47.1 1826 77) ∧ (H47.1 1826 77) ≤ 2147483647 := hrg48.1 1826 13 77 _ .int rfl rfl
                      have e61 : (H47.1 1826 77) = (H29.1 1826 77) := hx47f.2.2 77 (by decide)
                      have e62 : (H29.1 1826 77) = (H1.1 1826 77) := hx29f.2.2 77 (by decide)
                      have g63 : -2147483648 ≤ (H47.1 1826 74) ∧ (H47.1 1826 74) ≤ 2147483647 := hrg48.1 1826 13 74 _ .int rfl rfl
                      have e64 : (H47.1 1826 74) = (H29.1 1826 74) := hx47f.2.2 74 (by decide)
                      have e65 : (H29.1 1826 74) = (H1.1 1826 74) := hx29f.2.2 74 (by decide)
                      have g66 : -2147483648 ≤ (H47.1 1826 67) ∧ (H47.1 1826 67) ≤ 2147483647 := hrg48.1 1826 13 67 _ .int rfl rfl
                      have e67 : (H47.1 1826 67) = (H29.1 1826 67) := hx47f.2.2 67 (by decide)
                      have e68 : (H29.1 1826 67) = (H1.1 1826 67) := hx29f.2.2 67 (by decide)
                      have e69 : (H1.1 1826 67) = (H.1 1826 67) := hf.2.2 67 (by decide)
                      exact ih.1 _ (dc + 1) hf49 (by omega : 0 ≤ (H47.1 1826 30) ∧ (H47.1 1826 30) ≤ (H47.1 1826 29) ∧ (H47.1 1826 29) ≤ 1000) (by omega : 0 ≤ (H47.1 1826 35) ∧ (H47.1 1826 35) ≤ 5) (by omega : 0 ≤ (H47.1 1826 32) ∧ (H47.1 1826 32) ≤ 1000) (by omega : (H47.1 1826 28) = 0) (by omega : (H47.1 1826 77) = (H.1 1826 77) ∧ (H47.1 1826 74) = (H.1 1826 74) ∧ (H47.1 1826 67) = (H.1 1826 67)) ha50 (fun _ => PWc_fr (hx29p (by omega)) hx47f (by decide) (by decide)) (GB_le hx47n hmf2 (fun q => ⟨_, hq3, (by rw [show (H47.1 1826 8) = _ from (hx47f.2.2 8 (by decide))]; exact q), RS9_fr (RS9_adv hS2) hx47f (by decide)⟩)) (mu_lt2 hw (by omega : (H1.1 1826 35) = 0) (by omega : (H47.1 1826 29) = (H1.1 1826 29)) (by omega : (H47.1 1826 35) ≠ 0 ∨ ((H1.1 1826 30) ≤ (H47.1 1826 30) ∧ (H47.1 1826 30) ≤ (H1.1 1826 29) ∧ (((H47.1 1826 31) = 0 ∧ (H1.1 1826 31) ≠ 0) ∨ (H1.1 1826 30) < (H47.1 1826 30)))))
                    · refine h_run 2 (pc' := 132) (l' := [(0, .inr (.inr 1826)), (1, .inl (H.1 1826 1)), (2, .inl (H.1 1826 3)), (3, .inl (H.1 1826 8)), (4, .inl (H.1 1826 13)), (5, .inl (H.1 1826 19)), (6, .inl dc)]) (st' := [.inl 2, .inr (.inr 1826)]) rfl ?_
                      refine h_cv (i := 278) (j := 159) (b := 1826) (M' := mt_159) (xs := [.inl 2]) (rest := []) rfl rfl rfl rfl rfl rfl (Nat.le_of_ble_eq_true rfl) (Nat.le_of_ble_eq_true rfl) (by omega) (m_bad0 (by omega) (by omega) (by omega : (H29.1 1826 35) = 0)) ?_
                      rintro _ _ ⟨rfl, rfl⟩
                      refine h_run 0 (pc' := 135) (l' := [(0, .inr (.inr 1826)), (1, .inl (H.1 1826 1)), (2, .inl (H.1 1826 3)), (3, .inl (H.1 1826 8)), (4, .inl (H.1 1826 13)), (5, .inl (H.1 1826 19)), (6, .inl dc)]) (st' := []) rfl ?_
                      refine h_run 1 (pc' := 136) (l' := [(0, .inr (.inr 1826)), (1, .inl (H.1 1826 1)), (2, .inl (H.1 1826 3)), (3, .inl (H.1 1826 8)), (4, .inl (H.1 1826 13)), (5, .inl (H.1 1826 19)), (6, .inl dc)]) (st' := [.inr (.inr 1826)]) rfl ?_
                      refine h_cv (i := 293) (j := 158) (b := 1826) (M' := mt_158) (xs := []) (rest := []) rfl rfl rfl rfl rfl rfl (Nat.le_of_ble_eq_true rfl) (Nat.le_of_ble_eq_true rfl) (by omega) (m_good0 (by omega) (by omega : (2 : Int) ≠ 0)) ?_
                      rintro _ _ ⟨rfl, rfl⟩
                      refine h_run 0 (pc' := 139) (l' := [(0, .inr (.inr 1826)), (1, .inl (H.1 1826 1)), (2, .inl (H.1 1826 3)), (3, .inl (H.1 1826 8)), (4, .inl (H.1 1826 13)), (5, .inl (H.1 1826 19)), (6, .inl dc)]) (st' := [.inl 0]) rfl ?_
                      refine h_zeq (off := -105) (t := 34) rfl rfl (by decide) (fun _ => ?_) (fun c => absurd c (by decide))
                      have g70 : -2147483648 ≤ (H29.1 1826 30) ∧ (H29.1 1826 30) ≤ 2147483647 := hrg31.1 1826 13 30 _ .int rfl rfl
                      have g71 : -2147483648 ≤ (H29.1 1826 32) ∧ (H29.1 1826 32) ≤ 2147483647 := hrg31.1 1826 13 32 _ .int rfl rfl
                      have g72 : -2147483648 ≤ (H29.1 1826 29) ∧ (H29.1 1826 29) ≤ 2147483647 := hrg31.1 1826 13 29 _ .int rfl rfl
                      have e73 : (H29.1 1826 29) = (H1.1 1826 29) := hx29f.2.2 29 (by decide)
                      have g74 : -2147483648 ≤ (H29.1 1826 28) ∧ (H29.1 1826 28) ≤ 2147483647 := hrg31.1 1826 13 28 _ .int rfl rfl
                      have e75 : (H29.1 1826 28) = (H1.1 1826 28) := hx29f.2.2 28 (by decide)
                      have g76 : -2147483648 ≤ (H29.1 1826 77) ∧ (H29.1 1826 77) ≤ 2147483647 := hrg31.1 1826 13 77 _ .int rfl rfl
                      have e77 : (H29.1 1826 77) = (H1.1 1826 77) := hx29f.2.2 77 (by decide)
                      have g78 : -2147483648 ≤ (H29.1 1826 74) ∧ (H29.1 1826 74) ≤ 2147483647 := hrg31.1 1826 13 74 _ .int rfl rfl
                      have e79 : (H29.1 1826 74) = (H1.1 1826 74) := hx29f.2.2 74 (by decide)
                      have g80 : -2147483648 ≤ (H29.1 1826 67) ∧ (H29.1 1826 67) ≤ 2147483647 := hrg31.1 1826 13 67 _ .int rfl rfl
                      have e81 : (H29.1 1826 67) = (H1.1 1826 67) := hx29f.2.2 67 (by decide)
                      have e82 : (H1.1 1826 67) = (H.1 1826 67) := hf.2.2 67 (by decide)
                      exact ih.1 _ dc (fr_o (fr_o hf32 (by decide)) (by decide)) (by omega : 0 ≤ (H29.1 1826 30) ∧ (H29.1 1826 30) ≤ (H29.1 1826 29) ∧ (H29.1 1826 29) ≤ 1000) (by omega : 0 ≤ (2 : Int) ∧ (2 : Int) ≤ 5) (by omega : 0 ≤ (H29.1 1826 32) ∧ (H29.1 1826 32) ≤ 1000) (by omega : (H29.1 1826 28) = 0) (by omega : (H29.1 1826 77) = (H.1 1826 77) ∧ (H29.1 1826 74) = (H.1 1826 74) ∧ (H29.1 1826 67) = (H.1 1826 67)) (agp_o (agp_o ha33 (by decide)) (by decide)) (fun (q : (2 : Int) = 0) => absurd q (by omega)) (Or.inr ⟨(by omega : (2 : Int) ≠ 0), BD_le (BD_mk hR2 (fr_o (fr_o (fr_rf [35, 36] [] H29) (by decide)) (by decide)) (by decide) (by decide) (by decide : (2 : Int) ≠ 0) rfl rfl (rch_st hq2 (by show (if tk Y (xi X2) = 59 then _ else _) = _; unfold miss; (repeat (first | rw [if_pos (by omega)] | rw [if_neg (by omega)])); try (first | rfl | (exfalso; omega))))) hmf2⟩) (mu_lt2 hw (by omega : (H1.1 1826 35) = 0) (by omega : (H29.1 1826 29) = (H1.1 1826 29)) (by omega : (2 : Int) ≠ 0 ∨ ((H1.1 1826 30) ≤ (H29.1 1826 30) ∧ (H29.1 1826 30) ≤ (H1.1 1826 29) ∧ (((H29.1 1826 31) = 0 ∧ (H1.1 1826 31) ≠ 0) ∨ (H1.1 1826 30) < (H29.1 1826 30)))))
                  · have b35x : (H29.1 1826 35) ≠ 0 := b35
                    refine h_run 0 (pc' := 118) (l' := [(0, .inr (.inr 1826)), (1, .inl (H.1 1826 1)), (2, .inl (H.1 1826 3)), (3, .inl (H.1 1826 8)), (4, .inl (H.1 1826 13)), (5, .inl (H.1 1826 19)), (6, .inl dc)]) (st' := [.inl 0]) rfl ?_
                    refine h_zeq (off := 17) (t := 135) rfl rfl (by decide) (fun _ => ?_) (fun c => absurd c (by decide))
                    refine h_run 1 (pc' := 136) (l' := [(0, .inr (.inr 1826)), (1, .inl (H.1 1826 1)), (2, .inl (H.1 1826 3)), (3, .inl (H.1 1826 8)), (4, .inl (H.1 1826 13)), (5, .inl (H.1 1826 19)), (6, .inl dc)]) (st' := [.inr (.inr 1826)]) rfl ?_
                    refine h_cv (i := 293) (j := 158) (b := 1826) (M' := mt_158) (xs := []) (rest := []) rfl rfl rfl rfl rfl rfl (Nat.le_of_ble_eq_true rfl) (Nat.le_of_ble_eq_true rfl) (by omega) (m_good0 (by omega) (by omega : (H29.1 1826 35) ≠ 0)) ?_
                    rintro _ _ ⟨rfl, rfl⟩
                    refine h_run 0 (pc' := 139) (l' := [(0, .inr (.inr 1826)), (1, .inl (H.1 1826 1)), (2, .inl (H.1 1826 3)), (3, .inl (H.1 1826 8)), (4, .inl (H.1 1826 13)), (5, .inl (H.1 1826 19)), (6, .inl dc)]) (st' := [.inl 0]) rfl ?_
                    refine h_zeq (off := -105) (t := 34) rfl rfl (by decide) (fun _ => ?_) (fun c => absurd c (by decide))
                    have g83 : -2147483648 ≤ (H29.1 1826 30) ∧ (H29.1 1826 30) ≤ 2147483647 := hrg31.1 1826 13 30 _ .int rfl rfl
                    have g84 : -2147483648 ≤ (H29.1 1826 32) ∧ (H29.1 1826 32) ≤ 2147483647 := hrg31.1 1826 13 32 _ .int rfl rfl
                    have g85 : -2147483648 ≤ (H29.1 1826 31) ∧ (H29.1 1826 31) ≤ 2147483647 := hrg31.1 1826 13 31 _ .int rfl rfl
                    have g86 : -2147483648 ≤ (H29.1 1826 29) ∧ (H29.1 1826 29) ≤ 2147483647 := hrg31.1 1826 13 29 _ .int rfl rfl
                    have e87 : (H29.1 1826 29) = (H1.1 1826 29) := hx29f.2.2 29 (by decide)
                    have g88 : -2147483648 ≤ (H29.1 1826 28) ∧ (H29.1 1826 28) ≤ 2147483647 := hrg31.1 1826 13 28 _ .int rfl rfl
                    have e89 : (H29.1 1826 28) = (H1.1 1826 28) := hx29f.2.2 28 (by decide)
                    have g90 : -2147483648 ≤ (H29.1 1826 77) ∧ (H29.1 1826 77) ≤ 2147483647 := hrg31.1 1826 13 77 _ .int rfl rfl
                    have e91 : (H29.1 1826 77) = (H1.1 1826 77) := hx29f.2.2 77 (by decide)
                    have g92 : -2147483648 ≤ (H29.1 1826 74) ∧ (H29.1 1826 74) ≤ 2147483647 := hrg31.1 1826 13 74 _ .int rfl rfl
                    have e93 : (H29.1 1826 74) = (H1.1 1826 74) := hx29f.2.2 74 (by decide)
                    have g94 : -2147483648 ≤ (H29.1 1826 67) ∧ (H29.1 1826 67) ≤ 2147483647 := hrg31.1 1826 13 67 _ .int rfl rfl
                    have e95 : (H29.1 1826 67) = (H1.1 1826 67) := hx29f.2.2 67 (by decide)
                    have e96 : (H1.1 1826 67) = (H.1 1826 67) := hf.2.2 67 (by decide)
                    exact ih.1 _ dc hf32 (by omega : 0 ≤ (H29.1 1826 30) ∧ (H29.1 1826 30) ≤ (H29.1 1826 29) ∧ (H29.1 1826 29) ≤ 1000) (by omega : 0 ≤ (H29.1 1826 35) ∧ (H29.1 1826 35) ≤ 5) (by omega : 0 ≤ (H29.1 1826 32) ∧ (H29.1 1826 32) ≤ 1000) (by omega : (H29.1 1826 28) = 0) (by omega : (H29.1 1826 77) = (H.1 1826 77) ∧ (H29.1 1826 74) = (H.1 1826 74) ∧ (H29.1 1826 67) = (H.1 1826 67)) ha33 (fun (q : (H29.1 1826 35) = 0) => absurd q (by omega)) (Or.inr ⟨(by omega : (H29.1 1826 35) ≠ 0), BD_le (GB_b hx29n (by omega)) hmf⟩) (mu_lt2 hw (by omega : (H1.1 1826 35) = 0) (by omega : (H29.1 1826 29) = (H1.1 1826 29)) (by omega : (H29.1 1826 35) ≠ 0 ∨ ((H1.1 1826 30) ≤ (H29.1 1826 30) ∧ (H29.1 1826 30) ≤ (H1.1 1826 29) ∧ (((H29.1 1826 31) = 0 ∧ (H1.1 1826 31) ≠ 0) ∨ (H1.1 1826 30) < (H29.1 1826 30)))))
              · refine h_run 1 (pc' := 87) (l' := [(0, .inr (.inr 1826)), (1, .inl (H.1 1826 1)), (2, .inl (H.1 1826 3)), (3, .inl (H.1 1826 8)), (4, .inl (H.1 1826 13)), (5, .inl (H.1 1826 19)), (6, .inl dc)]) (st' := [.inr (.inr 1826)]) rfl ?_
                have g97 : -2147483648 ≤ (H1.1 1826 30) ∧ (H1.1 1826 30) ≤ 2147483647 := hrg1.1 1826 13 30 _ .int rfl rfl
                have g98 : -2147483648 ≤ (H1.1 1826 29) ∧ (H1.1 1826 29) ≤ 2147483647 := hrg1.1 1826 13 29 _ .int rfl rfl
                have g99 : -2147483648 ≤ (H1.1 1826 8) ∧ (H1.1 1826 8) ≤ 2147483647 := hrg1.1 1826 13 8 _ .int rfl rfl
                have g101 : -2147483648 ≤ (H1.1 1826 32) ∧ (H1.1 1826 32) ≤ 2147483647 := hrg1.1 1826 13 32 _ .int rfl rfl
                refine h_cv (i := 405) (j := 186) (b := 1826) (M' := mt_186) (xs := []) (rest := []) rfl rfl rfl rfl rfl rfl (Nat.le_of_ble_eq_true rfl) (Nat.le_of_ble_eq_true rfl) (by omega) (n_rule (by omega) (by omega : 0 ≤ (H1.1 1826 30) ∧ (H1.1 1826 30) ≤ (H1.1 1826 29) ∧ (H1.1 1826 29) ≤ 1000) (by omega : 0 ≤ (H1.1 1826 35) ∧ (H1.1 1826 35) ≤ 5) (by omega : 0 ≤ (H1.1 1826 32) ∧ (H1.1 1826 32) ≤ 1000) (hP1 (by omega : (H1.1 1826 35) = 0)) (by omega : (H1.1 1826 35) = 0) hR1 (by omega : (H1.1 1826 8) = (H1.1 1826 8)) (show rch Y ([(6, dc, 0, 0)], X1) ((6, dc, 0, 0) :: [], X1) from rch_rf _ _) (by omega : tk Y (xi X1) = 6)) ?_
                rintro _ H100 ⟨rfl, hx100n, hx100f, hx100a, hx100c, -, hx100e, hx100g, hx100p⟩
                refine h_rng (fun hrg102 => ?_)
                have hf103 : fr [1, 3, 8, 13, 19, 28, 29, 30, 31, 32, 33, 34, 35, 36, 39, 40, 41, 43, 44, 47, 74, 76, 77] [1827, 1828, 1829, 1830, 1831, 1832, 1833, 1834, 1835, 1836, 1837, 1838, 1839, 1840, 1841, 1842, 1843, 1844, 1845, 1846, 1847, 1849, 1850, 1851, 1852, 1853, 1854] H H100 := fr_t hf hx100f (by decide) (by decide)
                have ha104 : agp H H100 := agp_tr hag hx100g
                replace hx100a : (H1.1 1826 30) ≤ (H100.1 1826 30) ∧ (H100.1 1826 30) ≤ (H1.1 1826 29) := hx100a
                replace hx100p : hid ((H100.1 1826 35) = 0 → PWc H100) := hx100p
                replace hx100n := GB_tr hq1 hx100n
                refine h_run 0 (pc' := 90) (l' := [(0, .inr (.inr 1826)), (1, .inl (H.1 1826 1)), (2, .inl (H.1 1826 3)), (3, .inl (H.1 1826 8)), (4, .inl (H.1 1826 13)), (5, .inl (H.1 1826 19)), (6, .inl dc)]) (st' := []) rfl ?_
                refine h_run 2 (pc' := 115) (l' := [(0, .inr (.inr 1826)), (1, .inl (H.1 1826 1)), (2, .inl (H.1 1826 3)), (3, .inl (H.1 1826 8)), (4, .inl (H.1 1826 13)), (5, .inl (H.1 1826 19)), (6, .inl dc)]) (st' := [.inr (.inr 1826)]) rfl ?_
                have g105 : -2147483648 ≤ (H100.1 1826 35) ∧ (H100.1 1826 35) ≤ 2147483647 := hrg102.1 1826 13 35 _ .int rfl rfl
                refine h_cv (i := 293) (j := 158) (b := 1826) (M' := mt_158) (xs := []) (rest := []) rfl rfl rfl rfl rfl rfl (Nat.le_of_ble_eq_true rfl) (Nat.le_of_ble_eq_true rfl) (by omega) (m_good (by omega)) ?_
                rintro _ _ ⟨⟨rfl, b106⟩ | ⟨rfl, b106⟩, rfl⟩
                · have b106x : (H100.1 1826 35) = 0 := b106
                  refine h_run 0 (pc' := 118) (l' := [(0, .inr (.inr 1826)), (1, .inl (H.1 1826 1)), (2, .inl (H.1 1826 3)), (3, .inl (H.1 1826 8)), (4, .inl (H.1 1826 13)), (5, .inl (H.1 1826 19)), (6, .inl dc)]) (st' := [.inl 1]) rfl ?_
                  refine h_zeq (off := 17) (t := 135) rfl rfl (by decide) (fun c => absurd c (by decide)) (fun _ => ?_)
                  have g107 : -2147483648 ≤ (H100.1 1826 8) ∧ (H100.1 1826 8) ≤ 2147483647 := hrg102.1 1826 13 8 _ .int rfl rfl
                  have e108 : (H100.1 1826 8) = (H1.1 1826 8) := hx100f.2.2 8 (by decide)
                  have g109 : -2147483648 ≤ (H100.1 1826 13) ∧ (H100.1 1826 13) ≤ 2147483647 := hrg102.1 1826 13 13 _ .int rfl rfl
                  have g110 : -2147483648 ≤ (H100.1 1826 19) ∧ (H100.1 1826 19) ≤ 2147483647 := hrg102.1 1826 13 19 _ .int rfl rfl
                  have e111 : (H100.1 1826 19) = (H1.1 1826 19) := hx100f.2.2 19 (by decide)
                  obtain ⟨X2, hm2, hR2x, hc6, hL2, hQ2⟩ := GB_g hx100n (by omega)
                  have hq2 := rch_tr hq1 hm2
                  obtain ⟨hj2, hl2⟩ := hJL _ _ hm2
                  have h16 := hR1.2.2.2.2.2.2.2.1.1.1
                  have h17 := hR1.2.2.2.2.2.2.2.1.1.2
                  have h26 := hR2x.2.2.2.2.2.2.2.1.1.1
                  have h27 := hR2x.2.2.2.2.2.2.2.1.1.2
                  have hS2 : RS9 H100 X2 := RS9_ag hS1 hM1 h16 h17 hx100g hl2 (fun r a9 b9 => by have e9 : r = (X1 0 6).toNat := (by omega); rw [e9]; exact ⟨hL2, hQ2⟩) (fun _ a9 b9 => absurd b9 (by omega))
                  have hR2 : RK Y (H100.1 1826 8) H100 X2 := by rw [show (H100.1 1826 8) = (H1.1 1826 8) from (hx100f.2.2 8 (by decide))]; exact hR2x
                  have htk2 := RK_t hR2
                  have hmf2 : (H.1 1826 8) ≤ (H100.1 1826 8) := by have q9 := hx100g.1.2.2.1; omega
                  refine h_run 2 (pc' := 125) (l' := [(0, .inr (.inr 1826)), (1, .inl (H.1 1826 1)), (2, .inl (H.1 1826 3)), (3, .inl (H.1 1826 8)), (4, .inl (H.1 1826 13)), (5, .inl (H.1 1826 19)), (6, .inl dc)]) (st' := [.inl (H100.1 1826 31)]) rfl ?_
                  have g112 : -2147483648 ≤ (H100.1 1826 31) ∧ (H100.1 1826 31) ≤ 2147483647 := hrg102.1 1826 13 31 _ .int rfl rfl
                  refine h_run 1 (pc' := 127) (l' := [(0, .inr (.inr 1826)), (1, .inl (H.1 1826 1)), (2, .inl (H.1 1826 3)), (3, .inl (H.1 1826 8)), (4, .inl (H.1 1826 13)), (5, .inl (H.1 1826 19)), (6, .inl dc)]) (st' := [.inl 59, .inl (H100.1 1826 31)]) rfl ?_
                  refine h_ieq (off := 8) (t := 135) rfl rfl (by omega) (by decide) (fun c113 => ?_) (fun c113 => ?_)
                  · refine h_run 1 (pc' := 136) (l' := [(0, .inr (.inr 1826)), (1, .inl (H.1 1826 1)), (2, .inl (H.1 1826 3)), (3, .inl (H.1 1826 8)), (4, .inl (H.1 1826 13)), (5, .inl (H.1 1826 19)), (6, .inl dc)]) (st' := [.inr (.inr 1826)]) rfl ?_
                    refine h_cv (i := 293) (j := 158) (b := 1826) (M' := mt_158) (xs := []) (rest := []) rfl rfl rfl rfl rfl rfl (Nat.le_of_ble_eq_true rfl) (Nat.le_of_ble_eq_true rfl) (by omega) (m_good1 (by omega) (by omega : (H100.1 1826 35) = 0)) ?_
                    rintro _ _ ⟨rfl, rfl⟩
                    refine h_run 0 (pc' := 139) (l' := [(0, .inr (.inr 1826)), (1, .inl (H.1 1826 1)), (2, .inl (H.1 1826 3)), (3, .inl (H.1 1826 8)), (4, .inl (H.1 1826 13)), (5, .inl (H.1 1826 19)), (6, .inl dc)]) (st' := [.inl 1]) rfl ?_
                    refine h_zeq (off := -105) (t := 34) rfl rfl (by decide) (fun c => absurd c (by decide)) (fun _ => ?_)
                    have hq3 : rch Y ([(6, 0, 0, 0)], X) ([(6, dc + 1, 0, 0)], adv X2) := rch_st hq2 (by show (if tk Y (xi X2) = 59 then _ else _) = _; (repeat (first | rw [if_pos (by omega)] | rw [if_neg (by omega)])); try (first | rfl | (exfalso; omega)))
                    refine h_run 1 (pc' := 143) (l' := [(0, .inr (.inr 1826)), (1, .inl (H.1 1826 1)), (2, .inl (H.1 1826 3)), (3, .inl (H.1 1826 8)), (4, .inl (H.1 1826 13)), (5, .inl (H.1 1826 19)), (6, .inl dc)]) (st' := [.inr (.inr 1826)]) rfl ?_
                    have g114 : -2147483648 ≤ (H100.1 1826 30) ∧ (H100.1 1826 30) ≤ 2147483647 := hrg102.1 1826 13 30 _ .int rfl rfl
                    have g115 : -2147483648 ≤ (H100.1 1826 29) ∧ (H100.1 1826 29) ≤ 2147483647 := hrg102.1 1826 13 29 _ .int rfl rfl
                    have e116 : (H100.1 1826 29) = (H1.1 1826 29) := hx100f.2.2 29 (by decide)
                    have g117 : -2147483648 ≤ (H100.1 1826 32) ∧ (H100.1 1826 32) ≤ 2147483647 := hrg102.1 1826 13 32 _ .int rfl rfl
                    refine h_cv (i := 297) (j := 165) (b := 1826) (M' := mt_165) (xs := []) (rest := []) rfl rfl rfl rfl rfl rfl (Nat.le_of_ble_eq_true rfl) (Nat.le_of_ble_eq_true rfl) (by omega) (n_nx (by omega) (by omega : 0 ≤ (H100.1 1826 30) ∧ (H100.1 1826 30) ≤ (H100.1 1826 29) ∧ (H100.1 1826 29) ≤ 1000) (by omega : 0 ≤ (H100.1 1826 35) ∧ (H100.1 1826 35) ≤ 5) (by omega : 0 ≤ (H100.1 1826 32) ∧ (H100.1 1826 32) ≤ 1000) (by omega : (H100.1 1826 35) = 0) (X := (adv X2)) (RN_adv hR2 (fr_rf [] [] _) (by decide) (by decide)) hq3 (lk_n (by decide))) ?_
                    rintro _ H118 ⟨rfl, hx118n, hx118f, hx118a, hx118b, hx118c, -, hx118e, hx118g⟩
                    refine h_rng (fun hrg119 => ?_)
                    have hf120 : fr [1, 3, 8, 13, 19, 28, 29, 30, 31, 32, 33, 34, 35, 36, 39, 40, 41, 43, 44, 47, 74, 76, 77] [1827, 1828, 1829, 1830, 1831, 1832, 1833, 1834, 1835, 1836, 1837, 1838, 1839, 1840, 1841, 1842, 1843, 1844, 1845, 1846, 1847, 1849, 1850, 1851, 1852, 1853, 1854] H H118 := fr_t hf103 hx118f (by decide) (by decide)
                    have ha121 : agp H H118 := agp_tr ha104 (agp_fr hx118f (by decide) (by decide))
                    replace hx118a : (H100.1 1826 30) ≤ (H118.1 1826 30) := hx118a
                    replace hx118b : (H118.1 1826 30) ≤ (H100.1 1826 29) := hx118b
                    replace hx118g : (H118.1 1826 35) = 0 → ((H118.1 1826 31) = 0 ∨ (H100.1 1826 30) < (H118.1 1826 30)) := hx118g
                    refine h_run 0 (pc' := 146) (l' := [(0, .inr (.inr 1826)), (1, .inl (H.1 1826 1)), (2, .inl (H.1 1826 3)), (3, .inl (H.1 1826 8)), (4, .inl (H.1 1826 13)), (5, .inl (H.1 1826 19)), (6, .inl dc)]) (st' := []) rfl ?_
                    refine h_run 2 (pc' := 34) (l' := [(0, .inr (.inr 1826)), (1, .inl (H.1 1826 1)), (2, .inl (H.1 1826 3)), (3, .inl (H.1 1826 8)), (4, .inl (H.1 1826 13)), (5, .inl (H.1 1826 19)), (6, .inl (dc + 1))]) (st' := []) rfl ?_
                    have g122 : -2147483648 ≤ (H118.1 1826 30) ∧ (H118.1 1826 30) ≤ 2147483647 := hrg119.1 1826 13 30 _ .int rfl rfl
                    have g123 : -2147483648 ≤ (H118.1 1826 35) ∧ (H118.1 1826 35) ≤ 2147483647 := hrg119.1 1826 13 35 _ .int rfl rfl
                    have g124 : -2147483648 ≤ (H118.1 1826 32) ∧ (H118.1 1826 32) ≤ 2147483647 := hrg119.1 1826 13 32 _ .int rfl rfl
                    have g125 : -2147483648 ≤ (H118.1 1826 31) ∧ (H118.1 1826 31) ≤ 2147483647 := hrg119.1 1826 13 31 _ .int rfl rfl
                    have g126 : -2147483648 ≤ (H118.1 1826 29) ∧ (H118.1 1826 29) ≤ 2147483647 := hrg119.1 1826 13 29 _ .int rfl rfl
                    have e127 : (H118.1 1826 29) = (H100.1 1826 29) := hx118f.2.2 29 (by decide)
                    have g128 : -2147483648 ≤ (H118.1 1826 28) ∧ (H118.1 1826 28) ≤ 2147483647 := hrg119.1 1826 13 28 _ .int rfl rfl
                    have e129 : (H118.1 1826 28) = (H100.1 1826 28) := hx118f.2.2 28 (by decide)
                    have e130 : (H100.1 1826 28) = (H1.1 1826 28) := hx100f.2.2 28 (by decide)
                    have g131 : -2147483648 ≤ (H118.1 1826 77) ∧ (H118.1 1826 77) ≤ 2147483647 := hrg119.1 1826 13 77 _ .int rfl rfl
                    have e132 : (H118.1 1826 77) = (H100.1 1826 77) := hx118f.2.2 77 (by decide)
                    have e133 : (H100.1 1826 77) = (H1.1 1826 77) := hx100f.2.2 77 (by decide)
                    have g134 : -2147483648 ≤ (H118.1 1826 74) ∧ (H118.1 1826 74) ≤ 2147483647 := hrg119.1 1826 13 74 _ .int rfl rfl
                    have e135 : (H118.1 1826 74) = (H100.1 1826 74) := hx118f.2.2 74 (by decide)
                    have e136 : (H100.1 1826 74) = (H1.1 1826 74) := hx100f.2.2 74 (by decide)
                    have g137 : -2147483648 ≤ (H118.1 1826 67) ∧ (H118.1 1826 67) ≤ 2147483647 := hrg119.1 1826 13 67 _ .int rfl rfl
                    have e138 : (H118.1 1826 67) = (H100.1 1826 67) := hx118f.2.2 67 (by decide)
                    have e139 : (H100.1 1826 67) = (H1.1 1826 67) := hx100f.2.2 67 (by decide)
                    have e140 : (H1.1 1826 67) = (H.1 1826 67) := hf.2.2 67 (by decide)
                    exact ih.1 _ (dc + 1) hf120 (by omega : 0 ≤ (H118.1 1826 30) ∧ (H118.1 1826 30) ≤ (H118.1 1826 29) ∧ (H118.1 1826 29) ≤ 1000) (by omega : 0 ≤ (H118.1 1826 35) ∧ (H118.1 1826 35) ≤ 5) (by omega : 0 ≤ (H118.1 1826 32) ∧ (H118.1 1826 32) ≤ 1000) (by omega : (H118.1 1826 28) = 0) (by omega : (H118.1 1826 77) = (H.1 1826 77) ∧ (H118.1 1826 74) = (H.1 1826 74) ∧ (H118.1 1826 67) = (H.1 1826 67)) ha121 (fun _ => PWc_fr (hx100p (by omega)) hx118f (by decide) (by decide)) (GB_le hx118n hmf2 (fun q => ⟨_, hq3, (by rw [show (H118.1 1826 8) = _ from (hx118f.2.2 8 (by decide))]; exact q), RS9_fr (RS9_adv hS2) hx118f (by decide)⟩)) (mu_lt2 hw (by omega : (H1.1 1826 35) = 0) (by omega : (H118.1 1826 29) = (H1.1 1826 29)) (by omega : (H118.1 1826 35) ≠ 0 ∨ ((H1.1 1826 30) ≤ (H118.1 1826 30) ∧ (H118.1 1826 30) ≤ (H1.1 1826 29) ∧ (((H118.1 1826 31) = 0 ∧ (H1.1 1826 31) ≠ 0) ∨ (H1.1 1826 30) < (H118.1 1826 30)))))
                  · refine h_run 2 (pc' := 132) (l' := [(0, .inr (.inr 1826)), (1, .inl (H.1 1826 1)), (2, .inl (H.1 1826 3)), (3, .inl (H.1 1826 8)), (4, .inl (H.1 1826 13)), (5, .inl (H.1 1826 19)), (6, .inl dc)]) (st' := [.inl 2, .inr (.inr 1826)]) rfl ?_
                    refine h_cv (i := 278) (j := 159) (b := 1826) (M' := mt_159) (xs := [.inl 2]) (rest := []) rfl rfl rfl rfl rfl rfl (Nat.le_of_ble_eq_true rfl) (Nat.le_of_ble_eq_true rfl) (by omega) (m_bad0 (by omega) (by omega) (by omega : (H100.1 1826 35) = 0)) ?_
                    rintro _ _ ⟨rfl, rfl⟩
                    refine h_run 0 (pc' := 135) (l' := [(0, .inr (.inr 1826)), (1, .inl (H.1 1826 1)), (2, .inl (H.1 1826 3)), (3, .inl (H.1 1826 8)), (4, .inl (H.1 1826 13)), (5, .inl (H.1 1826 19)), (6, .inl dc)]) (st' := []) rfl ?_
                    refine h_run 1 (pc' := 136) (l' := [(0, .inr (.inr 1826)), (1, .inl (H.1 1826 1)), (2, .inl (H.1 1826 3)), (3, .inl (H.1 1826 8)), (4, .inl (H.1 1826 13)), (5, .inl (H.1 1826 19)), (6, .inl dc)]) (st' := [.inr (.inr 1826)]) rfl ?_
                    refine h_cv (i := 293) (j := 158) (b := 1826) (M' := mt_158) (xs := []) (rest := []) rfl rfl rfl rfl rfl rfl (Nat.le_of_ble_eq_true rfl) (Nat.le_of_ble_eq_true rfl) (by omega) (m_good0 (by omega) (by omega : (2 : Int) ≠ 0)) ?_
                    rintro _ _ ⟨rfl, rfl⟩
                    refine h_run 0 (pc' := 139) (l' := [(0, .inr (.inr 1826)), (1, .inl (H.1 1826 1)), (2, .inl (H.1 1826 3)), (3, .inl (H.1 1826 8)), (4, .inl (H.1 1826 13)), (5, .inl (H.1 1826 19)), (6, .inl dc)]) (st' := [.inl 0]) rfl ?_
                    refine h_zeq (off := -105) (t := 34) rfl rfl (by decide) (fun _ => ?_) (fun c => absurd c (by decide))
                    have g141 : -2147483648 ≤ (H100.1 1826 30) ∧ (H100.1 1826 30) ≤ 2147483647 := hrg102.1 1826 13 30 _ .int rfl rfl
                    have g142 : -2147483648 ≤ (H100.1 1826 32) ∧ (H100.1 1826 32) ≤ 2147483647 := hrg102.1 1826 13 32 _ .int rfl rfl
                    have g143 : -2147483648 ≤ (H100.1 1826 29) ∧ (H100.1 1826 29) ≤ 2147483647 := hrg102.1 1826 13 29 _ .int rfl rfl
                    have e144 : (H100.1 1826 29) = (H1.1 1826 29) := hx100f.2.2 29 (by decide)
                    have g145 : -2147483648 ≤ (H100.1 1826 28) ∧ (H100.1 1826 28) ≤ 2147483647 := hrg102.1 1826 13 28 _ .int rfl rfl
                    have e146 : (H100.1 1826 28) = (H1.1 1826 28) := hx100f.2.2 28 (by decide)
                    have g147 : -2147483648 ≤ (H100.1 1826 77) ∧ (H100.1 1826 77) ≤ 2147483647 := hrg102.1 1826 13 77 _ .int rfl rfl
                    have e148 : (H100.1 1826 77) = (H1.1 1826 77) := hx100f.2.2 77 (by decide)
                    have g149 : -2147483648 ≤ (H100.1 1826 74) ∧ (H100.1 1826 74) ≤ 2147483647 := hrg102.1 1826 13 74 _ .int rfl rfl
                    have e150 : (H100.1 1826 74) = (H1.1 1826 74) := hx100f.2.2 74 (by decide)
                    have g151 : -2147483648 ≤ (H100.1 1826 67) ∧ (H100.1 1826 67) ≤ 2147483647 := hrg102.1 1826 13 67 _ .int rfl rfl
                    have e152 : (H100.1 1826 67) = (H1.1 1826 67) := hx100f.2.2 67 (by decide)
                    have e153 : (H1.1 1826 67) = (H.1 1826 67) := hf.2.2 67 (by decide)
                    exact ih.1 _ dc (fr_o (fr_o hf103 (by decide)) (by decide)) (by omega : 0 ≤ (H100.1 1826 30) ∧ (H100.1 1826 30) ≤ (H100.1 1826 29) ∧ (H100.1 1826 29) ≤ 1000) (by omega : 0 ≤ (2 : Int) ∧ (2 : Int) ≤ 5) (by omega : 0 ≤ (H100.1 1826 32) ∧ (H100.1 1826 32) ≤ 1000) (by omega : (H100.1 1826 28) = 0) (by omega : (H100.1 1826 77) = (H.1 1826 77) ∧ (H100.1 1826 74) = (H.1 1826 74) ∧ (H100.1 1826 67) = (H.1 1826 67)) (agp_o (agp_o ha104 (by decide)) (by decide)) (fun (q : (2 : Int) = 0) => absurd q (by omega)) (Or.inr ⟨(by omega : (2 : Int) ≠ 0), BD_le (BD_mk hR2 (fr_o (fr_o (fr_rf [35, 36] [] H100) (by decide)) (by decide)) (by decide) (by decide) (by decide : (2 : Int) ≠ 0) rfl rfl (rch_st hq2 (by show (if tk Y (xi X2) = 59 then _ else _) = _; unfold miss; (repeat (first | rw [if_pos (by omega)] | rw [if_neg (by omega)])); try (first | rfl | (exfalso; omega))))) hmf2⟩) (mu_lt2 hw (by omega : (H1.1 1826 35) = 0) (by omega : (H100.1 1826 29) = (H1.1 1826 29)) (by omega : (2 : Int) ≠ 0 ∨ ((H1.1 1826 30) ≤ (H100.1 1826 30) ∧ (H100.1 1826 30) ≤ (H1.1 1826 29) ∧ (((H100.1 1826 31) = 0 ∧ (H1.1 1826 31) ≠ 0) ∨ (H1.1 1826 30) < (H100.1 1826 30)))))
                · have b106x : (H100.1 1826 35) ≠ 0 := b106
                  refine h_run 0 (pc' := 118) (l' := [(0, .inr (.inr 1826)), (1, .inl (H.1 1826 1)), (2, .inl (H.1 1826 3)), (3, .inl (H.1 1826 8)), (4, .inl (H.1 1826 13)), (5, .inl (H.1 1826 19)), (6, .inl dc)]) (st' := [.inl 0]) rfl ?_
                  refine h_zeq (off := 17) (t := 135) rfl rfl (by decide) (fun _ => ?_) (fun c => absurd c (by decide))
                  refine h_run 1 (pc' := 136) (l' := [(0, .inr (.inr 1826)), (1, .inl (H.1 1826 1)), (2, .inl (H.1 1826 3)), (3, .inl (H.1 1826 8)), (4, .inl (H.1 1826 13)), (5, .inl (H.1 1826 19)), (6, .inl dc)]) (st' := [.inr (.inr 1826)]) rfl ?_
                  refine h_cv (i := 293) (j := 158) (b := 1826) (M' := mt_158) (xs := []) (rest := []) rfl rfl rfl rfl rfl rfl (Nat.le_of_ble_eq_true rfl) (Nat.le_of_ble_eq_true rfl) (by omega) (m_good0 (by omega) (by omega : (H100.1 1826 35) ≠ 0)) ?_
                  rintro _ _ ⟨rfl, rfl⟩
                  refine h_run 0 (pc' := 139) (l' := [(0, .inr (.inr 1826)), (1, .inl (H.1 1826 1)), (2, .inl (H.1 1826 3)), (3, .inl (H.1 1826 8)), (4, .inl (H.1 1826 13)), (5, .inl (H.1 1826 19)), (6, .inl dc)]) (st' := [.inl 0]) rfl ?_
                  refine h_zeq (off := -105) (t := 34) rfl rfl (by decide) (fun _ => ?_) (fun c => absurd c (by decide))
                  have g154 : -2147483648 ≤ (H100.1 1826 30) ∧ (H100.1 1826 30) ≤ 2147483647 := hrg102.1 1826 13 30 _ .int rfl rfl
                  have g155 : -2147483648 ≤ (H100.1 1826 32) ∧ (H100.1 1826 32) ≤ 2147483647 := hrg102.1 1826 13 32 _ .int rfl rfl
                  have g156 : -2147483648 ≤ (H100.1 1826 31) ∧ (H100.1 1826 31) ≤ 2147483647 := hrg102.1 1826 13 31 _ .int rfl rfl
                  have g157 : -2147483648 ≤ (H100.1 1826 29) ∧ (H100.1 1826 29) ≤ 2147483647 := hrg102.1 1826 13 29 _ .int rfl rfl
                  have e158 : (H100.1 1826 29) = (H1.1 1826 29) := hx100f.2.2 29 (by decide)
                  have g159 : -2147483648 ≤ (H100.1 1826 28) ∧ (H100.1 1826 28) ≤ 2147483647 := hrg102.1 1826 13 28 _ .int rfl rfl
                  have e160 : (H100.1 1826 28) = (H1.1 1826 28) := hx100f.2.2 28 (by decide)
                  have g161 : -2147483648 ≤ (H100.1 1826 77) ∧ (H100.1 1826 77) ≤ 2147483647 := hrg102.1 1826 13 77 _ .int rfl rfl
                  have e162 : (H100.1 1826 77) = (H1.1 1826 77) := hx100f.2.2 77 (by decide)
                  have g163 : -2147483648 ≤ (H100.1 1826 74) ∧ (H100.1 1826 74) ≤ 2147483647 := hrg102.1 1826 13 74 _ .int rfl rfl
                  have e164 : (H100.1 1826 74) = (H1.1 1826 74) := hx100f.2.2 74 (by decide)
                  have g165 : -2147483648 ≤ (H100.1 1826 67) ∧ (H100.1 1826 67) ≤ 2147483647 := hrg102.1 1826 13 67 _ .int rfl rfl
                  have e166 : (H100.1 1826 67) = (H1.1 1826 67) := hx100f.2.2 67 (by decide)
                  have e167 : (H1.1 1826 67) = (H.1 1826 67) := hf.2.2 67 (by decide)
                  exact ih.1 _ dc hf103 (by omega : 0 ≤ (H100.1 1826 30) ∧ (H100.1 1826 30) ≤ (H100.1 1826 29) ∧ (H100.1 1826 29) ≤ 1000) (by omega : 0 ≤ (H100.1 1826 35) ∧ (H100.1 1826 35) ≤ 5) (by omega : 0 ≤ (H100.1 1826 32) ∧ (H100.1 1826 32) ≤ 1000) (by omega : (H100.1 1826 28) = 0) (by omega : (H100.1 1826 77) = (H.1 1826 77) ∧ (H100.1 1826 74) = (H.1 1826 74) ∧ (H100.1 1826 67) = (H.1 1826 67)) ha104 (fun (q : (H100.1 1826 35) = 0) => absurd q (by omega)) (Or.inr ⟨(by omega : (H100.1 1826 35) ≠ 0), BD_le (GB_b hx100n (by omega)) hmf⟩) (mu_lt2 hw (by omega : (H1.1 1826 35) = 0) (by omega : (H100.1 1826 29) = (H1.1 1826 29)) (by omega : (H100.1 1826 35) ≠ 0 ∨ ((H1.1 1826 30) ≤ (H100.1 1826 30) ∧ (H100.1 1826 30) ≤ (H1.1 1826 29) ∧ (((H100.1 1826 31) = 0 ∧ (H1.1 1826 31) ≠ 0) ∨ (H1.1 1826 30) < (H100.1 1826 30)))))
            · refine h_run 1 (pc' := 72) (l' := [(0, .inr (.inr 1826)), (1, .inl (H.1 1826 1)), (2, .inl (H.1 1826 3)), (3, .inl (H.1 1826 8)), (4, .inl (H.1 1826 13)), (5, .inl (H.1 1826 19)), (6, .inl dc)]) (st' := [.inr (.inr 1826)]) rfl ?_
              have g168 : -2147483648 ≤ (H1.1 1826 30) ∧ (H1.1 1826 30) ≤ 2147483647 := hrg1.1 1826 13 30 _ .int rfl rfl
              have g169 : -2147483648 ≤ (H1.1 1826 29) ∧ (H1.1 1826 29) ≤ 2147483647 := hrg1.1 1826 13 29 _ .int rfl rfl
              have g170 : -2147483648 ≤ (H1.1 1826 8) ∧ (H1.1 1826 8) ≤ 2147483647 := hrg1.1 1826 13 8 _ .int rfl rfl
              have g172 : -2147483648 ≤ (H1.1 1826 32) ∧ (H1.1 1826 32) ≤ 2147483647 := hrg1.1 1826 13 32 _ .int rfl rfl
              refine h_cv (i := 402) (j := 173) (b := 1826) (M' := mt_173) (xs := []) (rest := []) rfl rfl rfl rfl rfl rfl (Nat.le_of_ble_eq_true rfl) (Nat.le_of_ble_eq_true rfl) (by omega) (n_function (by omega) (by omega : 0 ≤ (H1.1 1826 30) ∧ (H1.1 1826 30) ≤ (H1.1 1826 29) ∧ (H1.1 1826 29) ≤ 1000) (by omega : 0 ≤ (H1.1 1826 35) ∧ (H1.1 1826 35) ≤ 5) (by omega : 0 ≤ (H1.1 1826 32) ∧ (H1.1 1826 32) ≤ 1000) (hP1 (by omega : (H1.1 1826 35) = 0)) (by omega : (H1.1 1826 35) = 0) hR1 (by omega : (H1.1 1826 8) = (H1.1 1826 8)) (show rch Y ([(6, dc, 0, 0)], X1) ((6, dc, 0, 0) :: [], X1) from rch_rf _ _) (by omega : tk Y (xi X1) = 5)) ?_
              rintro _ H171 ⟨rfl, hx171n, hx171f, hx171a, hx171c, -, hx171e, hx171g, hx171p⟩
              refine h_rng (fun hrg173 => ?_)
              have hf174 : fr [1, 3, 8, 13, 19, 28, 29, 30, 31, 32, 33, 34, 35, 36, 39, 40, 41, 43, 44, 47, 74, 76, 77] [1827, 1828, 1829, 1830, 1831, 1832, 1833, 1834, 1835, 1836, 1837, 1838, 1839, 1840, 1841, 1842, 1843, 1844, 1845, 1846, 1847, 1849, 1850, 1851, 1852, 1853, 1854] H H171 := fr_t hf hx171f (by decide) (by decide)
              have ha175 : agp H H171 := agp_tr hag hx171g
              replace hx171a : (H1.1 1826 30) ≤ (H171.1 1826 30) ∧ (H171.1 1826 30) ≤ (H1.1 1826 29) := hx171a
              replace hx171p : hid ((H171.1 1826 35) = 0 → PWc H171) := hx171p
              replace hx171n := GB_tr hq1 hx171n
              refine h_run 0 (pc' := 75) (l' := [(0, .inr (.inr 1826)), (1, .inl (H.1 1826 1)), (2, .inl (H.1 1826 3)), (3, .inl (H.1 1826 8)), (4, .inl (H.1 1826 13)), (5, .inl (H.1 1826 19)), (6, .inl dc)]) (st' := []) rfl ?_
              refine h_run 2 (pc' := 115) (l' := [(0, .inr (.inr 1826)), (1, .inl (H.1 1826 1)), (2, .inl (H.1 1826 3)), (3, .inl (H.1 1826 8)), (4, .inl (H.1 1826 13)), (5, .inl (H.1 1826 19)), (6, .inl dc)]) (st' := [.inr (.inr 1826)]) rfl ?_
              have g176 : -2147483648 ≤ (H171.1 1826 35) ∧ (H171.1 1826 35) ≤ 2147483647 := hrg173.1 1826 13 35 _ .int rfl rfl
              refine h_cv (i := 293) (j := 158) (b := 1826) (M' := mt_158) (xs := []) (rest := []) rfl rfl rfl rfl rfl rfl (Nat.le_of_ble_eq_true rfl) (Nat.le_of_ble_eq_true rfl) (by omega) (m_good (by omega)) ?_
              rintro _ _ ⟨⟨rfl, b177⟩ | ⟨rfl, b177⟩, rfl⟩
              · have b177x : (H171.1 1826 35) = 0 := b177
                refine h_run 0 (pc' := 118) (l' := [(0, .inr (.inr 1826)), (1, .inl (H.1 1826 1)), (2, .inl (H.1 1826 3)), (3, .inl (H.1 1826 8)), (4, .inl (H.1 1826 13)), (5, .inl (H.1 1826 19)), (6, .inl dc)]) (st' := [.inl 1]) rfl ?_
                refine h_zeq (off := 17) (t := 135) rfl rfl (by decide) (fun c => absurd c (by decide)) (fun _ => ?_)
                have g178 : -2147483648 ≤ (H171.1 1826 8) ∧ (H171.1 1826 8) ≤ 2147483647 := hrg173.1 1826 13 8 _ .int rfl rfl
                have g179 : -2147483648 ≤ (H171.1 1826 13) ∧ (H171.1 1826 13) ≤ 2147483647 := hrg173.1 1826 13 13 _ .int rfl rfl
                have e180 : (H171.1 1826 13) = (H1.1 1826 13) := hx171f.2.2 13 (by decide)
                have g181 : -2147483648 ≤ (H171.1 1826 19) ∧ (H171.1 1826 19) ≤ 2147483647 := hrg173.1 1826 13 19 _ .int rfl rfl
                have e182 : (H171.1 1826 19) = (H1.1 1826 19) := hx171f.2.2 19 (by decide)
                obtain ⟨X2, hm2, hR2x, hfn⟩ := GB_g hx171n (by omega)
                have hq2 := rch_tr hq1 hm2
                obtain ⟨hj2, hl2⟩ := hJL _ _ hm2
                have h16 := hR1.2.2.2.2.2.2.2.1.1.1
                have h17 := hR1.2.2.2.2.2.2.2.1.1.2
                have h26 := hR2x.2.2.2.2.2.2.2.1.1.1
                have h27 := hR2x.2.2.2.2.2.2.2.1.1.2
                have hS2 : RS9 H171 X2 := RS9_ag hS1 hM1 h16 h17 hx171g hl2 (fun _ a9 b9 => absurd b9 (by omega)) (fun _ a9 b9 => absurd b9 (by omega))
                have hR2 : RK Y (H171.1 1826 8) H171 X2 := by rw [hfn]; exact hR2x
                have htk2 := RK_t hR2
                have hmf2 : (H.1 1826 8) ≤ (H171.1 1826 8) := by have q9 := hx171g.1.2.2.1; omega
                refine h_run 2 (pc' := 125) (l' := [(0, .inr (.inr 1826)), (1, .inl (H.1 1826 1)), (2, .inl (H.1 1826 3)), (3, .inl (H.1 1826 8)), (4, .inl (H.1 1826 13)), (5, .inl (H.1 1826 19)), (6, .inl dc)]) (st' := [.inl (H171.1 1826 31)]) rfl ?_
                have g183 : -2147483648 ≤ (H171.1 1826 31) ∧ (H171.1 1826 31) ≤ 2147483647 := hrg173.1 1826 13 31 _ .int rfl rfl
                refine h_run 1 (pc' := 127) (l' := [(0, .inr (.inr 1826)), (1, .inl (H.1 1826 1)), (2, .inl (H.1 1826 3)), (3, .inl (H.1 1826 8)), (4, .inl (H.1 1826 13)), (5, .inl (H.1 1826 19)), (6, .inl dc)]) (st' := [.inl 59, .inl (H171.1 1826 31)]) rfl ?_
                refine h_ieq (off := 8) (t := 135) rfl rfl (by omega) (by decide) (fun c184 => ?_) (fun c184 => ?_)
                · refine h_run 1 (pc' := 136) (l' := [(0, .inr (.inr 1826)), (1, .inl (H.1 1826 1)), (2, .inl (H.1 1826 3)), (3, .inl (H.1 1826 8)), (4, .inl (H.1 1826 13)), (5, .inl (H.1 1826 19)), (6, .inl dc)]) (st' := [.inr (.inr 1826)]) rfl ?_
                  refine h_cv (i := 293) (j := 158) (b := 1826) (M' := mt_158) (xs := []) (rest := []) rfl rfl rfl rfl rfl rfl (Nat.le_of_ble_eq_true rfl) (Nat.le_of_ble_eq_true rfl) (by omega) (m_good1 (by omega) (by omega : (H171.1 1826 35) = 0)) ?_
                  rintro _ _ ⟨rfl, rfl⟩
                  refine h_run 0 (pc' := 139) (l' := [(0, .inr (.inr 1826)), (1, .inl (H.1 1826 1)), (2, .inl (H.1 1826 3)), (3, .inl (H.1 1826 8)), (4, .inl (H.1 1826 13)), (5, .inl (H.1 1826 19)), (6, .inl dc)]) (st' := [.inl 1]) rfl ?_
                  refine h_zeq (off := -105) (t := 34) rfl rfl (by decide) (fun c => absurd c (by decide)) (fun _ => ?_)
                  have hq3 : rch Y ([(6, 0, 0, 0)], X) ([(6, dc + 1, 0, 0)], adv X2) := rch_st hq2 (by show (if tk Y (xi X2) = 59 then _ else _) = _; (repeat (first | rw [if_pos (by omega)] | rw [if_neg (by omega)])); try (first | rfl | (exfalso; omega)))
                  refine h_run 1 (pc' := 143) (l' := [(0, .inr (.inr 1826)), (1, .inl (H.1 1826 1)), (2, .inl (H.1 1826 3)), (3, .inl (H.1 1826 8)), (4, .inl (H.1 1826 13)), (5, .inl (H.1 1826 19)), (6, .inl dc)]) (st' := [.inr (.inr 1826)]) rfl ?_
                  have g185 : -2147483648 ≤ (H171.1 1826 30) ∧ (H171.1 1826 30) ≤ 2147483647 := hrg173.1 1826 13 30 _ .int rfl rfl
                  have g186 : -2147483648 ≤ (H171.1 1826 29) ∧ (H171.1 1826 29) ≤ 2147483647 := hrg173.1 1826 13 29 _ .int rfl rfl
                  have e187 : (H171.1 1826 29) = (H1.1 1826 29) := hx171f.2.2 29 (by decide)
                  have g188 : -2147483648 ≤ (H171.1 1826 32) ∧ (H171.1 1826 32) ≤ 2147483647 := hrg173.1 1826 13 32 _ .int rfl rfl
                  refine h_cv (i := 297) (j := 165) (b := 1826) (M' := mt_165) (xs := []) (rest := []) rfl rfl rfl rfl rfl rfl (Nat.le_of_ble_eq_true rfl) (Nat.le_of_ble_eq_true rfl) (by omega) (n_nx (by omega) (by omega : 0 ≤ (H171.1 1826 30) ∧ (H171.1 1826 30) ≤ (H171.1 1826 29) ∧ (H171.1 1826 29) ≤ 1000) (by omega : 0 ≤ (H171.1 1826 35) ∧ (H171.1 1826 35) ≤ 5) (by omega : 0 ≤ (H171.1 1826 32) ∧ (H171.1 1826 32) ≤ 1000) (by omega : (H171.1 1826 35) = 0) (X := (adv X2)) (RN_adv hR2 (fr_rf [] [] _) (by decide) (by decide)) hq3 (lk_n (by decide))) ?_
                  rintro _ H189 ⟨rfl, hx189n, hx189f, hx189a, hx189b, hx189c, -, hx189e, hx189g⟩
                  refine h_rng (fun hrg190 => ?_)
                  have hf191 : fr [1, 3, 8, 13, 19, 28, 29, 30, 31, 32, 33, 34, 35, 36, 39, 40, 41, 43, 44, 47, 74, 76, 77] [1827, 1828, 1829, 1830, 1831, 1832, 1833, 1834, 1835, 1836, 1837, 1838, 1839, 1840, 1841, 1842, 1843, 1844, 1845, 1846, 1847, 1849, 1850, 1851, 1852, 1853, 1854] H H189 := fr_t hf174 hx189f (by decide) (by decide)
                  have ha192 : agp H H189 := agp_tr ha175 (agp_fr hx189f (by decide) (by decide))
                  replace hx189a : (H171.1 1826 30) ≤ (H189.1 1826 30) := hx189a
                  replace hx189b : (H189.1 1826 30) ≤ (H171.1 1826 29) := hx189b
                  replace hx189g : (H189.1 1826 35) = 0 → ((H189.1 1826 31) = 0 ∨ (H171.1 1826 30) < (H189.1 1826 30)) := hx189g
                  refine h_run 0 (pc' := 146) (l' := [(0, .inr (.inr 1826)), (1, .inl (H.1 1826 1)), (2, .inl (H.1 1826 3)), (3, .inl (H.1 1826 8)), (4, .inl (H.1 1826 13)), (5, .inl (H.1 1826 19)), (6, .inl dc)]) (st' := []) rfl ?_
                  refine h_run 2 (pc' := 34) (l' := [(0, .inr (.inr 1826)), (1, .inl (H.1 1826 1)), (2, .inl (H.1 1826 3)), (3, .inl (H.1 1826 8)), (4, .inl (H.1 1826 13)), (5, .inl (H.1 1826 19)), (6, .inl (dc + 1))]) (st' := []) rfl ?_
                  have g193 : -2147483648 ≤ (H189.1 1826 30) ∧ (H189.1 1826 30) ≤ 2147483647 := hrg190.1 1826 13 30 _ .int rfl rfl
                  have g194 : -2147483648 ≤ (H189.1 1826 35) ∧ (H189.1 1826 35) ≤ 2147483647 := hrg190.1 1826 13 35 _ .int rfl rfl
                  have g195 : -2147483648 ≤ (H189.1 1826 32) ∧ (H189.1 1826 32) ≤ 2147483647 := hrg190.1 1826 13 32 _ .int rfl rfl
                  have g196 : -2147483648 ≤ (H189.1 1826 31) ∧ (H189.1 1826 31) ≤ 2147483647 := hrg190.1 1826 13 31 _ .int rfl rfl
                  have g197 : -2147483648 ≤ (H189.1 1826 29) ∧ (H189.1 1826 29) ≤ 2147483647 := hrg190.1 1826 13 29 _ .int rfl rfl
                  have e198 : (H189.1 1826 29) = (H171.1 1826 29) := hx189f.2.2 29 (by decide)
                  have g199 : -2147483648 ≤ (H189.1 1826 28) ∧ (H189.1 1826 28) ≤ 2147483647 := hrg190.1 1826 13 28 _ .int rfl rfl
                  have e200 : (H189.1 1826 28) = (H171.1 1826 28) := hx189f.2.2 28 (by decide)
                  have e201 : (H171.1 1826 28) = (H1.1 1826 28) := hx171f.2.2 28 (by decide)
                  have g202 : -2147483648 ≤ (H189.1 1826 77) ∧ (H189.1 1826 77) ≤ 2147483647 := hrg190.1 1826 13 77 _ .int rfl rfl
                  have e203 : (H189.1 1826 77) = (H171.1 1826 77) := hx189f.2.2 77 (by decide)
                  have e204 : (H171.1 1826 77) = (H1.1 1826 77) := hx171f.2.2 77 (by decide)
                  have g205 : -2147483648 ≤ (H189.1 1826 74) ∧ (H189.1 1826 74) ≤ 2147483647 := hrg190.1 1826 13 74 _ .int rfl rfl
                  have e206 : (H189.1 1826 74) = (H171.1 1826 74) := hx189f.2.2 74 (by decide)
                  have e207 : (H171.1 1826 74) = (H1.1 1826 74) := hx171f.2.2 74 (by decide)
                  have g208 : -2147483648 ≤ (H189.1 1826 67) ∧ (H189.1 1826 67) ≤ 2147483647 := hrg190.1 1826 13 67 _ .int rfl rfl
                  have e209 : (H189.1 1826 67) = (H171.1 1826 67) := hx189f.2.2 67 (by decide)
                  have e210 : (H171.1 1826 67) = (H1.1 1826 67) := hx171f.2.2 67 (by decide)
                  have e211 : (H1.1 1826 67) = (H.1 1826 67) := hf.2.2 67 (by decide)
                  exact ih.1 _ (dc + 1) hf191 (by omega : 0 ≤ (H189.1 1826 30) ∧ (H189.1 1826 30) ≤ (H189.1 1826 29) ∧ (H189.1 1826 29) ≤ 1000) (by omega : 0 ≤ (H189.1 1826 35) ∧ (H189.1 1826 35) ≤ 5) (by omega : 0 ≤ (H189.1 1826 32) ∧ (H189.1 1826 32) ≤ 1000) (by omega : (H189.1 1826 28) = 0) (by omega : (H189.1 1826 77) = (H.1 1826 77) ∧ (H189.1 1826 74) = (H.1 1826 74) ∧ (H189.1 1826 67) = (H.1 1826 67)) ha192 (fun _ => PWc_fr (hx171p (by omega)) hx189f (by decide) (by decide)) (GB_le hx189n hmf2 (fun q => ⟨_, hq3, (by rw [show (H189.1 1826 8) = _ from (hx189f.2.2 8 (by decide))]; exact q), RS9_fr (RS9_adv hS2) hx189f (by decide)⟩)) (mu_lt2 hw (by omega : (H1.1 1826 35) = 0) (by omega : (H189.1 1826 29) = (H1.1 1826 29)) (by omega : (H189.1 1826 35) ≠ 0 ∨ ((H1.1 1826 30) ≤ (H189.1 1826 30) ∧ (H189.1 1826 30) ≤ (H1.1 1826 29) ∧ (((H189.1 1826 31) = 0 ∧ (H1.1 1826 31) ≠ 0) ∨ (H1.1 1826 30) < (H189.1 1826 30)))))
                · refine h_run 2 (pc' := 132) (l' := [(0, .inr (.inr 1826)), (1, .inl (H.1 1826 1)), (2, .inl (H.1 1826 3)), (3, .inl (H.1 1826 8)), (4, .inl (H.1 1826 13)), (5, .inl (H.1 1826 19)), (6, .inl dc)]) (st' := [.inl 2, .inr (.inr 1826)]) rfl ?_
                  refine h_cv (i := 278) (j := 159) (b := 1826) (M' := mt_159) (xs := [.inl 2]) (rest := []) rfl rfl rfl rfl rfl rfl (Nat.le_of_ble_eq_true rfl) (Nat.le_of_ble_eq_true rfl) (by omega) (m_bad0 (by omega) (by omega) (by omega : (H171.1 1826 35) = 0)) ?_
                  rintro _ _ ⟨rfl, rfl⟩
                  refine h_run 0 (pc' := 135) (l' := [(0, .inr (.inr 1826)), (1, .inl (H.1 1826 1)), (2, .inl (H.1 1826 3)), (3, .inl (H.1 1826 8)), (4, .inl (H.1 1826 13)), (5, .inl (H.1 1826 19)), (6, .inl dc)]) (st' := []) rfl ?_
                  refine h_run 1 (pc' := 136) (l' := [(0, .inr (.inr 1826)), (1, .inl (H.1 1826 1)), (2, .inl (H.1 1826 3)), (3, .inl (H.1 1826 8)), (4, .inl (H.1 1826 13)), (5, .inl (H.1 1826 19)), (6, .inl dc)]) (st' := [.inr (.inr 1826)]) rfl ?_
                  refine h_cv (i := 293) (j := 158) (b := 1826) (M' := mt_158) (xs := []) (rest := []) rfl rfl rfl rfl rfl rfl (Nat.le_of_ble_eq_true rfl) (Nat.le_of_ble_eq_true rfl) (by omega) (m_good0 (by omega) (by omega : (2 : Int) ≠ 0)) ?_
                  rintro _ _ ⟨rfl, rfl⟩
                  refine h_run 0 (pc' := 139) (l' := [(0, .inr (.inr 1826)), (1, .inl (H.1 1826 1)), (2, .inl (H.1 1826 3)), (3, .inl (H.1 1826 8)), (4, .inl (H.1 1826 13)), (5, .inl (H.1 1826 19)), (6, .inl dc)]) (st' := [.inl 0]) rfl ?_
                  refine h_zeq (off := -105) (t := 34) rfl rfl (by decide) (fun _ => ?_) (fun c => absurd c (by decide))
                  have g212 : -2147483648 ≤ (H171.1 1826 30) ∧ (H171.1 1826 30) ≤ 2147483647 := hrg173.1 1826 13 30 _ .int rfl rfl
                  have g213 : -2147483648 ≤ (H171.1 1826 32) ∧ (H171.1 1826 32) ≤ 2147483647 := hrg173.1 1826 13 32 _ .int rfl rfl
                  have g214 : -2147483648 ≤ (H171.1 1826 29) ∧ (H171.1 1826 29) ≤ 2147483647 := hrg173.1 1826 13 29 _ .int rfl rfl
                  have e215 : (H171.1 1826 29) = (H1.1 1826 29) := hx171f.2.2 29 (by decide)
                  have g216 : -2147483648 ≤ (H171.1 1826 28) ∧ (H171.1 1826 28) ≤ 2147483647 := hrg173.1 1826 13 28 _ .int rfl rfl
                  have e217 : (H171.1 1826 28) = (H1.1 1826 28) := hx171f.2.2 28 (by decide)
                  have g218 : -2147483648 ≤ (H171.1 1826 77) ∧ (H171.1 1826 77) ≤ 2147483647 := hrg173.1 1826 13 77 _ .int rfl rfl
                  have e219 : (H171.1 1826 77) = (H1.1 1826 77) := hx171f.2.2 77 (by decide)
                  have g220 : -2147483648 ≤ (H171.1 1826 74) ∧ (H171.1 1826 74) ≤ 2147483647 := hrg173.1 1826 13 74 _ .int rfl rfl
                  have e221 : (H171.1 1826 74) = (H1.1 1826 74) := hx171f.2.2 74 (by decide)
                  have g222 : -2147483648 ≤ (H171.1 1826 67) ∧ (H171.1 1826 67) ≤ 2147483647 := hrg173.1 1826 13 67 _ .int rfl rfl
                  have e223 : (H171.1 1826 67) = (H1.1 1826 67) := hx171f.2.2 67 (by decide)
                  have e224 : (H1.1 1826 67) = (H.1 1826 67) := hf.2.2 67 (by decide)
                  exact ih.1 _ dc (fr_o (fr_o hf174 (by decide)) (by decide)) (by omega : 0 ≤ (H171.1 1826 30) ∧ (H171.1 1826 30) ≤ (H171.1 1826 29) ∧ (H171.1 1826 29) ≤ 1000) (by omega : 0 ≤ (2 : Int) ∧ (2 : Int) ≤ 5) (by omega : 0 ≤ (H171.1 1826 32) ∧ (H171.1 1826 32) ≤ 1000) (by omega : (H171.1 1826 28) = 0) (by omega : (H171.1 1826 77) = (H.1 1826 77) ∧ (H171.1 1826 74) = (H.1 1826 74) ∧ (H171.1 1826 67) = (H.1 1826 67)) (agp_o (agp_o ha175 (by decide)) (by decide)) (fun (q : (2 : Int) = 0) => absurd q (by omega)) (Or.inr ⟨(by omega : (2 : Int) ≠ 0), BD_le (BD_mk hR2 (fr_o (fr_o (fr_rf [35, 36] [] H171) (by decide)) (by decide)) (by decide) (by decide) (by decide : (2 : Int) ≠ 0) rfl rfl (rch_st hq2 (by show (if tk Y (xi X2) = 59 then _ else _) = _; unfold miss; (repeat (first | rw [if_pos (by omega)] | rw [if_neg (by omega)])); try (first | rfl | (exfalso; omega))))) hmf2⟩) (mu_lt2 hw (by omega : (H1.1 1826 35) = 0) (by omega : (H171.1 1826 29) = (H1.1 1826 29)) (by omega : (2 : Int) ≠ 0 ∨ ((H1.1 1826 30) ≤ (H171.1 1826 30) ∧ (H171.1 1826 30) ≤ (H1.1 1826 29) ∧ (((H171.1 1826 31) = 0 ∧ (H1.1 1826 31) ≠ 0) ∨ (H1.1 1826 30) < (H171.1 1826 30)))))
              · have b177x : (H171.1 1826 35) ≠ 0 := b177
                refine h_run 0 (pc' := 118) (l' := [(0, .inr (.inr 1826)), (1, .inl (H.1 1826 1)), (2, .inl (H.1 1826 3)), (3, .inl (H.1 1826 8)), (4, .inl (H.1 1826 13)), (5, .inl (H.1 1826 19)), (6, .inl dc)]) (st' := [.inl 0]) rfl ?_
                refine h_zeq (off := 17) (t := 135) rfl rfl (by decide) (fun _ => ?_) (fun c => absurd c (by decide))
                refine h_run 1 (pc' := 136) (l' := [(0, .inr (.inr 1826)), (1, .inl (H.1 1826 1)), (2, .inl (H.1 1826 3)), (3, .inl (H.1 1826 8)), (4, .inl (H.1 1826 13)), (5, .inl (H.1 1826 19)), (6, .inl dc)]) (st' := [.inr (.inr 1826)]) rfl ?_
                refine h_cv (i := 293) (j := 158) (b := 1826) (M' := mt_158) (xs := []) (rest := []) rfl rfl rfl rfl rfl rfl (Nat.le_of_ble_eq_true rfl) (Nat.le_of_ble_eq_true rfl) (by omega) (m_good0 (by omega) (by omega : (H171.1 1826 35) ≠ 0)) ?_
                rintro _ _ ⟨rfl, rfl⟩
                refine h_run 0 (pc' := 139) (l' := [(0, .inr (.inr 1826)), (1, .inl (H.1 1826 1)), (2, .inl (H.1 1826 3)), (3, .inl (H.1 1826 8)), (4, .inl (H.1 1826 13)), (5, .inl (H.1 1826 19)), (6, .inl dc)]) (st' := [.inl 0]) rfl ?_
                refine h_zeq (off := -105) (t := 34) rfl rfl (by decide) (fun _ => ?_) (fun c => absurd c (by decide))
                have g225 : -2147483648 ≤ (H171.1 1826 30) ∧ (H171.1 1826 30) ≤ 2147483647 := hrg173.1 1826 13 30 _ .int rfl rfl
                have g226 : -2147483648 ≤ (H171.1 1826 32) ∧ (H171.1 1826 32) ≤ 2147483647 := hrg173.1 1826 13 32 _ .int rfl rfl
                have g227 : -2147483648 ≤ (H171.1 1826 31) ∧ (H171.1 1826 31) ≤ 2147483647 := hrg173.1 1826 13 31 _ .int rfl rfl
                have g228 : -2147483648 ≤ (H171.1 1826 29) ∧ (H171.1 1826 29) ≤ 2147483647 := hrg173.1 1826 13 29 _ .int rfl rfl
                have e229 : (H171.1 1826 29) = (H1.1 1826 29) := hx171f.2.2 29 (by decide)
                have g230 : -2147483648 ≤ (H171.1 1826 28) ∧ (H171.1 1826 28) ≤ 2147483647 := hrg173.1 1826 13 28 _ .int rfl rfl
                have e231 : (H171.1 1826 28) = (H1.1 1826 28) := hx171f.2.2 28 (by decide)
                have g232 : -2147483648 ≤ (H171.1 1826 77) ∧ (H171.1 1826 77) ≤ 2147483647 := hrg173.1 1826 13 77 _ .int rfl rfl
                have e233 : (H171.1 1826 77) = (H1.1 1826 77) := hx171f.2.2 77 (by decide)
                have g234 : -2147483648 ≤ (H171.1 1826 74) ∧ (H171.1 1826 74) ≤ 2147483647 := hrg173.1 1826 13 74 _ .int rfl rfl
                have e235 : (H171.1 1826 74) = (H1.1 1826 74) := hx171f.2.2 74 (by decide)
                have g236 : -2147483648 ≤ (H171.1 1826 67) ∧ (H171.1 1826 67) ≤ 2147483647 := hrg173.1 1826 13 67 _ .int rfl rfl
                have e237 : (H171.1 1826 67) = (H1.1 1826 67) := hx171f.2.2 67 (by decide)
                have e238 : (H1.1 1826 67) = (H.1 1826 67) := hf.2.2 67 (by decide)
                exact ih.1 _ dc hf174 (by omega : 0 ≤ (H171.1 1826 30) ∧ (H171.1 1826 30) ≤ (H171.1 1826 29) ∧ (H171.1 1826 29) ≤ 1000) (by omega : 0 ≤ (H171.1 1826 35) ∧ (H171.1 1826 35) ≤ 5) (by omega : 0 ≤ (H171.1 1826 32) ∧ (H171.1 1826 32) ≤ 1000) (by omega : (H171.1 1826 28) = 0) (by omega : (H171.1 1826 77) = (H.1 1826 77) ∧ (H171.1 1826 74) = (H.1 1826 74) ∧ (H171.1 1826 67) = (H.1 1826 67)) ha175 (fun (q : (H171.1 1826 35) = 0) => absurd q (by omega)) (Or.inr ⟨(by omega : (H171.1 1826 35) ≠ 0), BD_le (GB_b hx171n (by omega)) hmf⟩) (mu_lt2 hw (by omega : (H1.1 1826 35) = 0) (by omega : (H171.1 1826 29) = (H1.1 1826 29)) (by omega : (H171.1 1826 35) ≠ 0 ∨ ((H1.1 1826 30) ≤ (H171.1 1826 30) ∧ (H171.1 1826 30) ≤ (H1.1 1826 29) ∧ (((H171.1 1826 31) = 0 ∧ (H1.1 1826 31) ≠ 0) ∨ (H1.1 1826 30) < (H171.1 1826 30)))))
          · refine h_run 1 (pc' := 57) (l' := [(0, .inr (.inr 1826)), (1, .inl (H.1 1826 1)), (2, .inl (H.1 1826 3)), (3, .inl (H.1 1826 8)), (4, .inl (H.1 1826 13)), (5, .inl (H.1 1826 19)), (6, .inl dc)]) (st' := [.inr (.inr 1826)]) rfl ?_
            have g239 : -2147483648 ≤ (H1.1 1826 30) ∧ (H1.1 1826 30) ≤ 2147483647 := hrg1.1 1826 13 30 _ .int rfl rfl
            have g240 : -2147483648 ≤ (H1.1 1826 29) ∧ (H1.1 1826 29) ≤ 2147483647 := hrg1.1 1826 13 29 _ .int rfl rfl
            have g241 : -2147483648 ≤ (H1.1 1826 8) ∧ (H1.1 1826 8) ≤ 2147483647 := hrg1.1 1826 13 8 _ .int rfl rfl
            have g243 : -2147483648 ≤ (H1.1 1826 32) ∧ (H1.1 1826 32) ≤ 2147483647 := hrg1.1 1826 13 32 _ .int rfl rfl
            refine h_cv (i := 399) (j := 170) (b := 1826) (M' := mt_170) (xs := []) (rest := []) rfl rfl rfl rfl rfl rfl (Nat.le_of_ble_eq_true rfl) (Nat.le_of_ble_eq_true rfl) (by omega) (n_data (by omega) (by omega : 0 ≤ (H1.1 1826 30) ∧ (H1.1 1826 30) ≤ (H1.1 1826 29) ∧ (H1.1 1826 29) ≤ 1000) (by omega : 0 ≤ (H1.1 1826 35) ∧ (H1.1 1826 35) ≤ 5) (by omega : 0 ≤ (H1.1 1826 32) ∧ (H1.1 1826 32) ≤ 1000) (hP1 (by omega : (H1.1 1826 35) = 0)) (by omega : (H1.1 1826 35) = 0) hR1 (show rch Y ([(6, dc, 0, 0)], X1) ((6, dc, 0, 0) :: [], X1) from rch_rf _ _) (by omega : tk Y (xi X1) = 4)) ?_
            rintro _ H242 ⟨rfl, hx242n, hx242f, hx242a, hx242c, -, hx242e, hx242g, hx242p⟩
            refine h_rng (fun hrg244 => ?_)
            have hf245 : fr [1, 3, 8, 13, 19, 28, 29, 30, 31, 32, 33, 34, 35, 36, 39, 40, 41, 43, 44, 47, 74, 76, 77] [1827, 1828, 1829, 1830, 1831, 1832, 1833, 1834, 1835, 1836, 1837, 1838, 1839, 1840, 1841, 1842, 1843, 1844, 1845, 1846, 1847, 1849, 1850, 1851, 1852, 1853, 1854] H H242 := fr_t hf hx242f (by decide) (by decide)
            have ha246 : agp H H242 := agp_tr hag hx242g
            replace hx242a : (H1.1 1826 30) ≤ (H242.1 1826 30) ∧ (H242.1 1826 30) ≤ (H1.1 1826 29) := hx242a
            replace hx242p : hid ((H242.1 1826 35) = 0 → PWc H242) := hx242p
            replace hx242n := GB_tr hq1 hx242n
            refine h_run 0 (pc' := 60) (l' := [(0, .inr (.inr 1826)), (1, .inl (H.1 1826 1)), (2, .inl (H.1 1826 3)), (3, .inl (H.1 1826 8)), (4, .inl (H.1 1826 13)), (5, .inl (H.1 1826 19)), (6, .inl dc)]) (st' := []) rfl ?_
            refine h_run 2 (pc' := 115) (l' := [(0, .inr (.inr 1826)), (1, .inl (H.1 1826 1)), (2, .inl (H.1 1826 3)), (3, .inl (H.1 1826 8)), (4, .inl (H.1 1826 13)), (5, .inl (H.1 1826 19)), (6, .inl dc)]) (st' := [.inr (.inr 1826)]) rfl ?_
            have g247 : -2147483648 ≤ (H242.1 1826 35) ∧ (H242.1 1826 35) ≤ 2147483647 := hrg244.1 1826 13 35 _ .int rfl rfl
            refine h_cv (i := 293) (j := 158) (b := 1826) (M' := mt_158) (xs := []) (rest := []) rfl rfl rfl rfl rfl rfl (Nat.le_of_ble_eq_true rfl) (Nat.le_of_ble_eq_true rfl) (by omega) (m_good (by omega)) ?_
            rintro _ _ ⟨⟨rfl, b248⟩ | ⟨rfl, b248⟩, rfl⟩
            · have b248x : (H242.1 1826 35) = 0 := b248
              refine h_run 0 (pc' := 118) (l' := [(0, .inr (.inr 1826)), (1, .inl (H.1 1826 1)), (2, .inl (H.1 1826 3)), (3, .inl (H.1 1826 8)), (4, .inl (H.1 1826 13)), (5, .inl (H.1 1826 19)), (6, .inl dc)]) (st' := [.inl 1]) rfl ?_
              refine h_zeq (off := 17) (t := 135) rfl rfl (by decide) (fun c => absurd c (by decide)) (fun _ => ?_)
              have g249 : -2147483648 ≤ (H242.1 1826 8) ∧ (H242.1 1826 8) ≤ 2147483647 := hrg244.1 1826 13 8 _ .int rfl rfl
              have e250 : (H242.1 1826 8) = (H1.1 1826 8) := hx242f.2.2 8 (by decide)
              have g251 : -2147483648 ≤ (H242.1 1826 13) ∧ (H242.1 1826 13) ≤ 2147483647 := hrg244.1 1826 13 13 _ .int rfl rfl
              have e252 : (H242.1 1826 13) = (H1.1 1826 13) := hx242f.2.2 13 (by decide)
              have g253 : -2147483648 ≤ (H242.1 1826 19) ∧ (H242.1 1826 19) ≤ 2147483647 := hrg244.1 1826 13 19 _ .int rfl rfl
              have e254 : (H242.1 1826 19) = (H1.1 1826 19) := hx242f.2.2 19 (by decide)
              obtain ⟨X2, hm2, hR2x⟩ := GB_g hx242n (by omega)
              have hq2 := rch_tr hq1 hm2
              obtain ⟨hj2, hl2⟩ := hJL _ _ hm2
              have h16 := hR1.2.2.2.2.2.2.2.1.1.1
              have h17 := hR1.2.2.2.2.2.2.2.1.1.2
              have h26 := hR2x.2.2.2.2.2.2.2.1.1.1
              have h27 := hR2x.2.2.2.2.2.2.2.1.1.2
              have hS2 : RS9 H242 X2 := RS9_ag hS1 hM1 h16 h17 hx242g hl2 (fun _ a9 b9 => absurd b9 (by omega)) (fun _ a9 b9 => absurd b9 (by omega))
              have hR2 : RK Y (H242.1 1826 8) H242 X2 := by rw [show (H242.1 1826 8) = (H1.1 1826 8) from (hx242f.2.2 8 (by decide))]; exact hR2x
              have htk2 := RK_t hR2
              have hmf2 : (H.1 1826 8) ≤ (H242.1 1826 8) := by have q9 := hx242g.1.2.2.1; omega
              refine h_run 2 (pc' := 125) (l' := [(0, .inr (.inr 1826)), (1, .inl (H.1 1826 1)), (2, .inl (H.1 1826 3)), (3, .inl (H.1 1826 8)), (4, .inl (H.1 1826 13)), (5, .inl (H.1 1826 19)), (6, .inl dc)]) (st' := [.inl (H242.1 1826 31)]) rfl ?_
              have g255 : -2147483648 ≤ (H242.1 1826 31) ∧ (H242.1 1826 31) ≤ 2147483647 := hrg244.1 1826 13 31 _ .int rfl rfl
              refine h_run 1 (pc' := 127) (l' := [(0, .inr (.inr 1826)), (1, .inl (H.1 1826 1)), (2, .inl (H.1 1826 3)), (3, .inl (H.1 1826 8)), (4, .inl (H.1 1826 13)), (5, .inl (H.1 1826 19)), (6, .inl dc)]) (st' := [.inl 59, .inl (H242.1 1826 31)]) rfl ?_
              refine h_ieq (off := 8) (t := 135) rfl rfl (by omega) (by decide) (fun c256 => ?_) (fun c256 => ?_)
              · refine h_run 1 (pc' := 136) (l' := [(0, .inr (.inr 1826)), (1, .inl (H.1 1826 1)), (2, .inl (H.1 1826 3)), (3, .inl (H.1 1826 8)), (4, .inl (H.1 1826 13)), (5, .inl (H.1 1826 19)), (6, .inl dc)]) (st' := [.inr (.inr 1826)]) rfl ?_
                refine h_cv (i := 293) (j := 158) (b := 1826) (M' := mt_158) (xs := []) (rest := []) rfl rfl rfl rfl rfl rfl (Nat.le_of_ble_eq_true rfl) (Nat.le_of_ble_eq_true rfl) (by omega) (m_good1 (by omega) (by omega : (H242.1 1826 35) = 0)) ?_
                rintro _ _ ⟨rfl, rfl⟩
                refine h_run 0 (pc' := 139) (l' := [(0, .inr (.inr 1826)), (1, .inl (H.1 1826 1)), (2, .inl (H.1 1826 3)), (3, .inl (H.1 1826 8)), (4, .inl (H.1 1826 13)), (5, .inl (H.1 1826 19)), (6, .inl dc)]) (st' := [.inl 1]) rfl ?_
                refine h_zeq (off := -105) (t := 34) rfl rfl (by decide) (fun c => absurd c (by decide)) (fun _ => ?_)
                have hq3 : rch Y ([(6, 0, 0, 0)], X) ([(6, dc + 1, 0, 0)], adv X2) := rch_st hq2 (by show (if tk Y (xi X2) = 59 then _ else _) = _; (repeat (first | rw [if_pos (by omega)] | rw [if_neg (by omega)])); try (first | rfl | (exfalso; omega)))
                refine h_run 1 (pc' := 143) (l' := [(0, .inr (.inr 1826)), (1, .inl (H.1 1826 1)), (2, .inl (H.1 1826 3)), (3, .inl (H.1 1826 8)), (4, .inl (H.1 1826 13)), (5, .inl (H.1 1826 19)), (6, .inl dc)]) (st' := [.inr (.inr 1826)]) rfl ?_
                have g257 : -2147483648 ≤ (H242.1 1826 30) ∧ (H242.1 1826 30) ≤ 2147483647 := hrg244.1 1826 13 30 _ .int rfl rfl
                have g258 : -2147483648 ≤ (H242.1 1826 29) ∧ (H242.1 1826 29) ≤ 2147483647 := hrg244.1 1826 13 29 _ .int rfl rfl
                have e259 : (H242.1 1826 29) = (H1.1 1826 29) := hx242f.2.2 29 (by decide)
                have g260 : -2147483648 ≤ (H242.1 1826 32) ∧ (H242.1 1826 32) ≤ 2147483647 := hrg244.1 1826 13 32 _ .int rfl rfl
                refine h_cv (i := 297) (j := 165) (b := 1826) (M' := mt_165) (xs := []) (rest := []) rfl rfl rfl rfl rfl rfl (Nat.le_of_ble_eq_true rfl) (Nat.le_of_ble_eq_true rfl) (by omega) (n_nx (by omega) (by omega : 0 ≤ (H242.1 1826 30) ∧ (H242.1 1826 30) ≤ (H242.1 1826 29) ∧ (H242.1 1826 29) ≤ 1000) (by omega : 0 ≤ (H242.1 1826 35) ∧ (H242.1 1826 35) ≤ 5) (by omega : 0 ≤ (H242.1 1826 32) ∧ (H242.1 1826 32) ≤ 1000) (by omega : (H242.1 1826 35) = 0) (X := (adv X2)) (RN_adv hR2 (fr_rf [] [] _) (by decide) (by decide)) hq3 (lk_n (by decide))) ?_
                rintro _ H261 ⟨rfl, hx261n, hx261f, hx261a, hx261b, hx261c, -, hx261e, hx261g⟩
                refine h_rng (fun hrg262 => ?_)
                have hf263 : fr [1, 3, 8, 13, 19, 28, 29, 30, 31, 32, 33, 34, 35, 36, 39, 40, 41, 43, 44, 47, 74, 76, 77] [1827, 1828, 1829, 1830, 1831, 1832, 1833, 1834, 1835, 1836, 1837, 1838, 1839, 1840, 1841, 1842, 1843, 1844, 1845, 1846, 1847, 1849, 1850, 1851, 1852, 1853, 1854] H H261 := fr_t hf245 hx261f (by decide) (by decide)
                have ha264 : agp H H261 := agp_tr ha246 (agp_fr hx261f (by decide) (by decide))
                replace hx261a : (H242.1 1826 30) ≤ (H261.1 1826 30) := hx261a
                replace hx261b : (H261.1 1826 30) ≤ (H242.1 1826 29) := hx261b
                replace hx261g : (H261.1 1826 35) = 0 → ((H261.1 1826 31) = 0 ∨ (H242.1 1826 30) < (H261.1 1826 30)) := hx261g
                refine h_run 0 (pc' := 146) (l' := [(0, .inr (.inr 1826)), (1, .inl (H.1 1826 1)), (2, .inl (H.1 1826 3)), (3, .inl (H.1 1826 8)), (4, .inl (H.1 1826 13)), (5, .inl (H.1 1826 19)), (6, .inl dc)]) (st' := []) rfl ?_
                refine h_run 2 (pc' := 34) (l' := [(0, .inr (.inr 1826)), (1, .inl (H.1 1826 1)), (2, .inl (H.1 1826 3)), (3, .inl (H.1 1826 8)), (4, .inl (H.1 1826 13)), (5, .inl (H.1 1826 19)), (6, .inl (dc + 1))]) (st' := []) rfl ?_
                have g265 : -2147483648 ≤ (H261.1 1826 30) ∧ (H261.1 1826 30) ≤ 2147483647 := hrg262.1 1826 13 30 _ .int rfl rfl
                have g266 : -2147483648 ≤ (H261.1 1826 35) ∧ (H261.1 1826 35) ≤ 2147483647 := hrg262.1 1826 13 35 _ .int rfl rfl
                have g267 : -2147483648 ≤ (H261.1 1826 32) ∧ (H261.1 1826 32) ≤ 2147483647 := hrg262.1 1826 13 32 _ .int rfl rfl
                have g268 : -2147483648 ≤ (H261.1 1826 31) ∧ (H261.1 1826 31) ≤ 2147483647 := hrg262.1 1826 13 31 _ .int rfl rfl
                have g269 : -2147483648 ≤ (H261.1 1826 29) ∧ (H261.1 1826 29) ≤ 2147483647 := hrg262.1 1826 13 29 _ .int rfl rfl
                have e270 : (H261.1 1826 29) = (H242.1 1826 29) := hx261f.2.2 29 (by decide)
                have g271 : -2147483648 ≤ (H261.1 1826 28) ∧ (H261.1 1826 28) ≤ 2147483647 := hrg262.1 1826 13 28 _ .int rfl rfl
                have e272 : (H261.1 1826 28) = (H242.1 1826 28) := hx261f.2.2 28 (by decide)
                have e273 : (H242.1 1826 28) = (H1.1 1826 28) := hx242f.2.2 28 (by decide)
                have g274 : -2147483648 ≤ (H261.1 1826 77) ∧ (H261.1 1826 77) ≤ 2147483647 := hrg262.1 1826 13 77 _ .int rfl rfl
                have e275 : (H261.1 1826 77) = (H242.1 1826 77) := hx261f.2.2 77 (by decide)
                have e276 : (H242.1 1826 77) = (H1.1 1826 77) := hx242f.2.2 77 (by decide)
                have g277 : -2147483648 ≤ (H261.1 1826 74) ∧ (H261.1 1826 74) ≤ 2147483647 := hrg262.1 1826 13 74 _ .int rfl rfl
                have e278 : (H261.1 1826 74) = (H242.1 1826 74) := hx261f.2.2 74 (by decide)
                have e279 : (H242.1 1826 74) = (H1.1 1826 74) := hx242f.2.2 74 (by decide)
                have g280 : -2147483648 ≤ (H261.1 1826 67) ∧ (H261.1 1826 67) ≤ 2147483647 := hrg262.1 1826 13 67 _ .int rfl rfl
                have e281 : (H261.1 1826 67) = (H242.1 1826 67) := hx261f.2.2 67 (by decide)
                have e282 : (H242.1 1826 67) = (H1.1 1826 67) := hx242f.2.2 67 (by decide)
                have e283 : (H1.1 1826 67) = (H.1 1826 67) := hf.2.2 67 (by decide)
                exact ih.1 _ (dc + 1) hf263 (by omega : 0 ≤ (H261.1 1826 30) ∧ (H261.1 1826 30) ≤ (H261.1 1826 29) ∧ (H261.1 1826 29) ≤ 1000) (by omega : 0 ≤ (H261.1 1826 35) ∧ (H261.1 1826 35) ≤ 5) (by omega : 0 ≤ (H261.1 1826 32) ∧ (H261.1 1826 32) ≤ 1000) (by omega : (H261.1 1826 28) = 0) (by omega : (H261.1 1826 77) = (H.1 1826 77) ∧ (H261.1 1826 74) = (H.1 1826 74) ∧ (H261.1 1826 67) = (H.1 1826 67)) ha264 (fun _ => PWc_fr (hx242p (by omega)) hx261f (by decide) (by decide)) (GB_le hx261n hmf2 (fun q => ⟨_, hq3, (by rw [show (H261.1 1826 8) = _ from (hx261f.2.2 8 (by decide))]; exact q), RS9_fr (RS9_adv hS2) hx261f (by decide)⟩)) (mu_lt2 hw (by omega : (H1.1 1826 35) = 0) (by omega : (H261.1 1826 29) = (H1.1 1826 29)) (by omega : (H261.1 1826 35) ≠ 0 ∨ ((H1.1 1826 30) ≤ (H261.1 1826 30) ∧ (H261.1 1826 30) ≤ (H1.1 1826 29) ∧ (((H261.1 1826 31) = 0 ∧ (H1.1 1826 31) ≠ 0) ∨ (H1.1 1826 30) < (H261.1 1826 30)))))
              · refine h_run 2 (pc' := 132) (l' := [(0, .inr (.inr 1826)), (1, .inl (H.1 1826 1)), (2, .inl (H.1 1826 3)), (3, .inl (H.1 1826 8)), (4, .inl (H.1 1826 13)), (5, .inl (H.1 1826 19)), (6, .inl dc)]) (st' := [.inl 2, .inr (.inr 1826)]) rfl ?_
                refine h_cv (i := 278) (j := 159) (b := 1826) (M' := mt_159) (xs := [.inl 2]) (rest := []) rfl rfl rfl rfl rfl rfl (Nat.le_of_ble_eq_true rfl) (Nat.le_of_ble_eq_true rfl) (by omega) (m_bad0 (by omega) (by omega) (by omega : (H242.1 1826 35) = 0)) ?_
                rintro _ _ ⟨rfl, rfl⟩
                refine h_run 0 (pc' := 135) (l' := [(0, .inr (.inr 1826)), (1, .inl (H.1 1826 1)), (2, .inl (H.1 1826 3)), (3, .inl (H.1 1826 8)), (4, .inl (H.1 1826 13)), (5, .inl (H.1 1826 19)), (6, .inl dc)]) (st' := []) rfl ?_
                refine h_run 1 (pc' := 136) (l' := [(0, .inr (.inr 1826)), (1, .inl (H.1 1826 1)), (2, .inl (H.1 1826 3)), (3, .inl (H.1 1826 8)), (4, .inl (H.1 1826 13)), (5, .inl (H.1 1826 19)), (6, .inl dc)]) (st' := [.inr (.inr 1826)]) rfl ?_
                refine h_cv (i := 293) (j := 158) (b := 1826) (M' := mt_158) (xs := []) (rest := []) rfl rfl rfl rfl rfl rfl (Nat.le_of_ble_eq_true rfl) (Nat.le_of_ble_eq_true rfl) (by omega) (m_good0 (by omega) (by omega : (2 : Int) ≠ 0)) ?_
                rintro _ _ ⟨rfl, rfl⟩
                refine h_run 0 (pc' := 139) (l' := [(0, .inr (.inr 1826)), (1, .inl (H.1 1826 1)), (2, .inl (H.1 1826 3)), (3, .inl (H.1 1826 8)), (4, .inl (H.1 1826 13)), (5, .inl (H.1 1826 19)), (6, .inl dc)]) (st' := [.inl 0]) rfl ?_
                refine h_zeq (off := -105) (t := 34) rfl rfl (by decide) (fun _ => ?_) (fun c => absurd c (by decide))
                have g284 : -2147483648 ≤ (H242.1 1826 30) ∧ (H242.1 1826 30) ≤ 2147483647 := hrg244.1 1826 13 30 _ .int rfl rfl
                have g285 : -2147483648 ≤ (H242.1 1826 32) ∧ (H242.1 1826 32) ≤ 2147483647 := hrg244.1 1826 13 32 _ .int rfl rfl
                have g286 : -2147483648 ≤ (H242.1 1826 29) ∧ (H242.1 1826 29) ≤ 2147483647 := hrg244.1 1826 13 29 _ .int rfl rfl
                have e287 : (H242.1 1826 29) = (H1.1 1826 29) := hx242f.2.2 29 (by decide)
                have g288 : -2147483648 ≤ (H242.1 1826 28) ∧ (H242.1 1826 28) ≤ 2147483647 := hrg244.1 1826 13 28 _ .int rfl rfl
                have e289 : (H242.1 1826 28) = (H1.1 1826 28) := hx242f.2.2 28 (by decide)
                have g290 : -2147483648 ≤ (H242.1 1826 77) ∧ (H242.1 1826 77) ≤ 2147483647 := hrg244.1 1826 13 77 _ .int rfl rfl
                have e291 : (H242.1 1826 77) = (H1.1 1826 77) := hx242f.2.2 77 (by decide)
                have g292 : -2147483648 ≤ (H242.1 1826 74) ∧ (H242.1 1826 74) ≤ 2147483647 := hrg244.1 1826 13 74 _ .int rfl rfl
                have e293 : (H242.1 1826 74) = (H1.1 1826 74) := hx242f.2.2 74 (by decide)
                have g294 : -2147483648 ≤ (H242.1 1826 67) ∧ (H242.1 1826 67) ≤ 2147483647 := hrg244.1 1826 13 67 _ .int rfl rfl
                have e295 : (H242.1 1826 67) = (H1.1 1826 67) := hx242f.2.2 67 (by decide)
                have e296 : (H1.1 1826 67) = (H.1 1826 67) := hf.2.2 67 (by decide)
                exact ih.1 _ dc (fr_o (fr_o hf245 (by decide)) (by decide)) (by omega : 0 ≤ (H242.1 1826 30) ∧ (H242.1 1826 30) ≤ (H242.1 1826 29) ∧ (H242.1 1826 29) ≤ 1000) (by omega : 0 ≤ (2 : Int) ∧ (2 : Int) ≤ 5) (by omega : 0 ≤ (H242.1 1826 32) ∧ (H242.1 1826 32) ≤ 1000) (by omega : (H242.1 1826 28) = 0) (by omega : (H242.1 1826 77) = (H.1 1826 77) ∧ (H242.1 1826 74) = (H.1 1826 74) ∧ (H242.1 1826 67) = (H.1 1826 67)) (agp_o (agp_o ha246 (by decide)) (by decide)) (fun (q : (2 : Int) = 0) => absurd q (by omega)) (Or.inr ⟨(by omega : (2 : Int) ≠ 0), BD_le (BD_mk hR2 (fr_o (fr_o (fr_rf [35, 36] [] H242) (by decide)) (by decide)) (by decide) (by decide) (by decide : (2 : Int) ≠ 0) rfl rfl (rch_st hq2 (by show (if tk Y (xi X2) = 59 then _ else _) = _; unfold miss; (repeat (first | rw [if_pos (by omega)] | rw [if_neg (by omega)])); try (first | rfl | (exfalso; omega))))) hmf2⟩) (mu_lt2 hw (by omega : (H1.1 1826 35) = 0) (by omega : (H242.1 1826 29) = (H1.1 1826 29)) (by omega : (2 : Int) ≠ 0 ∨ ((H1.1 1826 30) ≤ (H242.1 1826 30) ∧ (H242.1 1826 30) ≤ (H1.1 1826 29) ∧ (((H242.1 1826 31) = 0 ∧ (H1.1 1826 31) ≠ 0) ∨ (H1.1 1826 30) < (H242.1 1826 30)))))
            · have b248x : (H242.1 1826 35) ≠ 0 := b248
              refine h_run 0 (pc' := 118) (l' := [(0, .inr (.inr 1826)), (1, .inl (H.1 1826 1)), (2, .inl (H.1 1826 3)), (3, .inl (H.1 1826 8)), (4, .inl (H.1 1826 13)), (5, .inl (H.1 1826 19)), (6, .inl dc)]) (st' := [.inl 0]) rfl ?_
              refine h_zeq (off := 17) (t := 135) rfl rfl (by decide) (fun _ => ?_) (fun c => absurd c (by decide))
              refine h_run 1 (pc' := 136) (l' := [(0, .inr (.inr 1826)), (1, .inl (H.1 1826 1)), (2, .inl (H.1 1826 3)), (3, .inl (H.1 1826 8)), (4, .inl (H.1 1826 13)), (5, .inl (H.1 1826 19)), (6, .inl dc)]) (st' := [.inr (.inr 1826)]) rfl ?_
              refine h_cv (i := 293) (j := 158) (b := 1826) (M' := mt_158) (xs := []) (rest := []) rfl rfl rfl rfl rfl rfl (Nat.le_of_ble_eq_true rfl) (Nat.le_of_ble_eq_true rfl) (by omega) (m_good0 (by omega) (by omega : (H242.1 1826 35) ≠ 0)) ?_
              rintro _ _ ⟨rfl, rfl⟩
              refine h_run 0 (pc' := 139) (l' := [(0, .inr (.inr 1826)), (1, .inl (H.1 1826 1)), (2, .inl (H.1 1826 3)), (3, .inl (H.1 1826 8)), (4, .inl (H.1 1826 13)), (5, .inl (H.1 1826 19)), (6, .inl dc)]) (st' := [.inl 0]) rfl ?_
              refine h_zeq (off := -105) (t := 34) rfl rfl (by decide) (fun _ => ?_) (fun c => absurd c (by decide))
              have g297 : -2147483648 ≤ (H242.1 1826 30) ∧ (H242.1 1826 30) ≤ 2147483647 := hrg244.1 1826 13 30 _ .int rfl rfl
              have g298 : -2147483648 ≤ (H242.1 1826 32) ∧ (H242.1 1826 32) ≤ 2147483647 := hrg244.1 1826 13 32 _ .int rfl rfl
              have g299 : -2147483648 ≤ (H242.1 1826 31) ∧ (H242.1 1826 31) ≤ 2147483647 := hrg244.1 1826 13 31 _ .int rfl rfl
              have g300 : -2147483648 ≤ (H242.1 1826 29) ∧ (H242.1 1826 29) ≤ 2147483647 := hrg244.1 1826 13 29 _ .int rfl rfl
              have e301 : (H242.1 1826 29) = (H1.1 1826 29) := hx242f.2.2 29 (by decide)
              have g302 : -2147483648 ≤ (H242.1 1826 28) ∧ (H242.1 1826 28) ≤ 2147483647 := hrg244.1 1826 13 28 _ .int rfl rfl
              have e303 : (H242.1 1826 28) = (H1.1 1826 28) := hx242f.2.2 28 (by decide)
              have g304 : -2147483648 ≤ (H242.1 1826 77) ∧ (H242.1 1826 77) ≤ 2147483647 := hrg244.1 1826 13 77 _ .int rfl rfl
              have e305 : (H242.1 1826 77) = (H1.1 1826 77) := hx242f.2.2 77 (by decide)
              have g306 : -2147483648 ≤ (H242.1 1826 74) ∧ (H242.1 1826 74) ≤ 2147483647 := hrg244.1 1826 13 74 _ .int rfl rfl
              have e307 : (H242.1 1826 74) = (H1.1 1826 74) := hx242f.2.2 74 (by decide)
              have g308 : -2147483648 ≤ (H242.1 1826 67) ∧ (H242.1 1826 67) ≤ 2147483647 := hrg244.1 1826 13 67 _ .int rfl rfl
              have e309 : (H242.1 1826 67) = (H1.1 1826 67) := hx242f.2.2 67 (by decide)
              have e310 : (H1.1 1826 67) = (H.1 1826 67) := hf.2.2 67 (by decide)
              exact ih.1 _ dc hf245 (by omega : 0 ≤ (H242.1 1826 30) ∧ (H242.1 1826 30) ≤ (H242.1 1826 29) ∧ (H242.1 1826 29) ≤ 1000) (by omega : 0 ≤ (H242.1 1826 35) ∧ (H242.1 1826 35) ≤ 5) (by omega : 0 ≤ (H242.1 1826 32) ∧ (H242.1 1826 32) ≤ 1000) (by omega : (H242.1 1826 28) = 0) (by omega : (H242.1 1826 77) = (H.1 1826 77) ∧ (H242.1 1826 74) = (H.1 1826 74) ∧ (H242.1 1826 67) = (H.1 1826 67)) ha246 (fun (q : (H242.1 1826 35) = 0) => absurd q (by omega)) (Or.inr ⟨(by omega : (H242.1 1826 35) ≠ 0), BD_le (GB_b hx242n (by omega)) hmf⟩) (mu_lt2 hw (by omega : (H1.1 1826 35) = 0) (by omega : (H242.1 1826 29) = (H1.1 1826 29)) (by omega : (H242.1 1826 35) ≠ 0 ∨ ((H1.1 1826 30) ≤ (H242.1 1826 30) ∧ (H242.1 1826 30) ≤ (H1.1 1826 29) ∧ (((H242.1 1826 31) = 0 ∧ (H1.1 1826 31) ≠ 0) ∨ (H1.1 1826 30) < (H242.1 1826 30)))))
      · have b3x : (H1.1 1826 35) ≠ 0 := b3
        refine h_run 0 (pc' := 38) (l' := [(0, .inr (.inr 1826)), (1, .inl (H.1 1826 1)), (2, .inl (H.1 1826 3)), (3, .inl (H.1 1826 8)), (4, .inl (H.1 1826 13)), (5, .inl (H.1 1826 19)), (6, .inl dc)]) (st' := [.inl 0]) rfl ?_
        refine h_zeq (off := 114) (t := 152) rfl rfl (by decide) (fun _ => ?_) (fun c => absurd c (by decide))
        refine h_run 1 (pc' := 153) (l' := [(0, .inr (.inr 1826)), (1, .inl (H.1 1826 1)), (2, .inl (H.1 1826 3)), (3, .inl (H.1 1826 8)), (4, .inl (H.1 1826 13)), (5, .inl (H.1 1826 19)), (6, .inl dc)]) (st' := [.inr (.inr 1826)]) rfl ?_
        refine h_cv (i := 293) (j := 158) (b := 1826) (M' := mt_158) (xs := []) (rest := []) rfl rfl rfl rfl rfl rfl (Nat.le_of_ble_eq_true rfl) (Nat.le_of_ble_eq_true rfl) (by omega) (m_good0 (by omega) (by omega : (H1.1 1826 35) ≠ 0)) ?_
        rintro _ _ ⟨rfl, rfl⟩
        refine h_run 0 (pc' := 156) (l' := [(0, .inr (.inr 1826)), (1, .inl (H.1 1826 1)), (2, .inl (H.1 1826 3)), (3, .inl (H.1 1826 8)), (4, .inl (H.1 1826 13)), (5, .inl (H.1 1826 19)), (6, .inl dc)]) (st' := [.inl 0]) rfl ?_
        refine h_zne (off := 47) (t := 203) rfl rfl (by decide) (fun c => absurd c (by decide)) (fun _ => ?_)
        refine h_run 2 (pc' := 161) (l' := [(0, .inr (.inr 1826)), (1, .inl (H.1 1826 1)), (2, .inl (H.1 1826 3)), (3, .inl (H.1 1826 8)), (4, .inl (H.1 1826 13)), (5, .inl (H.1 1826 19)), (6, .inl dc)]) (st' := [.inl (H.1 1826 1), .inr (.inr 1826)]) rfl ?_
        refine h_puti (i := 306) (ci := 13) (k := 1) (a := 1826) (x := (H.1 1826 1)) rfl rfl rfl rfl rfl rfl (by decide) (by omega) ?_
        refine h_run 2 (pc' := 166) (l' := [(0, .inr (.inr 1826)), (1, .inl (H.1 1826 1)), (2, .inl (H.1 1826 3)), (3, .inl (H.1 1826 8)), (4, .inl (H.1 1826 13)), (5, .inl (H.1 1826 19)), (6, .inl dc)]) (st' := [.inl (H.1 1826 3), .inr (.inr 1826)]) rfl ?_
        refine h_puti (i := 319) (ci := 13) (k := 3) (a := 1826) (x := (H.1 1826 3)) rfl rfl rfl rfl rfl rfl (by decide) (by omega) ?_
        refine h_run 2 (pc' := 171) (l' := [(0, .inr (.inr 1826)), (1, .inl (H.1 1826 1)), (2, .inl (H.1 1826 3)), (3, .inl (H.1 1826 8)), (4, .inl (H.1 1826 13)), (5, .inl (H.1 1826 19)), (6, .inl dc)]) (st' := [.inl (H.1 1826 8), .inr (.inr 1826)]) rfl ?_
        refine h_puti (i := 325) (ci := 13) (k := 8) (a := 1826) (x := (H.1 1826 8)) rfl rfl rfl rfl rfl rfl (by decide) (by omega) ?_
        refine h_run 2 (pc' := 177) (l' := [(0, .inr (.inr 1826)), (1, .inl (H.1 1826 1)), (2, .inl (H.1 1826 3)), (3, .inl (H.1 1826 8)), (4, .inl (H.1 1826 13)), (5, .inl (H.1 1826 19)), (6, .inl dc)]) (st' := [.inl (H.1 1826 13), .inr (.inr 1826)]) rfl ?_
        refine h_puti (i := 376) (ci := 13) (k := 13) (a := 1826) (x := (H.1 1826 13)) rfl rfl rfl rfl rfl rfl (by decide) (by omega) ?_
        refine h_run 2 (pc' := 183) (l' := [(0, .inr (.inr 1826)), (1, .inl (H.1 1826 1)), (2, .inl (H.1 1826 3)), (3, .inl (H.1 1826 8)), (4, .inl (H.1 1826 13)), (5, .inl (H.1 1826 19)), (6, .inl dc)]) (st' := [.inl (H.1 1826 19), .inr (.inr 1826)]) rfl ?_
        refine h_puti (i := 387) (ci := 13) (k := 19) (a := 1826) (x := (H.1 1826 19)) rfl rfl rfl rfl rfl rfl (by decide) (by omega) ?_
        refine h_run 3 (pc' := 191) (l' := [(0, .inr (.inr 1826)), (1, .inl (H.1 1826 1)), (2, .inl (H.1 1826 3)), (3, .inl (H.1 1826 8)), (4, .inl (H.1 1826 13)), (5, .inl (H.1 1826 19)), (6, .inl dc)]) (st' := [.inl (H1.1 1826 35), .inr (.inr 1826)]) rfl ?_
        refine h_puti (i := 411) (ci := 13) (k := 34) (a := 1826) (x := (H1.1 1826 35)) rfl rfl rfl rfl rfl rfl (by decide) (by omega) ?_
        refine h_run 3 (pc' := 201) (l' := [(0, .inr (.inr 1826)), (1, .inl (H.1 1826 1)), (2, .inl (H.1 1826 3)), (3, .inl (H.1 1826 8)), (4, .inl (H.1 1826 13)), (5, .inl (H.1 1826 19)), (6, .inl dc)]) (st' := [.inl (H1.1 1826 36), .inl (-1000)]) rfl ?_
        have g311 : -2147483648 ≤ (H1.1 1826 36) ∧ (H1.1 1826 36) ≤ 2147483647 := hrg1.1 1826 13 36 _ .int rfl rfl
        refine h_run 1 (pc' := 202) (l' := [(0, .inr (.inr 1826)), (1, .inl (H.1 1826 1)), (2, .inl (H.1 1826 3)), (3, .inl (H.1 1826 8)), (4, .inl (H.1 1826 13)), (5, .inl (H.1 1826 19)), (6, .inl dc)]) (st' := [.inl ((-1000) - (H1.1 1826 36))]) rfl ?_
        refine h_reti (x := ((-1000) - (H1.1 1826 36))) rfl rfl ?_
        have g312 : -2147483648 ≤ (H1.1 1826 32) ∧ (H1.1 1826 32) ≤ 2147483647 := hrg1.1 1826 13 32 _ .int rfl rfl
        have g313 : -2147483648 ≤ (H1.1 1826 28) ∧ (H1.1 1826 28) ≤ 2147483647 := hrg1.1 1826 13 28 _ .int rfl rfl
        have g314 : -2147483648 ≤ (H1.1 1826 77) ∧ (H1.1 1826 77) ≤ 2147483647 := hrg1.1 1826 13 77 _ .int rfl rfl
        have g315 : -2147483648 ≤ (H1.1 1826 74) ∧ (H1.1 1826 74) ≤ 2147483647 := hrg1.1 1826 13 74 _ .int rfl rfl
        exact ⟨⟨_, rfl, (Or.inr (by obtain ⟨q1, ⟨Xf, q2⟩, K2, X2, q3, q4⟩ := GB_b hRG (by omega); exact ⟨Xf, _, _, q2, rfl, rfl, (by show TA (H.1 1826 8) _ X; exact TA_back q4 (J_all hP0 hN0 q3) hA (Int.le_of_eq hT.2.2.1.1) (fr_o (fr_o (fr_o (fr_o (fr_o (fr_o (fr_rf [1, 3, 8, 13, 19, 34] [] H1) (by decide)) (by decide)) (by decide)) (by decide)) (by decide)) (by decide)) (by decide) hT.1.1 hT.2.1.1 hT.2.2.1.1 hT.2.2.2.1.1.1 hT.2.2.2.1.1.2), RS9_same hRS hM hT.2.2.2.1.1.1 hT.2.2.2.1.1.2 (agp_o (agp_n19 (agp_n13 (agp_n8 (agp_n3 (agp_n1 hag (by omega : (H.1 1826 1) ≤ (H.1 1826 1))) (by omega : (H.1 1826 3) ≤ (H.1 1826 3))) (by omega : (H.1 1826 8) ≤ (H.1 1826 8))) (by omega : (H.1 1826 13) ≤ (H.1 1826 13))) (by omega : (H.1 1826 19) ≤ (H.1 1826 19))) (by decide))⟩))⟩, (fr_o (fr_o (fr_o (fr_o (fr_o (fr_o hf (by decide)) (by decide)) (by decide)) (by decide)) (by decide)) (by decide)), (by omega : (H1.1 1826 28) = 0), (by omega : 0 ≤ (H1.1 1826 32) ∧ (H1.1 1826 32) ≤ 1000), (agp_o (agp_n19 (agp_n13 (agp_n8 (agp_n3 (agp_n1 hag (by omega : (H.1 1826 1) ≤ (H.1 1826 1))) (by omega : (H.1 1826 3) ≤ (H.1 1826 3))) (by omega : (H.1 1826 8) ≤ (H.1 1826 8))) (by omega : (H.1 1826 13) ≤ (H.1 1826 13))) (by omega : (H.1 1826 19) ≤ (H.1 1826 19))) (by decide)), (id (PW_agp hP hag (Int.le_refl _) (Int.le_refl _) (Int.le_refl _) (Int.le_refl _)) : PW H1 (H.1 1826 1) (H.1 1826 3) (H.1 1826 8) (H.1 1826 13) (H.1 1826 19)), (by omega : (H1.1 1826 77) = 0 ∨ ((H1.1 1826 77) = (H.1 1826 77) ∧ (H1.1 1826 74) = (H.1 1826 74) ∧ (H.1 1826 19) = (H.1 1826 19) ∧ (H.1 1826 3) = (H.1 1826 3) ∧ (H.1 1826 8) = (H.1 1826 8)))⟩
    · intro H1 dc i hf ha hk hst1 htp hgl hag hP2 hi hRE hw
      refine h_rng (fun hrg316 => ?_)
      obtain ⟨⟨pb1, pb2, pb3, pb4, pb5⟩, pw1, pw2, pw3, pw4⟩ := (id hP : PW H (H.1 1826 1) (H.1 1826 3) (H.1 1826 8) (H.1 1826 13) (H.1 1826 19))
      obtain ⟨⟨qb1, qb2, qb3, qb4, qb5⟩, -⟩ := (id hP2 : PW H1 (H1.1 1826 1) (H1.1 1826 3) (H1.1 1826 8) (H1.1 1826 13) (H1.1 1826 19))
      refine h_run 3 (pc' := 212) (l' := [(0, .inr (.inr 1826)), (4, .inl (H.1 1826 13)), (6, .inl dc), (7, .inl (i : Int))]) (st' := [.inl (H1.1 1826 19), .inl (i : Int)]) rfl ?_
      have g317 : -2147483648 ≤ (H1.1 1826 19) ∧ (H1.1 1826 19) ≤ 2147483647 := hrg316.1 1826 13 19 _ .int rfl rfl
      refine h_ige (off := 26) (t := 238) rfl rfl (by omega) (by omega) (fun c318 => ?_) (fun c318 => ?_)
      · refine h_run 2 (pc' := 240) (l' := [(0, .inr (.inr 1826)), (4, .inl (H.1 1826 13)), (6, .inl dc), (7, .inl (i : Int))]) (st' := [.inl (-1), .inr (.inr 1826)]) rfl ?_
        refine h_puti (i := 150) (ci := 13) (k := 74) (a := 1826) (x := (-1)) rfl rfl rfl rfl rfl rfl (by decide) (by decide) ?_
        refine h_run 2 (pc' := 245) (l' := [(0, .inr (.inr 1826)), (4, .inl (H.1 1826 13)), (6, .inl dc), (7, .inl (i : Int))]) (st' := [.inl 0, .inr (.inr 1826)]) rfl ?_
        refine h_puti (i := 414) (ci := 13) (k := 77) (a := 1826) (x := 0) rfl rfl rfl rfl rfl rfl (by decide) (by decide) ?_
        refine h_run 2 (pc' := 250) (l' := [(0, .inr (.inr 1826)), (4, .inl (H.1 1826 13)), (6, .inl dc), (7, .inl (i : Int))]) (st' := [.inl 0, .inr (.inr 1826)]) rfl ?_
        refine h_puti (i := 417) (ci := 13) (k := 76) (a := 1826) (x := 0) rfl rfl rfl rfl rfl rfl (by decide) (by decide) ?_
        refine h_run 1 (pc' := 255) (l' := [(0, .inr (.inr 1826)), (4, .inl (H.1 1826 13)), (6, .inl dc), (7, .inl (i : Int))]) (st' := [.inl dc]) rfl ?_
        refine h_reti (x := dc) rfl rfl ?_
        have g319 : -2147483648 ≤ (H1.1 1826 32) ∧ (H1.1 1826 32) ≤ 2147483647 := hrg316.1 1826 13 32 _ .int rfl rfl
        have g320 : -2147483648 ≤ (H1.1 1826 28) ∧ (H1.1 1826 28) ≤ 2147483647 := hrg316.1 1826 13 28 _ .int rfl rfl
        have g321 : -2147483648 ≤ (H1.1 1826 3) ∧ (H1.1 1826 3) ≤ 2147483647 := hrg316.1 1826 13 3 _ .int rfl rfl
        have g322 : -2147483648 ≤ (H1.1 1826 8) ∧ (H1.1 1826 8) ≤ 2147483647 := hrg316.1 1826 13 8 _ .int rfl rfl
        exact ⟨⟨_, rfl, (Or.inl (by obtain ⟨X1, q1, q2, q3⟩ := hRE; exact ⟨X1, q1, (by show TA (H1.1 1826 8) _ X1; exact TA_fr q2 (fr_o (fr_o (fr_o (fr_rf [74, 76, 77] [] H1) (by decide)) (by decide)) (by decide)) (by decide) (by decide)), RS9_fr q3 (fr_o (fr_o (fr_o (fr_rf [74, 76, 77] [] H1) (by decide)) (by decide)) (by decide)) (by decide)⟩))⟩, (fr_o (fr_o (fr_o hf (by decide)) (by decide)) (by decide)), (by omega : (H1.1 1826 28) = 0), (by omega : 0 ≤ (H1.1 1826 32) ∧ (H1.1 1826 32) ≤ 1000), (agp_o (agp_o (agp_o hag (by decide)) (by decide)) (by decide)), (PWc_o (PWc_o (PWc_o hP2 (by decide)) (by decide)) (by decide)), (by omega : (0 : Int) = 0 ∨ ((0 : Int) = (H.1 1826 77) ∧ (-1 : Int) = (H.1 1826 74) ∧ (H1.1 1826 19) = (H.1 1826 19) ∧ (H1.1 1826 3) = (H.1 1826 3) ∧ (H1.1 1826 8) = (H.1 1826 8)))⟩
      · refine h_run 2 (pc' := 219) (l' := [(0, .inr (.inr 1826)), (4, .inl (H.1 1826 13)), (6, .inl dc), (7, .inl (i : Int))]) (st' := [.inl (H1.1 1826 13)]) rfl ?_
        have g323 : -2147483648 ≤ (H1.1 1826 13) ∧ (H1.1 1826 13) ≤ 2147483647 := hrg316.1 1826 13 13 _ .int rfl rfl
        refine h_run 1 (pc' := 221) (l' := [(0, .inr (.inr 1826)), (4, .inl (H.1 1826 13)), (6, .inl dc), (7, .inl (i : Int))]) (st' := [.inl (H.1 1826 13), .inl (H1.1 1826 13)]) rfl ?_
        refine h_ile (off := 17) (t := 238) rfl rfl (by omega) (by omega) (fun c324 => ?_) (fun c324 => ?_)
        · refine h_run 2 (pc' := 240) (l' := [(0, .inr (.inr 1826)), (4, .inl (H.1 1826 13)), (6, .inl dc), (7, .inl (i : Int))]) (st' := [.inl (-1), .inr (.inr 1826)]) rfl ?_
          refine h_puti (i := 150) (ci := 13) (k := 74) (a := 1826) (x := (-1)) rfl rfl rfl rfl rfl rfl (by decide) (by decide) ?_
          refine h_run 2 (pc' := 245) (l' := [(0, .inr (.inr 1826)), (4, .inl (H.1 1826 13)), (6, .inl dc), (7, .inl (i : Int))]) (st' := [.inl 0, .inr (.inr 1826)]) rfl ?_
          refine h_puti (i := 414) (ci := 13) (k := 77) (a := 1826) (x := 0) rfl rfl rfl rfl rfl rfl (by decide) (by decide) ?_
          refine h_run 2 (pc' := 250) (l' := [(0, .inr (.inr 1826)), (4, .inl (H.1 1826 13)), (6, .inl dc), (7, .inl (i : Int))]) (st' := [.inl 0, .inr (.inr 1826)]) rfl ?_
          refine h_puti (i := 417) (ci := 13) (k := 76) (a := 1826) (x := 0) rfl rfl rfl rfl rfl rfl (by decide) (by decide) ?_
          refine h_run 1 (pc' := 255) (l' := [(0, .inr (.inr 1826)), (4, .inl (H.1 1826 13)), (6, .inl dc), (7, .inl (i : Int))]) (st' := [.inl dc]) rfl ?_
          refine h_reti (x := dc) rfl rfl ?_
          have g325 : -2147483648 ≤ (H1.1 1826 32) ∧ (H1.1 1826 32) ≤ 2147483647 := hrg316.1 1826 13 32 _ .int rfl rfl
          have g326 : -2147483648 ≤ (H1.1 1826 28) ∧ (H1.1 1826 28) ≤ 2147483647 := hrg316.1 1826 13 28 _ .int rfl rfl
          have g327 : -2147483648 ≤ (H1.1 1826 3) ∧ (H1.1 1826 3) ≤ 2147483647 := hrg316.1 1826 13 3 _ .int rfl rfl
          have g328 : -2147483648 ≤ (H1.1 1826 8) ∧ (H1.1 1826 8) ≤ 2147483647 := hrg316.1 1826 13 8 _ .int rfl rfl
          exact ⟨⟨_, rfl, (Or.inl (by obtain ⟨X1, q1, q2, q3⟩ := hRE; exact ⟨X1, q1, (by show TA (H1.1 1826 8) _ X1; exact TA_fr q2 (fr_o (fr_o (fr_o (fr_rf [74, 76, 77] [] H1) (by decide)) (by decide)) (by decide)) (by decide) (by decide)), RS9_fr q3 (fr_o (fr_o (fr_o (fr_rf [74, 76, 77] [] H1) (by decide)) (by decide)) (by decide)) (by decide)⟩))⟩, (fr_o (fr_o (fr_o hf (by decide)) (by decide)) (by decide)), (by omega : (H1.1 1826 28) = 0), (by omega : 0 ≤ (H1.1 1826 32) ∧ (H1.1 1826 32) ≤ 1000), (agp_o (agp_o (agp_o hag (by decide)) (by decide)) (by decide)), (PWc_o (PWc_o (PWc_o hP2 (by decide)) (by decide)) (by decide)), (by omega : (0 : Int) = 0 ∨ ((0 : Int) = (H.1 1826 77) ∧ (-1 : Int) = (H.1 1826 74) ∧ (H1.1 1826 19) = (H.1 1826 19) ∧ (H1.1 1826 3) = (H.1 1826 3) ∧ (H1.1 1826 8) = (H.1 1826 8)))⟩
        · refine h_run 4 (pc' := 231) (l' := [(0, .inr (.inr 1826)), (4, .inl (H.1 1826 13)), (6, .inl dc), (7, .inl (i : Int))]) (st' := [.inl 0, .inl (i : Int), .inr (.inr 1847)]) rfl ?_
          refine h_ist (c := 1847) (j := i) (i := (i : Int)) (x := 0) rfl rfl (by decide) (by decide) rfl (by omega) (by decide) ?_
          refine h_run 2 (pc' := 206) (l' := [(0, .inr (.inr 1826)), (4, .inl (H.1 1826 13)), (6, .inl dc), (7, .inl ((i : Int) + 1))]) (st' := []) rfl ?_
          have g329 : -2147483648 ≤ (H1.1 1826 30) ∧ (H1.1 1826 30) ≤ 2147483647 := hrg316.1 1826 13 30 _ .int rfl rfl
          have g330 : -2147483648 ≤ (H1.1 1826 35) ∧ (H1.1 1826 35) ≤ 2147483647 := hrg316.1 1826 13 35 _ .int rfl rfl
          have g331 : -2147483648 ≤ (H1.1 1826 32) ∧ (H1.1 1826 32) ≤ 2147483647 := hrg316.1 1826 13 32 _ .int rfl rfl
          have g332 : -2147483648 ≤ (H1.1 1826 31) ∧ (H1.1 1826 31) ≤ 2147483647 := hrg316.1 1826 13 31 _ .int rfl rfl
          have g333 : -2147483648 ≤ (H1.1 1826 29) ∧ (H1.1 1826 29) ≤ 2147483647 := hrg316.1 1826 13 29 _ .int rfl rfl
          have g334 : -2147483648 ≤ (H1.1 1826 28) ∧ (H1.1 1826 28) ≤ 2147483647 := hrg316.1 1826 13 28 _ .int rfl rfl
          have g335 : -2147483648 ≤ (H1.1 1826 77) ∧ (H1.1 1826 77) ≤ 2147483647 := hrg316.1 1826 13 77 _ .int rfl rfl
          have g336 : -2147483648 ≤ (H1.1 1826 74) ∧ (H1.1 1826 74) ≤ 2147483647 := hrg316.1 1826 13 74 _ .int rfl rfl
          have g337 : -2147483648 ≤ (H1.1 1826 67) ∧ (H1.1 1826 67) ≤ 2147483647 := hrg316.1 1826 13 67 _ .int rfl rfl
          have e338 : (H1.1 1826 67) = (H.1 1826 67) := hf.2.2 67 (by decide)
          rw [show ((i : Int) + 1) = (((i + 1) : Nat) : Int) by omega]
          exact ih.2 _ dc (i + 1) (fr_a hf (by decide)) (by omega : 0 ≤ (H1.1 1826 30) ∧ (H1.1 1826 30) ≤ (H1.1 1826 29) ∧ (H1.1 1826 29) ≤ 1000) (by omega : 0 ≤ (H1.1 1826 35) ∧ (H1.1 1826 35) ≤ 5) (by omega : 0 ≤ (H1.1 1826 32) ∧ (H1.1 1826 32) ≤ 1000) (by omega : (H1.1 1826 28) = 0) (by omega : (H1.1 1826 77) = (H.1 1826 77) ∧ (H1.1 1826 74) = (H.1 1826 74) ∧ (H1.1 1826 67) = (H.1 1826 67)) (agp_a hag (by decide)) (PWc_a hP2 (by decide)) (by omega) (hRE.imp (fun X1 g => ⟨g.1, TA_fr g.2.1 (fr_a (fr_rf [] [1847] H1) (by decide)) (by decide) (by decide), RS9_fr g.2.2 (fr_a (fr_rf [] [1847] H1) (by decide)) (by decide)⟩)) (by omega : 16 - (i + 1) < w)
set_option maxRecDepth 100000 in
theorem n_read {zC : Nat → Option zsh} {d : Nat} (hd : 10 ≤ d) {H : hp} {Y : yx} {X : rx} (ht : 0 ≤ (H.1 1826 28) ∧ (H.1 1826 28) ≤ 1000) (hst : 0 ≤ (H.1 1826 32) ∧ (H.1 1826 32) ≤ 1000) (hP : PWc H) (hB : TB Y H) (h00 : X 0 0 = 0) (hT : TA (H.1 1826 8) H X) (hA : AB X) (hP0 : P0 X) (hN0 : NN X) (hRS : RS9 H X) (hM : MI X) : hG (zs zC) d mt_192 0 (zargs 0 [.inr (.inr 1826)]) [] H (fun r H2 => (∃ r0 : Int, r = some (.inl r0) ∧ RQ9 Y X r0 H2) ∧ fr [1, 3, 8, 13, 19, 28, 29, 30, 31, 32, 33, 34, 35, 36, 39, 40, 41, 43, 44, 47, 74, 76, 77] [1827, 1828, 1829, 1830, 1831, 1832, 1833, 1834, 1835, 1836, 1837, 1838, 1839, 1840, 1841, 1842, 1843, 1844, 1845, 1846, 1847, 1849, 1850, 1851, 1852, 1853, 1854] H H2 ∧ (H2.1 1826 28) = 0 ∧ (0 ≤ (H2.1 1826 32) ∧ (H2.1 1826 32) ≤ 1000) ∧ agp H H2 ∧ PWc H2 ∧ ((H2.1 1826 77) = 0 ∨ ((H2.1 1826 77) = (H.1 1826 77) ∧ (H2.1 1826 74) = (H.1 1826 74) ∧ (H2.1 1826 19) = (H.1 1826 19) ∧ (H2.1 1826 3) = (H.1 1826 3) ∧ (H2.1 1826 8) = (H.1 1826 8)))) := by
  refine h_rng (fun hrg0 => ?_)
  refine h_run 0 (pc' := 0) (l' := [(0, .inr (.inr 1826))]) (st' := []) rfl ?_
  obtain ⟨⟨pb1, pb2, pb3, pb4, pb5⟩, pw1, pw2, pw3, pw4⟩ := (id hP : PW H (H.1 1826 1) (H.1 1826 3) (H.1 1826 8) (H.1 1826 13) (H.1 1826 19))
  refine h_run 2 (pc' := 4) (l' := [(0, .inr (.inr 1826))]) (st' := [.inl (H.1 1826 1)]) rfl ?_
  have g339 : -2147483648 ≤ (H.1 1826 1) ∧ (H.1 1826 1) ≤ 2147483647 := hrg0.1 1826 13 1 _ .int rfl rfl
  refine h_run 3 (pc' := 9) (l' := [(0, .inr (.inr 1826)), (1, .inl (H.1 1826 1))]) (st' := [.inl (H.1 1826 3)]) rfl ?_
  have g340 : -2147483648 ≤ (H.1 1826 3) ∧ (H.1 1826 3) ≤ 2147483647 := hrg0.1 1826 13 3 _ .int rfl rfl
  refine h_run 3 (pc' := 14) (l' := [(0, .inr (.inr 1826)), (1, .inl (H.1 1826 1)), (2, .inl (H.1 1826 3))]) (st' := [.inl (H.1 1826 8)]) rfl ?_
  have g341 : -2147483648 ≤ (H.1 1826 8) ∧ (H.1 1826 8) ≤ 2147483647 := hrg0.1 1826 13 8 _ .int rfl rfl
  refine h_run 3 (pc' := 19) (l' := [(0, .inr (.inr 1826)), (1, .inl (H.1 1826 1)), (2, .inl (H.1 1826 3)), (3, .inl (H.1 1826 8))]) (st' := [.inl (H.1 1826 13)]) rfl ?_
  have g342 : -2147483648 ≤ (H.1 1826 13) ∧ (H.1 1826 13) ≤ 2147483647 := hrg0.1 1826 13 13 _ .int rfl rfl
  refine h_run 3 (pc' := 25) (l' := [(0, .inr (.inr 1826)), (1, .inl (H.1 1826 1)), (2, .inl (H.1 1826 3)), (3, .inl (H.1 1826 8)), (4, .inl (H.1 1826 13))]) (st' := [.inl (H.1 1826 19)]) rfl ?_
  have g343 : -2147483648 ≤ (H.1 1826 19) ∧ (H.1 1826 19) ≤ 2147483647 := hrg0.1 1826 13 19 _ .int rfl rfl
  refine h_run 4 (pc' := 31) (l' := [(0, .inr (.inr 1826)), (1, .inl (H.1 1826 1)), (2, .inl (H.1 1826 3)), (3, .inl (H.1 1826 8)), (4, .inl (H.1 1826 13)), (5, .inl (H.1 1826 19)), (6, .inl 0)]) (st' := [.inr (.inr 1826)]) rfl ?_
  have g344 : -2147483648 ≤ (H.1 1826 28) ∧ (H.1 1826 28) ≤ 2147483647 := hrg0.1 1826 13 28 _ .int rfl rfl
  have g345 : -2147483648 ≤ (H.1 1826 32) ∧ (H.1 1826 32) ≤ 2147483647 := hrg0.1 1826 13 32 _ .int rfl rfl
  refine h_cv (i := 396) (j := 191) (b := 1826) (M' := mt_191) (xs := []) (rest := []) rfl rfl rfl rfl rfl rfl (Nat.le_of_ble_eq_true rfl) (Nat.le_of_ble_eq_true rfl) (by omega) (n_openTape (by omega) (by omega : 0 ≤ (H.1 1826 28) ∧ (H.1 1826 28) ≤ 1000) (by omega : 0 ≤ (H.1 1826 32) ∧ (H.1 1826 32) ≤ 1000) hB h00 hT (rch_rf Y ([(6, 0, 0, 0)], X)) (lk_n (n := 6) (by decide))) ?_
  rintro _ H346 ⟨rfl, hx346n, hx346f, hx346t, hx346a, hx346c, hx346e⟩
  refine h_rng (fun hrg347 => ?_)
  have hf348 : fr [1, 3, 8, 13, 19, 28, 29, 30, 31, 32, 33, 34, 35, 36, 39, 40, 41, 43, 44, 47, 74, 76, 77] [1827, 1828, 1829, 1830, 1831, 1832, 1833, 1834, 1835, 1836, 1837, 1838, 1839, 1840, 1841, 1842, 1843, 1844, 1845, 1846, 1847, 1849, 1850, 1851, 1852, 1853, 1854] H H346 := fr_t (fr_rf _ _ _) hx346f (by decide) (by decide)
  have ha349 : agp H H346 := agp_tr (agp_rf _) (agp_fr hx346f (by decide) (by decide))
  replace hx346t : (H346.1 1826 28) = 0 ∧ (H346.1 1826 29) = (H.1 1826 28) := hx346t
  refine h_run 0 (pc' := 34) (l' := [(0, .inr (.inr 1826)), (1, .inl (H.1 1826 1)), (2, .inl (H.1 1826 3)), (3, .inl (H.1 1826 8)), (4, .inl (H.1 1826 13)), (5, .inl (H.1 1826 19)), (6, .inl 0)]) (st' := []) rfl ?_
  have g350 : -2147483648 ≤ (H346.1 1826 30) ∧ (H346.1 1826 30) ≤ 2147483647 := hrg347.1 1826 13 30 _ .int rfl rfl
  have g351 : -2147483648 ≤ (H346.1 1826 35) ∧ (H346.1 1826 35) ≤ 2147483647 := hrg347.1 1826 13 35 _ .int rfl rfl
  have g352 : -2147483648 ≤ (H346.1 1826 32) ∧ (H346.1 1826 32) ≤ 2147483647 := hrg347.1 1826 13 32 _ .int rfl rfl
  have g353 : -2147483648 ≤ (H346.1 1826 31) ∧ (H346.1 1826 31) ≤ 2147483647 := hrg347.1 1826 13 31 _ .int rfl rfl
  have g354 : -2147483648 ≤ (H346.1 1826 29) ∧ (H346.1 1826 29) ≤ 2147483647 := hrg347.1 1826 13 29 _ .int rfl rfl
  have g355 : -2147483648 ≤ (H346.1 1826 28) ∧ (H346.1 1826 28) ≤ 2147483647 := hrg347.1 1826 13 28 _ .int rfl rfl
  have g356 : -2147483648 ≤ (H346.1 1826 77) ∧ (H346.1 1826 77) ≤ 2147483647 := hrg347.1 1826 13 77 _ .int rfl rfl
  have e357 : (H346.1 1826 77) = (H.1 1826 77) := hx346f.2.2 77 (by decide)
  have g358 : -2147483648 ≤ (H346.1 1826 74) ∧ (H346.1 1826 74) ≤ 2147483647 := hrg347.1 1826 13 74 _ .int rfl rfl
  have e359 : (H346.1 1826 74) = (H.1 1826 74) := hx346f.2.2 74 (by decide)
  have g360 : -2147483648 ≤ (H346.1 1826 67) ∧ (H346.1 1826 67) ≤ 2147483647 := hrg347.1 1826 13 67 _ .int rfl rfl
  have e361 : (H346.1 1826 67) = (H.1 1826 67) := hx346f.2.2 67 (by decide)
  exact (n_read_cut hd ht hst hP hB h00 hT hA hP0 hN0 hRS hM _).1 _ (0 : Int) hf348 (by omega : 0 ≤ (H346.1 1826 30) ∧ (H346.1 1826 30) ≤ (H346.1 1826 29) ∧ (H346.1 1826 29) ≤ 1000) (by omega : 0 ≤ (H346.1 1826 35) ∧ (H346.1 1826 35) ≤ 5) (by omega : 0 ≤ (H346.1 1826 32) ∧ (H346.1 1826 32) ≤ 1000) (by omega : (H346.1 1826 28) = 0) (by omega : (H346.1 1826 77) = (H.1 1826 77) ∧ (H346.1 1826 74) = (H.1 1826 74) ∧ (H346.1 1826 67) = (H.1 1826 67)) ha349 (fun _ => PWc_fr hP hx346f (by decide) (by decide)) (GB_i hx346n (fun q => ⟨X, rch_rf _ _, (by rw [show (H346.1 1826 8) = (H.1 1826 8) from (hx346f.2.2 8 (by decide))]; exact q), RS9_fr hRS hx346f (by decide)⟩)) (Nat.lt_succ_self _)
