/-! the reference's reading against the machine: laws -/
def xl (X : rx) (l : Nat) (x : Int) : rx := adv (xu (xu (xu (xu X 12 l x) 0 1 0) 0 2 0) 0 8 1)
theorem xl_s (X : rx) (l : Nat) (x : Int) : xl X l x 0 0 = X 0 0 + 1 ∧ xl X l x 0 1 = 0 ∧ xl X l x 0 2 = 0 ∧ xl X l x 0 8 = 1 ∧ xl X l x 12 = up (X 12) l x ∧ (∀ j, 3 ≤ j → j ≤ 7 → xl X l x 0 j = X 0 j) ∧ ∀ c, 1 ≤ c → c ≤ 9 → xl X l x c = X c := by
  unfold xl adv
  refine ⟨?_, ?_, ?_, ?_, ?_, fun j h1 h2 => ?_, fun c h1 h2 => ?_⟩
  · rw [xu_1, xu_0 _ _ (by decide), xu_0 _ _ (by decide), xu_0 _ _ (by decide), xu_0 _ _ (by decide)]
  · rw [xu_0 _ _ (by decide), xu_0 _ _ (by decide), xu_0 _ _ (by decide), xu_1]
  · rw [xu_0 _ _ (by decide), xu_0 _ _ (by decide), xu_1]
  · rw [xu_0 _ _ (by decide), xu_1]
  · rw [xu_ne _ _ _ (by decide), xu_ne _ _ _ (by decide), xu_ne _ _ _ (by decide), xu_ne _ _ _ (by decide), xu_eq]
  · rw [xu_0 _ _ (by omega), xu_0 _ _ (by omega), xu_0 _ _ (by omega), xu_0 _ _ (by omega), xu_0 _ _ (by omega)]
  · rw [xu_ne _ _ _ (by omega), xu_ne _ _ _ (by omega), xu_ne _ _ _ (by omega), xu_ne _ _ _ (by omega), xu_ne _ _ _ (by omega)]
/-- a law's name is told; it counts later -/
theorem TA_ln {m x : Int} {H : hp} {X : rx} {l : Nat} (h : TA m H X) (hl : (H.1 1826 19) = l) : TA m (zu H 1841 (up (H.1 1841) l x)) (xl X l x) := by
  have f : fr [] [1841] H (zu H 1841 (up (H.1 1841) l x)) := fr_a (fr_rf _ _ _) (by decide)
  obtain ⟨a1, a2, a3, a4, a5⟩ := h
  obtain ⟨-, -, -, -, e12, e0, e⟩ := xl_s X l x
  refine ⟨A1_cg a1 f (by decide) (by decide) (e0 _ (by decide) (by decide)) (e _ (by decide) (by decide)), A2_cg a2 f (by decide) (by decide) (e0 _ (by decide) (by decide)) (fun c c1 c2 => e c (by omega) (by omega)), A3_cg a3 f (by decide) (by decide) (e0 _ (by decide) (by decide)) (e _ (by decide) (by decide)) (e _ (by decide) (by decide)) (e _ (by decide) (by decide)), ⟨⟨?_, ?_⟩, fun k hk => ?_⟩, TF_cg a5 f (by decide) (fun k _ => congrFun (e 7 (by decide) (by decide)) k)⟩
  · rw [e0 6 (by decide) (by decide)]
    exact a4.1.1
  · rw [e0 7 (by decide) (by decide)]
    exact a4.1.2
  · rw [e0 7 (by decide) (by decide)] at hk
    have := a4.1.2
    rw [e12]
    show up (H.1 1841) l x k = _
    rw [up_ne _ _ (by omega), up_ne _ _ (by omega)]
    exact a4.2 k hk
theorem VR_law {K : hp} {X : rx} {l : Nat} {x : Int} (h1 : (K.1 1826 40) = 0) (h2 : (K.1 1826 44) = 2) (h3 : (K.1 1826 39) = 0) : VR K (adv (xl X l x)) := by
  obtain ⟨-, y1, y2, y8, -⟩ := xl_s X l x
  obtain ⟨x1, x2, x8, -⟩ := adv_s (xl X l x)
  exact ⟨⟨by omega, by omega, by omega⟩, fun _ => ⟨⟨by omega, by omega⟩, fun v hv => absurd hv (by omega)⟩⟩
theorem FI_g {t r : Int} {X : rx} (h : FI t X r) (ht : t = -1) (h8 : X 0 8 = 1) (h2 : X 0 2 ≠ 0) : 0 ≤ r ∧ thd (adv X) = r := by
  rcases h h8 ht with ⟨a, -⟩ | ⟨a, b, c, d⟩
  · exact absurd a h2
  · refine ⟨a, ?_⟩
    rw [thd_cg (sT_adv X) (by rw [(adv_s X).2.2.2.2.2]) c]
    exact b.symm
theorem tm_1 {ar : Int → Int} {ok : Int → Prop} {a : Nat → Int} {k i : Nat} (h : tm ar ok a k i 1) : k ≠ 0 := by
  intro e
  subst e
  have h : (1 : Nat) = 0 := h
  omega
theorem TT_nm {H : hp} (h : TT H 0) (g : ∃ k : Nat, (H.1 1826 43) = k ∧ k ≤ 40 ∧ tm (ma (H.1 1833) (H.1 1830)) (m_sg (H.1 1826 3) (H.1 1826 8) (H.1 1826 39)) (H.1 1851) k 0 1) : (H.1 1826 40) ≠ 0 := by
  obtain ⟨n, m, k, -, ⟨b1, b2, b3⟩, -⟩ := h
  obtain ⟨k2, g1, g2, g3⟩ := g
  have := tm_1 g3
  omega

/-! tellLaw -/
set_option maxRecDepth 100000 in
theorem n_tellLaw_cut {zC : Nat → Option zsh} {d : Nat} (hd : 8 ≤ d) {H : hp}  {Y : yx} {m : Int} {c0 : cf} {K : List tq} {X : rx} {nn : Int} (h0 : 0 ≤ (H.1 1826 30) ∧ (H.1 1826 30) ≤ (H.1 1826 29) ∧ (H.1 1826 29) ≤ 1000) (hw : 0 ≤ (H.1 1826 35) ∧ (H.1 1826 35) ≤ 5) (hst : 0 ≤ (H.1 1826 32) ∧ (H.1 1826 32) ≤ 1000) (hP : PWc H) (hw0 : (H.1 1826 35) = 0) (hR : RK Y m H X) (hmf : (H.1 1826 8) = m) (hq : rch Y c0 ((6, nn, 0, 0) :: K, X)) (htk : tk Y (xi X) = 7) : ∀ w : Nat, (∀ (H1 : hp) (l : Nat) (i : Nat) (k0 : Nat) (k1 : Nat) (v : Nat), (fr [30, 31, 32, 33, 35, 36, 19, 39, 40, 41, 43, 44, 47] [1841, 1842, 1843, 1844, 1845, 1846, 1847, 1849, 1850, 1851, 1852, 1853, 1854] H H1) → ((H.1 1826 30) ≤ (H1.1 1826 30) ∧ (H1.1 1826 30) ≤ (H.1 1826 29)) → (0 ≤ (H1.1 1826 35) ∧ (H1.1 1826 35) ≤ 5) → (0 ≤ (H1.1 1826 32) ∧ (H1.1 1826 32) ≤ 1000) → (agp H H1) → ((H1.1 1826 35) = 0) → ((l : Int) = (H.1 1826 19) ∧ (H.1 1826 19) ≤ 15) → ((H1.1 1826 1) = (H.1 1826 1) ∧ (H1.1 1826 3) = (H.1 1826 3) ∧ (H1.1 1826 8) = (H.1 1826 8) ∧ (H1.1 1826 13) = (H.1 1826 13) ∧ (H1.1 1826 19) = (H.1 1826 19)) → (LSd H1 (2 * l) k0 v) → (LSd H1 (2 * l + 1) k1 v) → ((H1.1 1845) l = v) → ((H1.1 1826 39) = v ∧ v ≤ 6) → (∀ x : Nat, (x : Int) < (H1.1 1826 39) → 0 ≤ (H1.1 1850) x ∧ (H1.1 1850) x < (H1.1 1826 1)) → (i ≤ v) → (∀ x, x < i → (H1.1 1846) (6 * l + x) = (H1.1 1850) x) → (∃ X7 : rx, rch Y c0 (((15, 0, 0, 0) :: ((1, 59, 0, 0) :: (6, nn + 1, 0, 0) :: K)), X7) ∧ RK Y m H1 X7 ∧ (H1.1 1841) l = X7 12 l) → (v - i) < w → hG (zs zC) d mt_187 225 [(0, .inr (.inr 1826)), (1, .inl (l : Int)), (4, .inl (i : Int))] [] H1 (fun r H2 => r = none ∧ GB Y m c0 H2 (∃ X2 : rx, rch Y c0 (((1, 59, 0, 0) :: (6, nn + 1, 0, 0) :: K), X2) ∧ RK Y m H2 X2) ∧ fr [30, 31, 32, 33, 35, 36, 19, 39, 40, 41, 43, 44, 47] [1841, 1842, 1843, 1844, 1845, 1846, 1847, 1849, 1850, 1851, 1852, 1853, 1854] H H2 ∧ ((H.1 1826 30) ≤ (H2.1 1826 30) ∧ (H2.1 1826 30) ≤ (H.1 1826 29)) ∧ (0 ≤ (H2.1 1826 35) ∧ (H2.1 1826 35) ≤ 5) ∧ ((H.1 1826 35) ≠ 0 → (H2.1 1826 35) ≠ 0) ∧ (0 ≤ (H2.1 1826 32) ∧ (H2.1 1826 32) ≤ 1000) ∧ agp H H2 ∧ ((H2.1 1826 35) = 0 → PWc H2))) := by
  intro w
  induction w with
  | zero => exact fun _ _ _ _ _ _ _ _ _ _ _ _ _ _ _ _ _ _ _ _ _ _ h => absurd h (Nat.not_lt_zero _)
  | succ w ih =>
    intro H1 l i k0 k1 v hf ha hk hst1 hag hgd hr hcn hl0 hl1 hlv hv hvt9 hi hcp hLG hw
    refine h_rng (fun hrg1 => ?_)
    obtain ⟨⟨pb1, pb2, pb3, pb4, pb5⟩, pw1, pw2, pw3, pw4⟩ := (id hP : PW H (H.1 1826 1) (H.1 1826 3) (H.1 1826 8) (H.1 1826 13) (H.1 1826 19))
    obtain ⟨X7, hq7, hR7, hln⟩ := hLG
    refine h_run 3 (pc' := 231) (l' := [(0, .inr (.inr 1826)), (1, .inl (l : Int)), (4, .inl (i : Int))]) (st' := [.inl (H1.1 1826 39), .inl (i : Int)]) rfl ?_
    have g2 : -2147483648 ≤ (H1.1 1826 39) ∧ (H1.1 1826 39) ≤ 2147483647 := hrg1.1 1826 13 39 _ .int rfl rfl
    refine h_ige (off := 28) (t := 259) rfl rfl (by omega) (by omega) (fun c3 => ?_) (fun c3 => ?_)
    · refine h_run 4 (pc' := 265) (l' := [(0, .inr (.inr 1826)), (1, .inl (l : Int)), (4, .inl (i : Int))]) (st' := [.inl 0, .inl (l : Int), .inr (.inr 1847)]) rfl ?_
      refine h_ist (c := 1847) (j := l) (i := (l : Int)) (x := 0) rfl rfl (by decide) (by decide) rfl (by omega) (by decide) ?_
      refine h_run 3 (pc' := 271) (l' := [(0, .inr (.inr 1826)), (1, .inl (l : Int)), (4, .inl (i : Int))]) (st' := [.inl (H1.1 1826 19), .inr (.inr 1826)]) rfl ?_
      have g4 : -2147483648 ≤ (H1.1 1826 19) ∧ (H1.1 1826 19) ≤ 2147483647 := hrg1.1 1826 13 19 _ .int rfl rfl
      refine h_run 2 (pc' := 273) (l' := [(0, .inr (.inr 1826)), (1, .inl (l : Int)), (4, .inl (i : Int))]) (st' := [.inl ((H1.1 1826 19) + 1), .inr (.inr 1826)]) rfl ?_
      refine h_puti (i := 387) (ci := 13) (k := 19) (a := 1826) (x := ((H1.1 1826 19) + 1)) rfl rfl rfl rfl rfl rfl (by decide) (by omega) ?_
      refine h_ret rfl rfl ?_
      have g5 : -2147483648 ≤ (H1.1 1826 30) ∧ (H1.1 1826 30) ≤ 2147483647 := hrg1.1 1826 13 30 _ .int rfl rfl
      have g6 : -2147483648 ≤ (H1.1 1826 35) ∧ (H1.1 1826 35) ≤ 2147483647 := hrg1.1 1826 13 35 _ .int rfl rfl
      have g7 : -2147483648 ≤ (H1.1 1826 32) ∧ (H1.1 1826 32) ≤ 2147483647 := hrg1.1 1826 13 32 _ .int rfl rfl
      have g8 : -2147483648 ≤ (H1.1 1826 31) ∧ (H1.1 1826 31) ≤ 2147483647 := hrg1.1 1826 13 31 _ .int rfl rfl
      have g9 : -2147483648 ≤ (H1.1 1826 29) ∧ (H1.1 1826 29) ≤ 2147483647 := hrg1.1 1826 13 29 _ .int rfl rfl
      have e10 : (H1.1 1826 29) = (H.1 1826 29) := hf.2.2 29 (by decide)
      have g11 : -2147483648 ≤ (H1.1 1826 1) ∧ (H1.1 1826 1) ≤ 2147483647 := hrg1.1 1826 13 1 _ .int rfl rfl
      have e12 : (H1.1 1826 1) = (H.1 1826 1) := hf.2.2 1 (by decide)
      have g13 : -2147483648 ≤ (H1.1 1826 3) ∧ (H1.1 1826 3) ≤ 2147483647 := hrg1.1 1826 13 3 _ .int rfl rfl
      have e14 : (H1.1 1826 3) = (H.1 1826 3) := hf.2.2 3 (by decide)
      have g15 : -2147483648 ≤ (H1.1 1826 8) ∧ (H1.1 1826 8) ≤ 2147483647 := hrg1.1 1826 13 8 _ .int rfl rfl
      have e16 : (H1.1 1826 8) = (H.1 1826 8) := hf.2.2 8 (by decide)
      have g17 : -2147483648 ≤ (H1.1 1826 13) ∧ (H1.1 1826 13) ≤ 2147483647 := hrg1.1 1826 13 13 _ .int rfl rfl
      have e18 : (H1.1 1826 13) = (H.1 1826 13) := hf.2.2 13 (by decide)
      exact ⟨rfl, (Or.inl ⟨(by omega : (H1.1 1826 35) = 0), _, rch_st hq7 rfl, RK_law (l := l) hR7 (fr_o (fr_a (fr_rf [19] [1847] H1) (by decide)) (by decide)) (by decide) (by decide) rfl (by omega) hln⟩), (fr_o (fr_a hf (by decide)) (by decide)), (by omega : (H.1 1826 30) ≤ (H1.1 1826 30) ∧ (H1.1 1826 30) ≤ (H.1 1826 29)), (by omega : 0 ≤ (H1.1 1826 35) ∧ (H1.1 1826 35) ≤ 5), (by omega : (H.1 1826 35) ≠ 0 → (H1.1 1826 35) ≠ 0), (by omega : 0 ≤ (H1.1 1826 32) ∧ (H1.1 1826 32) ≤ 1000), (agp_n19 (agp_a hag (by decide)) (by omega : (H.1 1826 19) ≤ ((H1.1 1826 19) + 1))), (fun _ => PW_law (l := l) (k0 := k0) (k1 := k1) (v := v) hP (agp_n19 (agp_a hag (by decide)) (by omega : (H.1 1826 19) ≤ ((H1.1 1826 19) + 1))) ⟨hcn.1, hcn.2.1, hcn.2.2.1, hcn.2.2.2.1⟩ ⟨by omega, by omega, (by omega : ((H1.1 1826 19) + 1) = (H.1 1826 19) + 1)⟩ hl0 hl1 ⟨hlv, by omega⟩ (fun x hx => by show 0 ≤ (H1.1 1846) (6 * l + x) ∧ (H1.1 1846) (6 * l + x) < (H1.1 1826 1); rw [hcp x (by omega)]; exact hvt9 x (by omega)))⟩
    · refine h_run 10 (pc' := 251) (l' := [(0, .inr (.inr 1826)), (1, .inl (l : Int)), (4, .inl (i : Int))]) (st' := [.inl (i : Int), .inr (.inr 1850), .inl ((6 * (l : Int)) + (i : Int)), .inr (.inr 1846)]) rfl ?_
      refine h_ild (c := 1850) (j := i) (i := (i : Int)) rfl rfl (by decide) rfl (by omega) ?_
      have g19 : -2147483648 ≤ (H1.1 1850 i) ∧ (H1.1 1850 i) ≤ 2147483647 := hrg1.2 1850 i 48 .int rfl (by omega)
      refine h_run 0 (pc' := 252) (l' := [(0, .inr (.inr 1826)), (1, .inl (l : Int)), (4, .inl (i : Int))]) (st' := [.inl (H1.1 1850 i), .inl ((6 * (l : Int)) + (i : Int)), .inr (.inr 1846)]) rfl ?_
      refine h_ist (c := 1846) (j := ((6 * l) + i)) (i := ((6 * (l : Int)) + (i : Int))) (x := (H1.1 1850 i)) rfl rfl (by decide) (by decide) (by omega) (by omega) (by omega) ?_
      refine h_run 2 (pc' := 225) (l' := [(0, .inr (.inr 1826)), (1, .inl (l : Int)), (4, .inl ((i : Int) + 1))]) (st' := []) rfl ?_
      have g20 : -2147483648 ≤ (H1.1 1826 30) ∧ (H1.1 1826 30) ≤ 2147483647 := hrg1.1 1826 13 30 _ .int rfl rfl
      have g21 : -2147483648 ≤ (H1.1 1826 35) ∧ (H1.1 1826 35) ≤ 2147483647 := hrg1.1 1826 13 35 _ .int rfl rfl
      have g22 : -2147483648 ≤ (H1.1 1826 32) ∧ (H1.1 1826 32) ≤ 2147483647 := hrg1.1 1826 13 32 _ .int rfl rfl
      have g23 : -2147483648 ≤ (H1.1 1826 31) ∧ (H1.1 1826 31) ≤ 2147483647 := hrg1.1 1826 13 31 _ .int rfl rfl
      have g24 : -2147483648 ≤ (H1.1 1826 29) ∧ (H1.1 1826 29) ≤ 2147483647 := hrg1.1 1826 13 29 _ .int rfl rfl
      have e25 : (H1.1 1826 29) = (H.1 1826 29) := hf.2.2 29 (by decide)
      have g26 : -2147483648 ≤ (H1.1 1826 1) ∧ (H1.1 1826 1) ≤ 2147483647 := hrg1.1 1826 13 1 _ .int rfl rfl
      have e27 : (H1.1 1826 1) = (H.1 1826 1) := hf.2.2 1 (by decide)
      have g28 : -2147483648 ≤ (H1.1 1826 3) ∧ (H1.1 1826 3) ≤ 2147483647 := hrg1.1 1826 13 3 _ .int rfl rfl
      have e29 : (H1.1 1826 3) = (H.1 1826 3) := hf.2.2 3 (by decide)
      have g30 : -2147483648 ≤ (H1.1 1826 8) ∧ (H1.1 1826 8) ≤ 2147483647 := hrg1.1 1826 13 8 _ .int rfl rfl
      have e31 : (H1.1 1826 8) = (H.1 1826 8) := hf.2.2 8 (by decide)
      have g32 : -2147483648 ≤ (H1.1 1826 13) ∧ (H1.1 1826 13) ≤ 2147483647 := hrg1.1 1826 13 13 _ .int rfl rfl
      have e33 : (H1.1 1826 13) = (H.1 1826 13) := hf.2.2 13 (by decide)
      have g34 : -2147483648 ≤ (H1.1 1826 19) ∧ (H1.1 1826 19) ≤ 2147483647 := hrg1.1 1826 13 19 _ .int rfl rfl
      rw [show ((i : Int) + 1) = (((i + 1) : Nat) : Int) by omega]
      exact ih _ (l) (i + 1) (k0) (k1) (v) (fr_a hf (by decide)) (by omega : (H.1 1826 30) ≤ (H1.1 1826 30) ∧ (H1.1 1826 30) ≤ (H.1 1826 29)) (by omega : 0 ≤ (H1.1 1826 35) ∧ (H1.1 1826 35) ≤ 5) (by omega : 0 ≤ (H1.1 1826 32) ∧ (H1.1 1826 32) ≤ 1000) (agp_1846 hag (by omega : 6 * (H.1 1826 19) ≤ ((((6 * l) + i) : Nat) : Int))) (by omega : (H1.1 1826 35) = 0) (by omega : ((l) : Int) = (H.1 1826 19) ∧ (H.1 1826 19) ≤ 15) (by omega : (H1.1 1826 1) = (H.1 1826 1) ∧ (H1.1 1826 3) = (H.1 1826 3) ∧ (H1.1 1826 8) = (H.1 1826 8) ∧ (H1.1 1826 13) = (H.1 1826 13) ∧ (H1.1 1826 19) = (H.1 1826 19)) hl0 hl1 hlv (by omega : (H1.1 1826 39) = (v) ∧ (v) ≤ 6) hvt9 (by omega) (cp_up hcp : ∀ x, x < i + 1 → up (H1.1 1846) (6 * l + i) ((H1.1 1850) i) (6 * l + x) = (H1.1 1850) x) ⟨X7, hq7, RK_fr hR7 (fr_a (fr_rf [] [1846] H1) (by decide)) (by decide) (by decide), hln⟩ (by omega : ((v) - (i + 1)) < w)
set_option maxRecDepth 100000 in
theorem n_tellLaw {zC : Nat → Option zsh} {d : Nat} (hd : 8 ≤ d) {H : hp}  {Y : yx} {m : Int} {c0 : cf} {K : List tq} {X : rx} {nn : Int} (h0 : 0 ≤ (H.1 1826 30) ∧ (H.1 1826 30) ≤ (H.1 1826 29) ∧ (H.1 1826 29) ≤ 1000) (hw : 0 ≤ (H.1 1826 35) ∧ (H.1 1826 35) ≤ 5) (hst : 0 ≤ (H.1 1826 32) ∧ (H.1 1826 32) ≤ 1000) (hP : PWc H) (hw0 : (H.1 1826 35) = 0) (hR : RK Y m H X) (hmf : (H.1 1826 8) = m) (hq : rch Y c0 ((6, nn, 0, 0) :: K, X)) (htk : tk Y (xi X) = 7) : hG (zs zC) d mt_187 0 (zargs 0 [.inr (.inr 1826)]) [] H (fun r H2 => r = none ∧ GB Y m c0 H2 (∃ X2 : rx, rch Y c0 (((1, 59, 0, 0) :: (6, nn + 1, 0, 0) :: K), X2) ∧ RK Y m H2 X2) ∧ fr [30, 31, 32, 33, 35, 36, 19, 39, 40, 41, 43, 44, 47] [1841, 1842, 1843, 1844, 1845, 1846, 1847, 1849, 1850, 1851, 1852, 1853, 1854] H H2 ∧ ((H.1 1826 30) ≤ (H2.1 1826 30) ∧ (H2.1 1826 30) ≤ (H.1 1826 29)) ∧ (0 ≤ (H2.1 1826 35) ∧ (H2.1 1826 35) ≤ 5) ∧ ((H.1 1826 35) ≠ 0 → (H2.1 1826 35) ≠ 0) ∧ (0 ≤ (H2.1 1826 32) ∧ (H2.1 1826 32) ≤ 1000) ∧ agp H H2 ∧ ((H2.1 1826 35) = 0 → PWc H2)) := by
  refine h_rng (fun hrg0 => ?_)
  refine h_run 0 (pc' := 0) (l' := [(0, .inr (.inr 1826))]) (st' := []) rfl ?_
  obtain ⟨⟨pb1, pb2, pb3, pb4, pb5⟩, pw1, pw2, pw3, pw4⟩ := (id hP : PW H (H.1 1826 1) (H.1 1826 3) (H.1 1826 8) (H.1 1826 13) (H.1 1826 19))
  have hx7 := hR.2.2.2.2.2.2.2.1.1.2
  have ha7 : adv X 0 7 = X 0 7 := (sT_adv X).2.2 7 (by decide) (by decide)
  refine h_run 1 (pc' := 1) (l' := [(0, .inr (.inr 1826))]) (st' := [.inr (.inr 1826)]) rfl ?_
  have g35 : -2147483648 ≤ (H.1 1826 30) ∧ (H.1 1826 30) ≤ 2147483647 := hrg0.1 1826 13 30 _ .int rfl rfl
  have g36 : -2147483648 ≤ (H.1 1826 29) ∧ (H.1 1826 29) ≤ 2147483647 := hrg0.1 1826 13 29 _ .int rfl rfl
  have g37 : -2147483648 ≤ (H.1 1826 35) ∧ (H.1 1826 35) ≤ 2147483647 := hrg0.1 1826 13 35 _ .int rfl rfl
  have g38 : -2147483648 ≤ (H.1 1826 32) ∧ (H.1 1826 32) ≤ 2147483647 := hrg0.1 1826 13 32 _ .int rfl rfl
  refine h_cv (i := 297) (j := 165) (b := 1826) (M' := mt_165) (xs := []) (rest := []) rfl rfl rfl rfl rfl rfl (Nat.le_of_ble_eq_true rfl) (Nat.le_of_ble_eq_true rfl) (by omega) (n_nx2 (by omega) (by omega : 0 ≤ (H.1 1826 30) ∧ (H.1 1826 30) ≤ (H.1 1826 29) ∧ (H.1 1826 29) ≤ 1000) (by omega : 0 ≤ (H.1 1826 35) ∧ (H.1 1826 35) ≤ 5) (by omega : 0 ≤ (H.1 1826 32) ∧ (H.1 1826 32) ≤ 1000) (by omega : (H.1 1826 35) = 0) (X := (adv X)) (RN_adv hR (fr_rf [] [] _) (by decide) (by decide)) (fun q9 => (rch_st hq (by show stDec Y nn K X = _; unfold stDec miss; (repeat (first | rw [if_pos (by omega)] | rw [if_neg (by omega)])); try rfl)))) ?_
  rintro _ H39 ⟨rfl, hx39n, hx39f, hx39a, hx39b, hx39c, -, hx39e, hx39g⟩
  refine h_rng (fun hrg40 => ?_)
  have hf41 : fr [30, 31, 32, 33, 35, 36, 19, 39, 40, 41, 43, 44, 47] [1841, 1842, 1843, 1844, 1845, 1846, 1847, 1849, 1850, 1851, 1852, 1853, 1854] H H39 := fr_t (fr_rf _ _ _) hx39f (by decide) (by decide)
  have ha42 : agp H H39 := agp_tr (agp_rf _) (agp_fr hx39f (by decide) (by decide))
  replace hx39a : (H.1 1826 30) ≤ (H39.1 1826 30) := hx39a
  replace hx39b : (H39.1 1826 30) ≤ (H.1 1826 29) := hx39b
  replace hx39g : (H39.1 1826 35) = 0 → ((H39.1 1826 31) = 0 ∨ (H.1 1826 30) < (H39.1 1826 30)) := hx39g
  refine h_run 0 (pc' := 4) (l' := [(0, .inr (.inr 1826))]) (st' := []) rfl ?_
  refine h_run 1 (pc' := 5) (l' := [(0, .inr (.inr 1826))]) (st' := [.inr (.inr 1826)]) rfl ?_
  have g43 : -2147483648 ≤ (H39.1 1826 35) ∧ (H39.1 1826 35) ≤ 2147483647 := hrg40.1 1826 13 35 _ .int rfl rfl
  refine h_cv (i := 293) (j := 158) (b := 1826) (M' := mt_158) (xs := []) (rest := []) rfl rfl rfl rfl rfl rfl (Nat.le_of_ble_eq_true rfl) (Nat.le_of_ble_eq_true rfl) (by omega) (m_good (by omega)) ?_
  rintro _ _ ⟨⟨rfl, b44⟩ | ⟨rfl, b44⟩, rfl⟩
  · have b44x : (H39.1 1826 35) = 0 := b44
    replace hx39g := hx39g b44x
    refine h_run 0 (pc' := 8) (l' := [(0, .inr (.inr 1826))]) (st' := [.inl 1]) rfl ?_
    refine h_zeq (off := 16) (t := 24) rfl rfl (by decide) (fun c => absurd c (by decide)) (fun _ => ?_)
    have hR1 := GB_g hx39n (by omega)
    have htk1 := RK_t hR1
    have hy7 := hR1.2.2.2.2.2.2.2.1.1.2
    refine h_run 2 (pc' := 15) (l' := [(0, .inr (.inr 1826))]) (st' := [.inl (H39.1 1826 31)]) rfl ?_
    have g45 : -2147483648 ≤ (H39.1 1826 31) ∧ (H39.1 1826 31) ≤ 2147483647 := hrg40.1 1826 13 31 _ .int rfl rfl
    refine h_run 1 (pc' := 16) (l' := [(0, .inr (.inr 1826))]) (st' := [.inl 1, .inl (H39.1 1826 31)]) rfl ?_
    refine h_ieq (off := 8) (t := 24) rfl rfl (by omega) (by decide) (fun c46 => ?_) (fun c46 => ?_)
    · refine h_run 1 (pc' := 25) (l' := [(0, .inr (.inr 1826))]) (st' := [.inr (.inr 1826)]) rfl ?_
      refine h_cv (i := 293) (j := 158) (b := 1826) (M' := mt_158) (xs := []) (rest := []) rfl rfl rfl rfl rfl rfl (Nat.le_of_ble_eq_true rfl) (Nat.le_of_ble_eq_true rfl) (by omega) (m_good1 (by omega) (by omega : (H39.1 1826 35) = 0)) ?_
      rintro _ _ ⟨rfl, rfl⟩
      refine h_run 0 (pc' := 28) (l' := [(0, .inr (.inr 1826))]) (st' := [.inl 1]) rfl ?_
      refine h_zeq (off := 27) (t := 55) rfl rfl (by decide) (fun c => absurd c (by decide)) (fun _ => ?_)
      refine h_run 4 (pc' := 39) (l' := [(0, .inr (.inr 1826))]) (st' := [.inl (H39.1 1826 19), .inr (.inr 1841)]) rfl ?_
      have g47 : -2147483648 ≤ (H39.1 1826 19) ∧ (H39.1 1826 19) ≤ 2147483647 := hrg40.1 1826 13 19 _ .int rfl rfl
      have e48 : (H39.1 1826 19) = (H.1 1826 19) := hx39f.2.2 19 (by decide)
      refine h_run 2 (pc' := 43) (l' := [(0, .inr (.inr 1826))]) (st' := [.inr (.inl (H39.1 1826 33)), .inl (H39.1 1826 19), .inr (.inr 1841)]) rfl ?_
      have g49 : -9223372036854775808 ≤ (H39.1 1826 33) ∧ (H39.1 1826 33) ≤ 9223372036854775807 := hrg40.1 1826 13 33 _ .long rfl rfl
      refine h_cs (i := 309) (j := 167) (M' := mt_167) (xs := [.inr (.inl (H39.1 1826 33)), .inl (H39.1 1826 19), .inr (.inr 1841)]) (rest := []) rfl rfl rfl rfl rfl (Nat.le_of_ble_eq_true rfl) (Nat.le_of_ble_eq_true rfl) (by omega) (n_find (by omega) (m := 16) (z := lfd Y (adv X)) rfl (by omega : 0 ≤ (H39.1 1826 19) ∧ (H39.1 1826 19) ≤ ((16 : Nat) : Int) ∧ 16 ≤ 100) (by omega) (RK_lf hR1 (Or.inl (by omega)))) ?_
      rintro _ _ ⟨⟨k50, rfl, f51, f51x⟩ | ⟨rfl, f51⟩, rfl⟩
      · refine h_run 0 (pc' := 46) (l' := [(0, .inr (.inr 1826))]) (st' := [.inl (k50 : Int)]) rfl ?_
        refine h_run 1 (pc' := 47) (l' := [(0, .inr (.inr 1826))]) (st' := [.inl (-1), .inl (k50 : Int)]) rfl ?_
        refine h_ieq (off := 8) (t := 55) rfl rfl (by omega) (by decide) (fun c52 => ?_) (fun c52 => ?_)
        · refine h_run 1 (pc' := 56) (l' := [(0, .inr (.inr 1826))]) (st' := [.inr (.inr 1826)]) rfl ?_
          refine h_cv (i := 293) (j := 158) (b := 1826) (M' := mt_158) (xs := []) (rest := []) rfl rfl rfl rfl rfl rfl (Nat.le_of_ble_eq_true rfl) (Nat.le_of_ble_eq_true rfl) (by omega) (m_good1 (by omega) (by omega : (H39.1 1826 35) = 0)) ?_
          rintro _ _ ⟨rfl, rfl⟩
          refine h_run 0 (pc' := 59) (l' := [(0, .inr (.inr 1826))]) (st' := [.inl 1]) rfl ?_
          refine h_zeq (off := 17) (t := 76) rfl rfl (by decide) (fun c => absurd c (by decide)) (fun _ => ?_)
          refine h_run 2 (pc' := 66) (l' := [(0, .inr (.inr 1826))]) (st' := [.inl (H39.1 1826 19)]) rfl ?_
          refine h_run 1 (pc' := 68) (l' := [(0, .inr (.inr 1826))]) (st' := [.inl 16, .inl (H39.1 1826 19)]) rfl ?_
          refine h_ine (off := 8) (t := 76) rfl rfl (by omega) (by decide) (fun c53 => ?_) (fun c53 => ?_)
          · refine h_run 1 (pc' := 77) (l' := [(0, .inr (.inr 1826))]) (st' := [.inr (.inr 1826)]) rfl ?_
            refine h_cv (i := 293) (j := 158) (b := 1826) (M' := mt_158) (xs := []) (rest := []) rfl rfl rfl rfl rfl rfl (Nat.le_of_ble_eq_true rfl) (Nat.le_of_ble_eq_true rfl) (by omega) (m_good1 (by omega) (by omega : (H39.1 1826 35) = 0)) ?_
            rintro _ _ ⟨rfl, rfl⟩
            refine h_run 0 (pc' := 80) (l' := [(0, .inr (.inr 1826))]) (st' := [.inl 1]) rfl ?_
            refine h_zne (off := 4) (t := 84) rfl rfl (by decide) (fun _ => ?_) (fun c => absurd c (by decide))
            refine h_run 2 (pc' := 88) (l' := [(0, .inr (.inr 1826))]) (st' := [.inl (H39.1 1826 19)]) rfl ?_
            refine h_run 1 (pc' := 89) (l' := [(0, .inr (.inr 1826)), (1, .inl (H39.1 1826 19))]) (st' := []) rfl ?_
            obtain ⟨l, hl⟩ : ∃ k9 : Nat, (H39.1 1826 19) = (k9 : Int) := ⟨((H39.1 1826 19)).toNat, by omega⟩
            rw [show (H39.1 1826 19) = (l : Int) from hl]
            refine h_run 5 (pc' := 98) (l' := [(0, .inr (.inr 1826)), (1, .inl (l : Int))]) (st' := [.inr (.inl (H39.1 1826 33)), .inl (l : Int), .inr (.inr 1841)]) rfl ?_
            refine h_lst (c := 1841) (j := l) (i := (l : Int)) (x := (H39.1 1826 33)) rfl rfl (by decide) (by decide) rfl (by omega) (by first | omega | exact z_long _) ?_
            have hq3 : rch Y c0 ((1, 58, 0, 0) :: (2, -2, 0, 0) :: ((1, 61, 0, 0) :: (14, 0, 0, 0) :: ((15, 0, 0, 0) :: ((1, 59, 0, 0) :: (6, nn + 1, 0, 0) :: K))), (xl (adv X) l (tn Y (xi (adv X))))) := by rw [show l = (X 0 7).toNat by omega]; exact (rch_st hq (by show stDec Y nn K X = _; unfold stDec miss; (repeat (first | rw [if_pos (by omega)] | rw [if_neg (by omega)])); try rfl))
            refine h_run 1 (pc' := 100) (l' := [(0, .inr (.inr 1826)), (1, .inl (l : Int))]) (st' := [.inr (.inr 1826)]) rfl ?_
            have g54 : -2147483648 ≤ (H39.1 1826 30) ∧ (H39.1 1826 30) ≤ 2147483647 := hrg40.1 1826 13 30 _ .int rfl rfl
            have g55 : -2147483648 ≤ (H39.1 1826 29) ∧ (H39.1 1826 29) ≤ 2147483647 := hrg40.1 1826 13 29 _ .int rfl rfl
            have e56 : (H39.1 1826 29) = (H.1 1826 29) := hx39f.2.2 29 (by decide)
            have g57 : -2147483648 ≤ (H39.1 1826 32) ∧ (H39.1 1826 32) ≤ 2147483647 := hrg40.1 1826 13 32 _ .int rfl rfl
            refine h_cv (i := 297) (j := 165) (b := 1826) (M' := mt_165) (xs := []) (rest := []) rfl rfl rfl rfl rfl rfl (Nat.le_of_ble_eq_true rfl) (Nat.le_of_ble_eq_true rfl) (by omega) (n_nx (by omega) (by omega : 0 ≤ (H39.1 1826 30) ∧ (H39.1 1826 30) ≤ (H39.1 1826 29) ∧ (H39.1 1826 29) ≤ 1000) (by omega : 0 ≤ (H39.1 1826 35) ∧ (H39.1 1826 35) ≤ 5) (by omega : 0 ≤ (H39.1 1826 32) ∧ (H39.1 1826 32) ≤ 1000) (by omega : (H39.1 1826 35) = 0) (X := (xl (adv X) l (tn Y (xi (adv X))))) (RN_mk hR1 (fr_a (fr_rf [] [1841] H39) (by decide)) (by decide) (by decide) (xl_s _ _ _).1 (by rw [← RK_n hR1 (Or.inl (by omega))]; exact TA_ln hR1.2.2.2.2 (by omega))) hq3 (lk_1 (by decide))) ?_
            rintro _ H58 ⟨rfl, hx58n, hx58f, hx58a, hx58b, hx58c, -, hx58e, hx58g⟩
            refine h_rng (fun hrg59 => ?_)
            have hf60 : fr [30, 31, 32, 33, 35, 36, 19, 39, 40, 41, 43, 44, 47] [1841, 1842, 1843, 1844, 1845, 1846, 1847, 1849, 1850, 1851, 1852, 1853, 1854] H H58 := fr_t (fr_a hf41 (by decide)) hx58f (by decide) (by decide)
            have ha61 : agp H H58 := agp_tr (agp_a ha42 (by decide)) (agp_fr hx58f (by decide) (by decide))
            replace hx58a : (H39.1 1826 30) ≤ (H58.1 1826 30) := hx58a
            replace hx58b : (H58.1 1826 30) ≤ (H39.1 1826 29) := hx58b
            replace hx58g : (H58.1 1826 35) = 0 → ((H58.1 1826 31) = 0 ∨ (H39.1 1826 30) < (H58.1 1826 30)) := hx58g
            refine h_run 0 (pc' := 103) (l' := [(0, .inr (.inr 1826)), (1, .inl (l : Int))]) (st' := []) rfl ?_
            have g62 : -2147483648 ≤ (H58.1 1826 35) ∧ (H58.1 1826 35) ≤ 2147483647 := hrg59.1 1826 13 35 _ .int rfl rfl
            by_cases b63 : (H58.1 1826 35) = 0
            · skip
              replace hx58g := hx58g b63
              refine h_run 2 (pc' := 106) (l' := [(0, .inr (.inr 1826)), (1, .inl (l : Int))]) (st' := [.inl 58, .inr (.inr 1826)]) rfl ?_
              have g64 : -2147483648 ≤ (H58.1 1826 30) ∧ (H58.1 1826 30) ≤ 2147483647 := hrg59.1 1826 13 30 _ .int rfl rfl
              have g65 : -2147483648 ≤ (H58.1 1826 29) ∧ (H58.1 1826 29) ≤ 2147483647 := hrg59.1 1826 13 29 _ .int rfl rfl
              have e66 : (H58.1 1826 29) = (H39.1 1826 29) := hx58f.2.2 29 (by decide)
              have g67 : -2147483648 ≤ (H58.1 1826 31) ∧ (H58.1 1826 31) ≤ 2147483647 := hrg59.1 1826 13 31 _ .int rfl rfl
              have g69 : -2147483648 ≤ (H58.1 1826 32) ∧ (H58.1 1826 32) ≤ 2147483647 := hrg59.1 1826 13 32 _ .int rfl rfl
              refine h_cv (i := 313) (j := 166) (b := 1826) (M' := mt_166) (xs := [.inl 58]) (rest := []) rfl rfl rfl rfl rfl rfl (Nat.le_of_ble_eq_true rfl) (Nat.le_of_ble_eq_true rfl) (by omega) (n_want (by omega) (by omega : 0 ≤ (H58.1 1826 30) ∧ (H58.1 1826 30) ≤ (H58.1 1826 29) ∧ (H58.1 1826 29) ≤ 1000) (by omega : 0 ≤ (H58.1 1826 35) ∧ (H58.1 1826 35) ≤ 5) (by omega : 0 ≤ (H58.1 1826 32) ∧ (H58.1 1826 32) ≤ 1000) (by omega) (by omega : (H58.1 1826 35) = 0) (GB_g hx58n (by omega)) hq3 (lk_n (by decide))) ?_
              rintro _ H68 ⟨rfl, hx68n, hx68f, hx68a, hx68b, hx68c, -, hx68e, hx68g⟩
              refine h_rng (fun hrg70 => ?_)
              have hf71 : fr [30, 31, 32, 33, 35, 36, 19, 39, 40, 41, 43, 44, 47] [1841, 1842, 1843, 1844, 1845, 1846, 1847, 1849, 1850, 1851, 1852, 1853, 1854] H H68 := fr_t hf60 hx68f (by decide) (by decide)
              have ha72 : agp H H68 := agp_tr ha61 (agp_fr hx68f (by decide) (by decide))
              replace hx68a : (H58.1 1826 30) ≤ (H68.1 1826 30) := hx68a
              replace hx68b : (H68.1 1826 30) ≤ (H58.1 1826 29) := hx68b
              replace hx68g : (H68.1 1826 35) = 0 → (H58.1 1826 31) = (58 : Int) ∧ ((H68.1 1826 31) = 0 ∨ (H58.1 1826 30) < (H68.1 1826 30)) := hx68g
              refine h_run 0 (pc' := 109) (l' := [(0, .inr (.inr 1826)), (1, .inl (l : Int))]) (st' := []) rfl ?_
              have g73 : -2147483648 ≤ (H68.1 1826 35) ∧ (H68.1 1826 35) ≤ 2147483647 := hrg70.1 1826 13 35 _ .int rfl rfl
              by_cases b74 : (H68.1 1826 35) = 0
              · skip
                replace hx68g := hx68g b74
                refine h_run 1 (pc' := 110) (l' := [(0, .inr (.inr 1826)), (1, .inl (l : Int))]) (st' := [.inr (.inr 1826)]) rfl ?_
                refine h_cv (i := 379) (j := 185) (b := 1826) (M' := mt_185) (xs := []) (rest := []) rfl rfl rfl rfl rfl rfl (Nat.le_of_ble_eq_true rfl) (Nat.le_of_ble_eq_true rfl) (by omega) (m_beginTerm (by omega)) ?_
                rintro _ _ ⟨rfl, rfl⟩
                refine h_run 0 (pc' := 113) (l' := [(0, .inr (.inr 1826)), (1, .inl (l : Int))]) (st' := []) rfl ?_
                refine h_run 2 (pc' := 115) (l' := [(0, .inr (.inr 1826)), (1, .inl (l : Int))]) (st' := [.inl 2, .inr (.inr 1826)]) rfl ?_
                refine h_puti (i := 367) (ci := 13) (k := 44) (a := 1826) (x := 2) rfl rfl rfl rfl rfl rfl (by decide) (by decide) ?_
                refine h_run 1 (pc' := 119) (l' := [(0, .inr (.inr 1826)), (1, .inl (l : Int))]) (st' := [.inr (.inr 1826)]) rfl ?_
                refine h_cv (i := 293) (j := 158) (b := 1826) (M' := mt_158) (xs := []) (rest := []) rfl rfl rfl rfl rfl rfl (Nat.le_of_ble_eq_true rfl) (Nat.le_of_ble_eq_true rfl) (by omega) (m_good1 (by omega) (by omega : (H68.1 1826 35) = 0)) ?_
                rintro _ _ ⟨rfl, rfl⟩
                refine h_run 0 (pc' := 122) (l' := [(0, .inr (.inr 1826)), (1, .inl (l : Int))]) (st' := [.inl 1]) rfl ?_
                refine h_zeq (off := 11) (t := 133) rfl rfl (by decide) (fun c => absurd c (by decide)) (fun _ => ?_)
                refine h_run 2 (pc' := 127) (l' := [(0, .inr (.inr 1826)), (1, .inl (l : Int))]) (st' := [.inl (-1), .inr (.inr 1826)]) rfl ?_
                have g75 : -2147483648 ≤ (H68.1 1826 30) ∧ (H68.1 1826 30) ≤ 2147483647 := hrg70.1 1826 13 30 _ .int rfl rfl
                have g76 : -2147483648 ≤ (H68.1 1826 29) ∧ (H68.1 1826 29) ≤ 2147483647 := hrg70.1 1826 13 29 _ .int rfl rfl
                have e77 : (H68.1 1826 29) = (H58.1 1826 29) := hx68f.2.2 29 (by decide)
                have g78 : -2147483648 ≤ (H68.1 1826 1) ∧ (H68.1 1826 1) ≤ 2147483647 := hrg70.1 1826 13 1 _ .int rfl rfl
                have e79 : (H68.1 1826 1) = (H58.1 1826 1) := hx68f.2.2 1 (by decide)
                have e80 : (H58.1 1826 1) = (H39.1 1826 1) := hx58f.2.2 1 (by decide)
                have e81 : (H39.1 1826 1) = (H.1 1826 1) := hx39f.2.2 1 (by decide)
                have g82 : -2147483648 ≤ (H68.1 1826 8) ∧ (H68.1 1826 8) ≤ 2147483647 := hrg70.1 1826 13 8 _ .int rfl rfl
                have e83 : (H68.1 1826 8) = (H58.1 1826 8) := hx68f.2.2 8 (by decide)
                have e84 : (H58.1 1826 8) = (H39.1 1826 8) := hx58f.2.2 8 (by decide)
                have e85 : (H39.1 1826 8) = (H.1 1826 8) := hx39f.2.2 8 (by decide)
                have g87 : -2147483648 ≤ (H68.1 1826 3) ∧ (H68.1 1826 3) ≤ 2147483647 := hrg70.1 1826 13 3 _ .int rfl rfl
                have e88 : (H68.1 1826 3) = (H58.1 1826 3) := hx68f.2.2 3 (by decide)
                have e89 : (H58.1 1826 3) = (H39.1 1826 3) := hx58f.2.2 3 (by decide)
                have e90 : (H39.1 1826 3) = (H.1 1826 3) := hx39f.2.2 3 (by decide)
                have g91 : -2147483648 ≤ (H68.1 1826 13) ∧ (H68.1 1826 13) ≤ 2147483647 := hrg70.1 1826 13 13 _ .int rfl rfl
                have e92 : (H68.1 1826 13) = (H58.1 1826 13) := hx68f.2.2 13 (by decide)
                have e93 : (H58.1 1826 13) = (H39.1 1826 13) := hx58f.2.2 13 (by decide)
                have e94 : (H39.1 1826 13) = (H.1 1826 13) := hx39f.2.2 13 (by decide)
                have g95 : -2147483648 ≤ (H68.1 1826 19) ∧ (H68.1 1826 19) ≤ 2147483647 := hrg70.1 1826 13 19 _ .int rfl rfl
                have e96 : (H68.1 1826 19) = (H58.1 1826 19) := hx68f.2.2 19 (by decide)
                have e97 : (H58.1 1826 19) = (H39.1 1826 19) := hx58f.2.2 19 (by decide)
                have g98 : -2147483648 ≤ (H68.1 1826 32) ∧ (H68.1 1826 32) ≤ 2147483647 := hrg70.1 1826 13 32 _ .int rfl rfl
                obtain ⟨X4, hq4, hR4, hX4⟩ := GB_g hx68n (by omega)
                refine h_cv (i := 385) (j := 180) (b := 1826) (M' := mt_180) (xs := [.inl (-1)]) (rest := []) rfl rfl rfl rfl rfl rfl (Nat.le_of_ble_eq_true rfl) (Nat.le_of_ble_eq_true rfl) (by omega) (n_term (by omega) (by omega : 0 ≤ (H68.1 1826 30) ∧ (H68.1 1826 30) ≤ (H68.1 1826 29) ∧ (H68.1 1826 29) ≤ 1000) (by omega : 0 ≤ (H68.1 1826 35) ∧ (H68.1 1826 35) ≤ 5) (by omega : 0 ≤ (H68.1 1826 32) ∧ (H68.1 1826 32) ≤ 1000) (PWc_agp hP (agp_o (agp_o (agp_o (agp_o (agp_o ha72 (by decide)) (by decide)) (by decide)) (by decide)) (by decide)) ⟨(by omega : (H68.1 1826 1) = (H.1 1826 1)), (by omega : (H68.1 1826 3) = (H.1 1826 3)), (by omega : (H68.1 1826 8) = (H.1 1826 8)), (by omega : (H68.1 1826 13) = (H.1 1826 13)), (by omega : (H68.1 1826 19) = (H.1 1826 19))⟩) (by omega : 1 ≤ (2 : Int) ∧ (2 : Int) ≤ 3) (by omega : -1 ≤ (-1 : Int) ∧ (-1 : Int) < (H68.1 1826 1)) (by omega : 0 ≤ (0 : Int) ∧ (0 : Int) ≤ 10) (fun _ => ⟨rfl, rfl, rfl, (by omega : 0 ≤ (0 : Int) ∧ (0 : Int) ≤ 39 ∧ ((2 : Int) = 2 → (0 : Int) ≤ 6)), fun _ v hv => absurd (id hv : (v : Int) < 0) (by omega)⟩) (by omega : (H68.1 1826 35) = 0) (RK_fr hR4 (fr_o (fr_o (fr_o (fr_o (fr_o (fr_rf [39, 40, 41, 43, 44] [] H68) (by decide)) (by decide)) (by decide)) (by decide)) (by decide)) (by decide) (by decide)) (by rw [hX4]; exact VR_law rfl rfl rfl) (by omega : (H68.1 1826 8) = m) (e := -2) (by omega : ((2 : Int) = 2 ∧ (-2 : Int) = -2) ∨ ((2 : Int) ≠ 2 ∧ (-2 : Int) = -1)) hq4 (lk_1 (by decide))) ?_
                rintro _ H86 ⟨⟨hx86r, rfl, hx86x, hx86y, hx86n⟩, hx86f, hx86a, hx86c, -, hx86e, hx86v, hx86p⟩
                refine h_rng (fun hrg99 => ?_)
                have hf100 : fr [30, 31, 32, 33, 35, 36, 19, 39, 40, 41, 43, 44, 47] [1841, 1842, 1843, 1844, 1845, 1846, 1847, 1849, 1850, 1851, 1852, 1853, 1854] H H86 := fr_t (fr_o (fr_o (fr_o (fr_o (fr_o hf71 (by decide)) (by decide)) (by decide)) (by decide)) (by decide)) hx86f (by decide) (by decide)
                have ha101 : agp H H86 := agp_tr (agp_o (agp_o (agp_o (agp_o (agp_o ha72 (by decide)) (by decide)) (by decide)) (by decide)) (by decide)) (agp_fr hx86f (by decide) (by decide))
                replace hx86y : hx86r < (H68.1 1826 1) := hx86y
                replace hx86a : (H68.1 1826 30) ≤ (H86.1 1826 30) ∧ (H86.1 1826 30) ≤ (H68.1 1826 29) := hx86a
                replace hx86v : ((2 : Int) ≠ 2 → (H86.1 1826 39) = (0 : Int)) ∧ (0 : Int) ≤ (H86.1 1826 39) := hx86v
                have hx86k : (H86.1 1826 35) = 0 → 0 ≤ (H86.1 1826 43) ∧ (H86.1 1826 43) ≤ 40 := fun q9 => by obtain ⟨⟨k9, h9, h8, -⟩, -⟩ := hx86p q9; omega
                have hx86w : (H86.1 1826 35) = 0 → 0 ≤ (H86.1 1826 39) ∧ (H86.1 1826 39) ≤ 39 ∧ ((H86.1 1826 44) = 2 → (H86.1 1826 39) ≤ 6) := fun q9 => (TT_vars (hx86p q9).2).1
                refine h_run 0 (pc' := 130) (l' := [(0, .inr (.inr 1826)), (1, .inl (l : Int))]) (st' := [.inl hx86r]) rfl ?_
                refine h_run 1 (pc' := 134) (l' := [(0, .inr (.inr 1826)), (1, .inl (l : Int))]) (st' := [.inl hx86r]) rfl ?_
                have g102 : -2147483648 ≤ (H86.1 1826 35) ∧ (H86.1 1826 35) ≤ 2147483647 := hrg99.1 1826 13 35 _ .int rfl rfl
                by_cases b103 : (H86.1 1826 35) = 0
                · skip
                  replace hx86k := hx86k b103
                  replace hx86w := hx86w b103
                  refine h_run 1 (pc' := 135) (l' := [(0, .inr (.inr 1826)), (1, .inl (l : Int)), (2, .inl hx86r)]) (st' := []) rfl ?_
                  obtain ⟨X5, hq5, hR5, hV5, hF5, hs5⟩ := GB_g hx86n (by omega)
                  have hnm5 := TT_nm (hx86p (by omega)).2 (hx86p (by omega)).1
                  have hv51 := hV5.1
                  have hth5 := FI_g hF5 rfl (by omega) (by omega)
                  refine h_run 4 (pc' := 139) (l' := [(0, .inr (.inr 1826)), (1, .inl (l : Int)), (2, .inl hx86r)]) (st' := [.inl (2 * (l : Int)), .inr (.inr 1826)]) rfl ?_
                  have g104 : -2147483648 ≤ (H86.1 1826 43) ∧ (H86.1 1826 43) ≤ 2147483647 := hrg99.1 1826 13 43 _ .int rfl rfl
                  have g105 : -2147483648 ≤ (H86.1 1826 19) ∧ (H86.1 1826 19) ≤ 2147483647 := hrg99.1 1826 13 19 _ .int rfl rfl
                  have e106 : (H86.1 1826 19) = (H68.1 1826 19) := hx86f.2.2 19 (by decide)
                  rw [show (2 * (l : Int)) = ((2 * l : Nat) : Int) by omega]
                  refine h_cv (i := 390) (j := 188) (b := 1826) (M' := mt_188) (xs := [.inl ((2 * l : Nat) : Int)]) (rest := []) rfl rfl rfl rfl rfl rfl (Nat.le_of_ble_eq_true rfl) (Nat.le_of_ble_eq_true rfl) (by omega) (m_keepSide (by omega) (s := 2 * l) (by omega : 2 * (H86.1 1826 19) ≤ ((2 * l : Nat) : Int) ∧ 2 * l ≤ 31) (by omega : (H86.1 1826 35) = 0 → 0 ≤ (H86.1 1826 43) ∧ (H86.1 1826 43) ≤ 40)) ?_
                  rintro _ H107 ⟨rfl, hx107f, hx107g, hx107z, hx107b, hx107c⟩
                  refine h_rng (fun hrg108 => ?_)
                  have hf109 : fr [30, 31, 32, 33, 35, 36, 19, 39, 40, 41, 43, 44, 47] [1841, 1842, 1843, 1844, 1845, 1846, 1847, 1849, 1850, 1851, 1852, 1853, 1854] H H107 := fr_t hf100 hx107f (by decide) (by decide)
                  have ha110 : agp H H107 := agp_tr ha101 hx107g
                  replace hx107c : hid _ := hx107c
                  refine h_run 0 (pc' := 142) (l' := [(0, .inr (.inr 1826)), (1, .inl (l : Int)), (2, .inl hx86r)]) (st' := []) rfl ?_
                  replace hR5 := RK_fr hR5 hx107f (by decide) (by decide)
                  replace hV5 := VR_eq (K := H107) hV5 (hx107f.2.2 40 (by decide)) (hx107f.2.2 44 (by decide)) (hx107f.2.2 39 (by decide)) (hx107f.2.1 1849 (by decide) (by decide)) (hx107f.2.1 1850 (by decide) (by decide))
                  refine h_run 2 (pc' := 145) (l' := [(0, .inr (.inr 1826)), (1, .inl (l : Int)), (2, .inl hx86r)]) (st' := [.inl 61, .inr (.inr 1826)]) rfl ?_
                  have g111 : -2147483648 ≤ (H107.1 1826 35) ∧ (H107.1 1826 35) ≤ 2147483647 := hrg108.1 1826 13 35 _ .int rfl rfl
                  have e112 : (H107.1 1826 35) = (H86.1 1826 35) := hx107f.2.2 35 (by decide)
                  have g113 : -2147483648 ≤ (H107.1 1826 30) ∧ (H107.1 1826 30) ≤ 2147483647 := hrg108.1 1826 13 30 _ .int rfl rfl
                  have e114 : (H107.1 1826 30) = (H86.1 1826 30) := hx107f.2.2 30 (by decide)
                  have g115 : -2147483648 ≤ (H107.1 1826 29) ∧ (H107.1 1826 29) ≤ 2147483647 := hrg108.1 1826 13 29 _ .int rfl rfl
                  have e116 : (H107.1 1826 29) = (H86.1 1826 29) := hx107f.2.2 29 (by decide)
                  have e117 : (H86.1 1826 29) = (H68.1 1826 29) := hx86f.2.2 29 (by decide)
                  have g118 : -2147483648 ≤ (H107.1 1826 31) ∧ (H107.1 1826 31) ≤ 2147483647 := hrg108.1 1826 13 31 _ .int rfl rfl
                  have e119 : (H107.1 1826 31) = (H86.1 1826 31) := hx107f.2.2 31 (by decide)
                  have g121 : -2147483648 ≤ (H107.1 1826 32) ∧ (H107.1 1826 32) ≤ 2147483647 := hrg108.1 1826 13 32 _ .int rfl rfl
                  have e122 : (H107.1 1826 32) = (H86.1 1826 32) := hx107f.2.2 32 (by decide)
                  refine h_cv (i := 313) (j := 166) (b := 1826) (M' := mt_166) (xs := [.inl 61]) (rest := []) rfl rfl rfl rfl rfl rfl (Nat.le_of_ble_eq_true rfl) (Nat.le_of_ble_eq_true rfl) (by omega) (n_want (by omega) (by omega : 0 ≤ (H107.1 1826 30) ∧ (H107.1 1826 30) ≤ (H107.1 1826 29) ∧ (H107.1 1826 29) ≤ 1000) (by omega : 0 ≤ (H107.1 1826 35) ∧ (H107.1 1826 35) ≤ 5) (by omega : 0 ≤ (H107.1 1826 32) ∧ (H107.1 1826 32) ≤ 1000) (by omega) (by omega : (H107.1 1826 35) = 0) hR5 hq5 (lk_c (lk_c (lk_1 (by decide)) (by decide : (15 : Nat) ≠ 0) (fun q => absurd q (by decide : (15 : Nat) ≠ 1))) (by decide : (14 : Nat) ≠ 0) (fun q => absurd q (by decide : (14 : Nat) ≠ 1)))) ?_
                  rintro _ H120 ⟨rfl, hx120n, hx120f, hx120a, hx120b, hx120c, -, hx120e, hx120g⟩
                  refine h_rng (fun hrg123 => ?_)
                  have hf124 : fr [30, 31, 32, 33, 35, 36, 19, 39, 40, 41, 43, 44, 47] [1841, 1842, 1843, 1844, 1845, 1846, 1847, 1849, 1850, 1851, 1852, 1853, 1854] H H120 := fr_t hf109 hx120f (by decide) (by decide)
                  have ha125 : agp H H120 := agp_tr ha110 (agp_fr hx120f (by decide) (by decide))
                  replace hx120a : (H107.1 1826 30) ≤ (H120.1 1826 30) := hx120a
                  replace hx120b : (H120.1 1826 30) ≤ (H107.1 1826 29) := hx120b
                  replace hx120g : (H120.1 1826 35) = 0 → (H107.1 1826 31) = (61 : Int) ∧ ((H120.1 1826 31) = 0 ∨ (H107.1 1826 30) < (H120.1 1826 30)) := hx120g
                  refine h_run 0 (pc' := 148) (l' := [(0, .inr (.inr 1826)), (1, .inl (l : Int)), (2, .inl hx86r)]) (st' := []) rfl ?_
                  have g126 : -2147483648 ≤ (H120.1 1826 35) ∧ (H120.1 1826 35) ≤ 2147483647 := hrg123.1 1826 13 35 _ .int rfl rfl
                  by_cases b127 : (H120.1 1826 35) = 0
                  · skip
                    replace hx120g := hx120g b127
                    refine h_run 2 (pc' := 150) (l' := [(0, .inr (.inr 1826)), (1, .inl (l : Int)), (2, .inl hx86r)]) (st' := [.inl 0, .inr (.inr 1826)]) rfl ?_
                    refine h_puti (i := 300) (ci := 13) (k := 40) (a := 1826) (x := 0) rfl rfl rfl rfl rfl rfl (by decide) (by decide) ?_
                    refine h_run 2 (pc' := 155) (l' := [(0, .inr (.inr 1826)), (1, .inl (l : Int)), (2, .inl hx86r)]) (st' := [.inl 0, .inr (.inr 1826)]) rfl ?_
                    refine h_puti (i := 335) (ci := 13) (k := 41) (a := 1826) (x := 0) rfl rfl rfl rfl rfl rfl (by decide) (by decide) ?_
                    refine h_run 2 (pc' := 160) (l' := [(0, .inr (.inr 1826)), (1, .inl (l : Int)), (2, .inl hx86r)]) (st' := [.inl 0, .inr (.inr 1826)]) rfl ?_
                    refine h_puti (i := 303) (ci := 13) (k := 43) (a := 1826) (x := 0) rfl rfl rfl rfl rfl rfl (by decide) (by decide) ?_
                    refine h_run 1 (pc' := 164) (l' := [(0, .inr (.inr 1826)), (1, .inl (l : Int)), (2, .inl hx86r)]) (st' := [.inr (.inr 1826)]) rfl ?_
                    refine h_cv (i := 293) (j := 158) (b := 1826) (M' := mt_158) (xs := []) (rest := []) rfl rfl rfl rfl rfl rfl (Nat.le_of_ble_eq_true rfl) (Nat.le_of_ble_eq_true rfl) (by omega) (m_good1 (by omega) (by omega : (H120.1 1826 35) = 0)) ?_
                    rintro _ _ ⟨rfl, rfl⟩
                    refine h_run 0 (pc' := 167) (l' := [(0, .inr (.inr 1826)), (1, .inl (l : Int)), (2, .inl hx86r)]) (st' := [.inl 1]) rfl ?_
                    refine h_zeq (off := 11) (t := 178) rfl rfl (by decide) (fun c => absurd c (by decide)) (fun _ => ?_)
                    have g128 : -2147483648 ≤ (H120.1 1826 44) ∧ (H120.1 1826 44) ≤ 2147483647 := hrg123.1 1826 13 44 _ .int rfl rfl
                    have e129 : (H120.1 1826 44) = (H107.1 1826 44) := hx120f.2.2 44 (by decide)
                    have e130 : (H107.1 1826 44) = (H86.1 1826 44) := hx107f.2.2 44 (by decide)
                    have e131 : (H86.1 1826 44) = 2 := hx86f.2.2 44 (by decide)
                    have g132 : -2147483648 ≤ (H120.1 1826 39) ∧ (H120.1 1826 39) ≤ 2147483647 := hrg123.1 1826 13 39 _ .int rfl rfl
                    have e133 : (H120.1 1826 39) = (H107.1 1826 39) := hx120f.2.2 39 (by decide)
                    have e134 : (H107.1 1826 39) = (H86.1 1826 39) := hx107f.2.2 39 (by decide)
                    have g135 : -2147483648 ≤ (H120.1 1826 1) ∧ (H120.1 1826 1) ≤ 2147483647 := hrg123.1 1826 13 1 _ .int rfl rfl
                    have e136 : (H120.1 1826 1) = (H107.1 1826 1) := hx120f.2.2 1 (by decide)
                    have e137 : (H107.1 1826 1) = (H86.1 1826 1) := hx107f.2.2 1 (by decide)
                    have e138 : (H86.1 1826 1) = (H68.1 1826 1) := hx86f.2.2 1 (by decide)
                    have hvt8 : ∀ v : Nat, (v : Int) < (H120.1 1826 39) → 0 ≤ (H120.1 1850) v ∧ (H120.1 1850) v < (H120.1 1826 1) := fun v hv => by rw [show (H120.1 1850) = (H86.1 1850) from (hx120f.2.1 1850 (by decide) (by decide)).trans (hx107f.2.1 1850 (by decide) (by decide)), show (H120.1 1826 1) = (H86.1 1826 1) from (hx120f.2.2 1 (by decide)).trans (hx107f.2.2 1 (by decide))]; exact (TT_vars (hx86p (by omega)).2).2 (by omega) v (by omega)
                    refine h_run 2 (pc' := 172) (l' := [(0, .inr (.inr 1826)), (1, .inl (l : Int)), (2, .inl hx86r)]) (st' := [.inl hx86r, .inr (.inr 1826)]) rfl ?_
                    have g139 : -2147483648 ≤ (H120.1 1826 30) ∧ (H120.1 1826 30) ≤ 2147483647 := hrg123.1 1826 13 30 _ .int rfl rfl
                    have g140 : -2147483648 ≤ (H120.1 1826 29) ∧ (H120.1 1826 29) ≤ 2147483647 := hrg123.1 1826 13 29 _ .int rfl rfl
                    have e141 : (H120.1 1826 29) = (H107.1 1826 29) := hx120f.2.2 29 (by decide)
                    have g142 : -2147483648 ≤ (H120.1 1826 8) ∧ (H120.1 1826 8) ≤ 2147483647 := hrg123.1 1826 13 8 _ .int rfl rfl
                    have e143 : (H120.1 1826 8) = (H107.1 1826 8) := hx120f.2.2 8 (by decide)
                    have e144 : (H107.1 1826 8) = (H86.1 1826 8) := hx107f.2.2 8 (by decide)
                    have e145 : (H86.1 1826 8) = (H68.1 1826 8) := hx86f.2.2 8 (by decide)
                    have g147 : -2147483648 ≤ (H120.1 1826 3) ∧ (H120.1 1826 3) ≤ 2147483647 := hrg123.1 1826 13 3 _ .int rfl rfl
                    have e148 : (H120.1 1826 3) = (H107.1 1826 3) := hx120f.2.2 3 (by decide)
                    have e149 : (H107.1 1826 3) = (H86.1 1826 3) := hx107f.2.2 3 (by decide)
                    have e150 : (H86.1 1826 3) = (H68.1 1826 3) := hx86f.2.2 3 (by decide)
                    have g151 : -2147483648 ≤ (H120.1 1826 13) ∧ (H120.1 1826 13) ≤ 2147483647 := hrg123.1 1826 13 13 _ .int rfl rfl
                    have e152 : (H120.1 1826 13) = (H107.1 1826 13) := hx120f.2.2 13 (by decide)
                    have e153 : (H107.1 1826 13) = (H86.1 1826 13) := hx107f.2.2 13 (by decide)
                    have e154 : (H86.1 1826 13) = (H68.1 1826 13) := hx86f.2.2 13 (by decide)
                    have g155 : -2147483648 ≤ (H120.1 1826 19) ∧ (H120.1 1826 19) ≤ 2147483647 := hrg123.1 1826 13 19 _ .int rfl rfl
                    have e156 : (H120.1 1826 19) = (H107.1 1826 19) := hx120f.2.2 19 (by decide)
                    have e157 : (H107.1 1826 19) = (H86.1 1826 19) := hx107f.2.2 19 (by decide)
                    have g158 : -2147483648 ≤ (H120.1 1826 32) ∧ (H120.1 1826 32) ≤ 2147483647 := hrg123.1 1826 13 32 _ .int rfl rfl
                    obtain ⟨X6, hq6, hR6, hX6⟩ := GB_g hx120n (by omega)
                    have hV6 : VR H120 X6 := by rw [hX6]; exact VR_adv hV5 (hx120f.2.2 40 (by decide)) (hx120f.2.2 44 (by decide)) (hx120f.2.2 39 (by decide)) (hx120f.2.1 1849 (by decide) (by decide)) (hx120f.2.1 1850 (by decide) (by decide))
                    have hme6 := me_or (-2) hx86r
                    have hth6 : thd X6 = hx86r := by rw [hX6]; exact hth5.2
                    refine h_cv (i := 385) (j := 180) (b := 1826) (M' := mt_180) (xs := [.inl hx86r]) (rest := []) rfl rfl rfl rfl rfl rfl (Nat.le_of_ble_eq_true rfl) (Nat.le_of_ble_eq_true rfl) (by omega) (n_term (by omega) (by omega : 0 ≤ (H120.1 1826 30) ∧ (H120.1 1826 30) ≤ (H120.1 1826 29) ∧ (H120.1 1826 29) ≤ 1000) (by omega : 0 ≤ (H120.1 1826 35) ∧ (H120.1 1826 35) ≤ 5) (by omega : 0 ≤ (H120.1 1826 32) ∧ (H120.1 1826 32) ≤ 1000) (PWc_agp hP (agp_o (agp_o (agp_o ha125 (by decide)) (by decide)) (by decide)) ⟨(by omega : (H120.1 1826 1) = (H.1 1826 1)), (by omega : (H120.1 1826 3) = (H.1 1826 3)), (by omega : (H120.1 1826 8) = (H.1 1826 8)), (by omega : (H120.1 1826 13) = (H.1 1826 13)), (by omega : (H120.1 1826 19) = (H.1 1826 19))⟩) (by omega : 1 ≤ (H120.1 1826 44) ∧ (H120.1 1826 44) ≤ 3) (by omega : -1 ≤ hx86r ∧ hx86r < (H120.1 1826 1)) (by omega : 0 ≤ (0 : Int) ∧ (0 : Int) ≤ 10) (fun _ => ⟨rfl, rfl, rfl, (by omega : 0 ≤ (H120.1 1826 39) ∧ (H120.1 1826 39) ≤ 39 ∧ ((H120.1 1826 44) = 2 → (H120.1 1826 39) ≤ 6)), fun _ => hvt8⟩) (by omega : (H120.1 1826 35) = 0) (RK_fr (RK_sT hR6 (x02 X6).2.2.2.2.2.2 (x02 X6).1) (fr_o (fr_o (fr_o (fr_rf [40, 41, 43] [] H120) (by decide)) (by decide)) (by decide)) (by decide) (by decide)) (VR_VR hV6 rfl rfl rfl rfl rfl) (by omega : (H120.1 1826 8) = m) (e := -2) (by omega : ((H120.1 1826 44) = 2 ∧ (-2 : Int) = -2) ∨ ((H120.1 1826 44) ≠ 2 ∧ (-2 : Int) = -1)) (by rw [show me (-2) hx86r = thd X6 from (by omega)]; exact rch_st hq6 rfl) (lk_c (lk_1 (by decide)) (by decide : (15 : Nat) ≠ 0) (fun q => absurd q (by decide : (15 : Nat) ≠ 1)))) ?_
                    rintro _ H146 ⟨⟨hx146r, rfl, hx146x, hx146y, hx146n⟩, hx146f, hx146a, hx146c, -, hx146e, hx146v, hx146p⟩
                    refine h_rng (fun hrg159 => ?_)
                    have hf160 : fr [30, 31, 32, 33, 35, 36, 19, 39, 40, 41, 43, 44, 47] [1841, 1842, 1843, 1844, 1845, 1846, 1847, 1849, 1850, 1851, 1852, 1853, 1854] H H146 := fr_t (fr_o (fr_o (fr_o hf124 (by decide)) (by decide)) (by decide)) hx146f (by decide) (by decide)
                    have ha161 : agp H H146 := agp_tr (agp_o (agp_o (agp_o ha125 (by decide)) (by decide)) (by decide)) (agp_fr hx146f (by decide) (by decide))
                    replace hx146y : hx146r < (H120.1 1826 1) := hx146y
                    replace hx146a : (H120.1 1826 30) ≤ (H146.1 1826 30) ∧ (H146.1 1826 30) ≤ (H120.1 1826 29) := hx146a
                    replace hx146v : ((H120.1 1826 44) ≠ 2 → (H146.1 1826 39) = (H120.1 1826 39)) ∧ (H120.1 1826 39) ≤ (H146.1 1826 39) := hx146v
                    have hx146k : (H146.1 1826 35) = 0 → 0 ≤ (H146.1 1826 43) ∧ (H146.1 1826 43) ≤ 40 := fun q9 => by obtain ⟨⟨k9, h9, h8, -⟩, -⟩ := hx146p q9; omega
                    have hx146w : (H146.1 1826 35) = 0 → 0 ≤ (H146.1 1826 39) ∧ (H146.1 1826 39) ≤ 39 ∧ ((H146.1 1826 44) = 2 → (H146.1 1826 39) ≤ 6) := fun q9 => (TT_vars (hx146p q9).2).1
                    refine h_run 0 (pc' := 175) (l' := [(0, .inr (.inr 1826)), (1, .inl (l : Int)), (2, .inl hx86r)]) (st' := [.inl hx146r]) rfl ?_
                    refine h_run 1 (pc' := 179) (l' := [(0, .inr (.inr 1826)), (1, .inl (l : Int)), (2, .inl hx86r)]) (st' := [.inl hx146r]) rfl ?_
                    have g162 : -2147483648 ≤ (H146.1 1826 35) ∧ (H146.1 1826 35) ≤ 2147483647 := hrg159.1 1826 13 35 _ .int rfl rfl
                    by_cases b163 : (H146.1 1826 35) = 0
                    · skip
                      replace hx146k := hx146k b163
                      replace hx146w := hx146w b163
                      refine h_run 7 (pc' := 186) (l' := [(0, .inr (.inr 1826)), (1, .inl (l : Int)), (2, .inl hx86r), (3, .inl hx146r)]) (st' := [.inl ((2 * (l : Int)) + 1), .inr (.inr 1826)]) rfl ?_
                      have g164 : -2147483648 ≤ (H146.1 1826 43) ∧ (H146.1 1826 43) ≤ 2147483647 := hrg159.1 1826 13 43 _ .int rfl rfl
                      have g165 : -2147483648 ≤ (H146.1 1826 19) ∧ (H146.1 1826 19) ≤ 2147483647 := hrg159.1 1826 13 19 _ .int rfl rfl
                      have e166 : (H146.1 1826 19) = (H120.1 1826 19) := hx146f.2.2 19 (by decide)
                      rw [show ((2 * (l : Int)) + 1) = ((2 * l + 1 : Nat) : Int) by omega]
                      refine h_cv (i := 390) (j := 188) (b := 1826) (M' := mt_188) (xs := [.inl ((2 * l + 1 : Nat) : Int)]) (rest := []) rfl rfl rfl rfl rfl rfl (Nat.le_of_ble_eq_true rfl) (Nat.le_of_ble_eq_true rfl) (by omega) (m_keepSide (by omega) (s := 2 * l + 1) (by omega : 2 * (H146.1 1826 19) ≤ ((2 * l + 1 : Nat) : Int) ∧ 2 * l + 1 ≤ 31) (by omega : (H146.1 1826 35) = 0 → 0 ≤ (H146.1 1826 43) ∧ (H146.1 1826 43) ≤ 40)) ?_
                      rintro _ H167 ⟨rfl, hx167f, hx167g, hx167z, hx167b, hx167c⟩
                      refine h_rng (fun hrg168 => ?_)
                      have hf169 : fr [30, 31, 32, 33, 35, 36, 19, 39, 40, 41, 43, 44, 47] [1841, 1842, 1843, 1844, 1845, 1846, 1847, 1849, 1850, 1851, 1852, 1853, 1854] H H167 := fr_t hf160 hx167f (by decide) (by decide)
                      have ha170 : agp H H167 := agp_tr ha161 hx167g
                      replace hx167c : hid _ := hx167c
                      refine h_run 0 (pc' := 189) (l' := [(0, .inr (.inr 1826)), (1, .inl (l : Int)), (2, .inl hx86r), (3, .inl hx146r)]) (st' := []) rfl ?_
                      obtain ⟨X7, hq7, hR7, hV7, hF7, hs7⟩ := GB_g hx146n (by omega)
                      replace hR7 := RK_fr hR7 hx167f (by decide) (by decide)
                      have hx12 : X7 12 = up (adv X 12) l (tn Y (xi (adv X))) := by rw [hs7.2.1, (x02 X6).2.2.2.2.2.2.2.1, hX6, (sT_adv X5).2.1, hs5.2.1, hX4, (sT_adv _).2.1, (xl_s _ _ _).2.2.2.2.1]
                      have hln : (H167.1 1841) l = X7 12 l := by rw [hx12, up_eq, ← RK_n hR1 (Or.inl (by omega)), show (H167.1 1841) = _ from (((((((hx167f.2.1 1841 (by decide) (by decide)).trans (hx146f.2.1 1841 (by decide) (by decide))).trans (hx120f.2.1 1841 (by decide) (by decide))).trans (hx107f.2.1 1841 (by decide) (by decide))).trans (hx86f.2.1 1841 (by decide) (by decide))).trans (hx68f.2.1 1841 (by decide) (by decide))).trans (hx58f.2.1 1841 (by decide) (by decide)))]; exact up_eq _ _ _
                      refine h_run 1 (pc' := 190) (l' := [(0, .inr (.inr 1826)), (1, .inl (l : Int)), (2, .inl hx86r), (3, .inl hx146r)]) (st' := [.inr (.inr 1826)]) rfl ?_
                      have g171 : -2147483648 ≤ (H167.1 1826 35) ∧ (H167.1 1826 35) ≤ 2147483647 := hrg168.1 1826 13 35 _ .int rfl rfl
                      have e172 : (H167.1 1826 35) = (H146.1 1826 35) := hx167f.2.2 35 (by decide)
                      refine h_cv (i := 293) (j := 158) (b := 1826) (M' := mt_158) (xs := []) (rest := []) rfl rfl rfl rfl rfl rfl (Nat.le_of_ble_eq_true rfl) (Nat.le_of_ble_eq_true rfl) (by omega) (m_good1 (by omega) (by omega : (H167.1 1826 35) = 0)) ?_
                      rintro _ _ ⟨rfl, rfl⟩
                      refine h_run 0 (pc' := 193) (l' := [(0, .inr (.inr 1826)), (1, .inl (l : Int)), (2, .inl hx86r), (3, .inl hx146r)]) (st' := [.inl 1]) rfl ?_
                      refine h_zeq (off := 83) (t := 276) rfl rfl (by decide) (fun c => absurd c (by decide)) (fun _ => ?_)
                      have g173 : -2147483648 ≤ (H167.1 1826 44) ∧ (H167.1 1826 44) ≤ 2147483647 := hrg168.1 1826 13 44 _ .int rfl rfl
                      have e174 : (H167.1 1826 44) = (H146.1 1826 44) := hx167f.2.2 44 (by decide)
                      have e175 : (H146.1 1826 44) = (H120.1 1826 44) := hx146f.2.2 44 (by decide)
                      have g176 : -2147483648 ≤ (H167.1 1826 39) ∧ (H167.1 1826 39) ≤ 2147483647 := hrg168.1 1826 13 39 _ .int rfl rfl
                      have e177 : (H167.1 1826 39) = (H146.1 1826 39) := hx167f.2.2 39 (by decide)
                      have g178 : -2147483648 ≤ (H167.1 1826 1) ∧ (H167.1 1826 1) ≤ 2147483647 := hrg168.1 1826 13 1 _ .int rfl rfl
                      have e179 : (H167.1 1826 1) = (H146.1 1826 1) := hx167f.2.2 1 (by decide)
                      have e180 : (H146.1 1826 1) = (H120.1 1826 1) := hx146f.2.2 1 (by decide)
                      have g181 : -2147483648 ≤ (H167.1 1826 19) ∧ (H167.1 1826 19) ≤ 2147483647 := hrg168.1 1826 13 19 _ .int rfl rfl
                      have e182 : (H167.1 1826 19) = (H146.1 1826 19) := hx167f.2.2 19 (by decide)
                      have gk2 : (H146.1 1826 35) = 0 := by omega
                      have gk1 : (H86.1 1826 35) = 0 := by omega
                      obtain ⟨⟨k0, p1, p2, p3⟩, pT1⟩ := hx86p gk1
                      obtain ⟨⟨k1, q1, q2, q3⟩, qT2⟩ := hx146p gk2
                      have hs0 := LS_fr (LS_keep hx107f hx107z (hx107c gk1) p1 p2 p3) hx120f (by decide) (by decide)
                      have hs1 := LS_keep2 (LS_fr (id hs0 : LSd (zu (zu (zu H120 1826 (up (H120.1 1826) 40 0)) 1826 (up ((zu H120 1826 (up (H120.1 1826) 40 0)).1 1826) 41 0)) 1826 (up ((zu (zu H120 1826 (up (H120.1 1826) 40 0)) 1826 (up ((zu H120 1826 (up (H120.1 1826) 40 0)).1 1826) 41 0)).1 1826) 43 0)) _ _ _) hx146f (by decide) (by decide)) hx167f hx167z hx167b (by omega)
                      have hs2 := LS_keep hx167f hx167z (hx167c gk2) q1 q2 q3
                      have hvt := (TT_vars qT2).2 (by omega)
                      have hv9 : (H146.1 1826 39) = (((H167.1 1826 39)).toNat : Int) := by omega
                      have hs3 : LSd H167 (2 * l) k0 (((H167.1 1826 39)).toNat : Int) := LS_mono hs1 (by omega)
                      rw [hv9] at hs2
                      have hvt9 : ∀ x : Nat, (x : Int) < (H167.1 1826 39) → 0 ≤ (H167.1 1850) x ∧ (H167.1 1850) x < (H167.1 1826 1) := fun x hx => by rw [show (H167.1 1850) = (H146.1 1850) from (hx167f.2.1 1850 (by decide) (by decide)), show (H167.1 1826 1) = (H146.1 1826 1) from (hx167f.2.2 1 (by decide))]; exact hvt x (by omega)
                      refine h_run 5 (pc' := 203) (l' := [(0, .inr (.inr 1826)), (1, .inl (l : Int)), (2, .inl hx86r), (3, .inl hx146r)]) (st' := [.inl (-1), .inl hx86r, .inl (l : Int), .inr (.inr 1844)]) rfl ?_
                      refine h_ieq (off := 7) (t := 210) rfl rfl (by omega) (by decide) (fun c183 => ?_) (fun c183 => ?_)
                      · refine h_run 1 (pc' := 211) (l' := [(0, .inr (.inr 1826)), (1, .inl (l : Int)), (2, .inl hx86r), (3, .inl hx146r)]) (st' := [.inl hx146r, .inl (l : Int), .inr (.inr 1844)]) rfl ?_
                        refine h_ist (c := 1844) (j := l) (i := (l : Int)) (x := hx146r) rfl rfl (by decide) (by decide) rfl (by omega) (by omega) ?_
                        refine h_run 5 (pc' := 221) (l' := [(0, .inr (.inr 1826)), (1, .inl (l : Int)), (2, .inl hx86r), (3, .inl hx146r)]) (st' := [.inl (H167.1 1826 39), .inl (l : Int), .inr (.inr 1845)]) rfl ?_
                        refine h_ist (c := 1845) (j := l) (i := (l : Int)) (x := (H167.1 1826 39)) rfl rfl (by decide) (by decide) rfl (by omega) (by omega) ?_
                        refine h_run 2 (pc' := 225) (l' := [(0, .inr (.inr 1826)), (1, .inl (l : Int)), (2, .inl hx86r), (3, .inl hx146r), (4, .inl 0)]) (st' := []) rfl ?_
                        have g184 : -2147483648 ≤ (H167.1 1826 30) ∧ (H167.1 1826 30) ≤ 2147483647 := hrg168.1 1826 13 30 _ .int rfl rfl
                        have e185 : (H167.1 1826 30) = (H146.1 1826 30) := hx167f.2.2 30 (by decide)
                        have g186 : -2147483648 ≤ (H167.1 1826 32) ∧ (H167.1 1826 32) ≤ 2147483647 := hrg168.1 1826 13 32 _ .int rfl rfl
                        have e187 : (H167.1 1826 32) = (H146.1 1826 32) := hx167f.2.2 32 (by decide)
                        have g188 : -2147483648 ≤ (H167.1 1826 31) ∧ (H167.1 1826 31) ≤ 2147483647 := hrg168.1 1826 13 31 _ .int rfl rfl
                        have e189 : (H167.1 1826 31) = (H146.1 1826 31) := hx167f.2.2 31 (by decide)
                        have g190 : -2147483648 ≤ (H167.1 1826 29) ∧ (H167.1 1826 29) ≤ 2147483647 := hrg168.1 1826 13 29 _ .int rfl rfl
                        have e191 : (H167.1 1826 29) = (H146.1 1826 29) := hx167f.2.2 29 (by decide)
                        have e192 : (H146.1 1826 29) = (H120.1 1826 29) := hx146f.2.2 29 (by decide)
                        have g193 : -2147483648 ≤ (H167.1 1826 3) ∧ (H167.1 1826 3) ≤ 2147483647 := hrg168.1 1826 13 3 _ .int rfl rfl
                        have e194 : (H167.1 1826 3) = (H146.1 1826 3) := hx167f.2.2 3 (by decide)
                        have e195 : (H146.1 1826 3) = (H120.1 1826 3) := hx146f.2.2 3 (by decide)
                        have g196 : -2147483648 ≤ (H167.1 1826 8) ∧ (H167.1 1826 8) ≤ 2147483647 := hrg168.1 1826 13 8 _ .int rfl rfl
                        have e197 : (H167.1 1826 8) = (H146.1 1826 8) := hx167f.2.2 8 (by decide)
                        have e198 : (H146.1 1826 8) = (H120.1 1826 8) := hx146f.2.2 8 (by decide)
                        have g199 : -2147483648 ≤ (H167.1 1826 13) ∧ (H167.1 1826 13) ≤ 2147483647 := hrg168.1 1826 13 13 _ .int rfl rfl
                        have e200 : (H167.1 1826 13) = (H146.1 1826 13) := hx167f.2.2 13 (by decide)
                        have e201 : (H146.1 1826 13) = (H120.1 1826 13) := hx146f.2.2 13 (by decide)
                        refine h_loc [0, 1, 4] rfl ?_
                        exact (n_tellLaw_cut hd h0 hw hst hP hw0 hR hmf hq htk _) _ (l) 0 (k0) (k1) (((H167.1 1826 39)).toNat) (fr_a (fr_a hf169 (by decide)) (by decide)) (by omega : (H.1 1826 30) ≤ (H167.1 1826 30) ∧ (H167.1 1826 30) ≤ (H.1 1826 29)) (by omega : 0 ≤ (H167.1 1826 35) ∧ (H167.1 1826 35) ≤ 5) (by omega : 0 ≤ (H167.1 1826 32) ∧ (H167.1 1826 32) ≤ 1000) (agp_1845 (agp_a ha170 (by decide)) (by omega : (H.1 1826 19) ≤ ((l : Nat) : Int))) (by omega : (H167.1 1826 35) = 0) (by omega : ((l) : Int) = (H.1 1826 19) ∧ (H.1 1826 19) ≤ 15) (by omega : (H167.1 1826 1) = (H.1 1826 1) ∧ (H167.1 1826 3) = (H.1 1826 3) ∧ (H167.1 1826 8) = (H.1 1826 8) ∧ (H167.1 1826 13) = (H.1 1826 13) ∧ (H167.1 1826 19) = (H.1 1826 19)) hs3 hs2 (show up (H167.1 1845) l ((H167.1 1826 39)) l = _ by rw [up_eq]; omega) (by omega : (H167.1 1826 39) = (((H167.1 1826 39)).toNat) ∧ (((H167.1 1826 39)).toNat) ≤ 6) hvt9 (by omega) (fun x hx => absurd hx (Nat.not_lt_zero _)) ⟨X7, hq7, RK_fr hR7 (fr_a (fr_a (fr_rf [] [1844, 1845] H167) (by decide)) (by decide)) (by decide) (by decide), hln⟩ (Nat.lt_succ_self _)
                      · refine h_run 2 (pc' := 211) (l' := [(0, .inr (.inr 1826)), (1, .inl (l : Int)), (2, .inl hx86r), (3, .inl hx146r)]) (st' := [.inl hx86r, .inl (l : Int), .inr (.inr 1844)]) rfl ?_
                        refine h_ist (c := 1844) (j := l) (i := (l : Int)) (x := hx86r) rfl rfl (by decide) (by decide) rfl (by omega) (by omega) ?_
                        refine h_run 5 (pc' := 221) (l' := [(0, .inr (.inr 1826)), (1, .inl (l : Int)), (2, .inl hx86r), (3, .inl hx146r)]) (st' := [.inl (H167.1 1826 39), .inl (l : Int), .inr (.inr 1845)]) rfl ?_
                        refine h_ist (c := 1845) (j := l) (i := (l : Int)) (x := (H167.1 1826 39)) rfl rfl (by decide) (by decide) rfl (by omega) (by omega) ?_
                        refine h_run 2 (pc' := 225) (l' := [(0, .inr (.inr 1826)), (1, .inl (l : Int)), (2, .inl hx86r), (3, .inl hx146r), (4, .inl 0)]) (st' := []) rfl ?_
                        have g202 : -2147483648 ≤ (H167.1 1826 30) ∧ (H167.1 1826 30) ≤ 2147483647 := hrg168.1 1826 13 30 _ .int rfl rfl
                        have e203 : (H167.1 1826 30) = (H146.1 1826 30) := hx167f.2.2 30 (by decide)
                        have g204 : -2147483648 ≤ (H167.1 1826 32) ∧ (H167.1 1826 32) ≤ 2147483647 := hrg168.1 1826 13 32 _ .int rfl rfl
                        have e205 : (H167.1 1826 32) = (H146.1 1826 32) := hx167f.2.2 32 (by decide)
                        have g206 : -2147483648 ≤ (H167.1 1826 31) ∧ (H167.1 1826 31) ≤ 2147483647 := hrg168.1 1826 13 31 _ .int rfl rfl
                        have e207 : (H167.1 1826 31) = (H146.1 1826 31) := hx167f.2.2 31 (by decide)
                        have g208 : -2147483648 ≤ (H167.1 1826 29) ∧ (H167.1 1826 29) ≤ 2147483647 := hrg168.1 1826 13 29 _ .int rfl rfl
                        have e209 : (H167.1 1826 29) = (H146.1 1826 29) := hx167f.2.2 29 (by decide)
                        have e210 : (H146.1 1826 29) = (H120.1 1826 29) := hx146f.2.2 29 (by decide)
                        have g211 : -2147483648 ≤ (H167.1 1826 3) ∧ (H167.1 1826 3) ≤ 2147483647 := hrg168.1 1826 13 3 _ .int rfl rfl
                        have e212 : (H167.1 1826 3) = (H146.1 1826 3) := hx167f.2.2 3 (by decide)
                        have e213 : (H146.1 1826 3) = (H120.1 1826 3) := hx146f.2.2 3 (by decide)
                        have g214 : -2147483648 ≤ (H167.1 1826 8) ∧ (H167.1 1826 8) ≤ 2147483647 := hrg168.1 1826 13 8 _ .int rfl rfl
                        have e215 : (H167.1 1826 8) = (H146.1 1826 8) := hx167f.2.2 8 (by decide)
                        have e216 : (H146.1 1826 8) = (H120.1 1826 8) := hx146f.2.2 8 (by decide)
                        have g217 : -2147483648 ≤ (H167.1 1826 13) ∧ (H167.1 1826 13) ≤ 2147483647 := hrg168.1 1826 13 13 _ .int rfl rfl
                        have e218 : (H167.1 1826 13) = (H146.1 1826 13) := hx167f.2.2 13 (by decide)
                        have e219 : (H146.1 1826 13) = (H120.1 1826 13) := hx146f.2.2 13 (by decide)
                        refine h_loc [0, 1, 4] rfl ?_
                        exact (n_tellLaw_cut hd h0 hw hst hP hw0 hR hmf hq htk _) _ (l) 0 (k0) (k1) (((H167.1 1826 39)).toNat) (fr_a (fr_a hf169 (by decide)) (by decide)) (by omega : (H.1 1826 30) ≤ (H167.1 1826 30) ∧ (H167.1 1826 30) ≤ (H.1 1826 29)) (by omega : 0 ≤ (H167.1 1826 35) ∧ (H167.1 1826 35) ≤ 5) (by omega : 0 ≤ (H167.1 1826 32) ∧ (H167.1 1826 32) ≤ 1000) (agp_1845 (agp_a ha170 (by decide)) (by omega : (H.1 1826 19) ≤ ((l : Nat) : Int))) (by omega : (H167.1 1826 35) = 0) (by omega : ((l) : Int) = (H.1 1826 19) ∧ (H.1 1826 19) ≤ 15) (by omega : (H167.1 1826 1) = (H.1 1826 1) ∧ (H167.1 1826 3) = (H.1 1826 3) ∧ (H167.1 1826 8) = (H.1 1826 8) ∧ (H167.1 1826 13) = (H.1 1826 13) ∧ (H167.1 1826 19) = (H.1 1826 19)) hs3 hs2 (show up (H167.1 1845) l ((H167.1 1826 39)) l = _ by rw [up_eq]; omega) (by omega : (H167.1 1826 39) = (((H167.1 1826 39)).toNat) ∧ (((H167.1 1826 39)).toNat) ≤ 6) hvt9 (by omega) (fun x hx => absurd hx (Nat.not_lt_zero _)) ⟨X7, hq7, RK_fr hR7 (fr_a (fr_a (fr_rf [] [1844, 1845] H167) (by decide)) (by decide)) (by decide) (by decide), hln⟩ (Nat.lt_succ_self _)
                    · skip
                      clear hx146k
                      clear hx146w
                      refine h_run 7 (pc' := 186) (l' := [(0, .inr (.inr 1826)), (1, .inl (l : Int)), (2, .inl hx86r), (3, .inl hx146r)]) (st' := [.inl ((2 * (l : Int)) + 1), .inr (.inr 1826)]) rfl ?_
                      have g220 : -2147483648 ≤ (H146.1 1826 43) ∧ (H146.1 1826 43) ≤ 2147483647 := hrg159.1 1826 13 43 _ .int rfl rfl
                      have g221 : -2147483648 ≤ (H146.1 1826 19) ∧ (H146.1 1826 19) ≤ 2147483647 := hrg159.1 1826 13 19 _ .int rfl rfl
                      have e222 : (H146.1 1826 19) = (H120.1 1826 19) := hx146f.2.2 19 (by decide)
                      rw [show ((2 * (l : Int)) + 1) = ((2 * l + 1 : Nat) : Int) by omega]
                      refine h_cv (i := 390) (j := 188) (b := 1826) (M' := mt_188) (xs := [.inl ((2 * l + 1 : Nat) : Int)]) (rest := []) rfl rfl rfl rfl rfl rfl (Nat.le_of_ble_eq_true rfl) (Nat.le_of_ble_eq_true rfl) (by omega) (m_keepSide (by omega) (s := 2 * l + 1) (by omega : 2 * (H146.1 1826 19) ≤ ((2 * l + 1 : Nat) : Int) ∧ 2 * l + 1 ≤ 31) (by omega : (H146.1 1826 35) = 0 → 0 ≤ (H146.1 1826 43) ∧ (H146.1 1826 43) ≤ 40)) ?_
                      rintro _ H223 ⟨rfl, hx223f, hx223g, hx223z, hx223b, hx223c⟩
                      refine h_rng (fun hrg224 => ?_)
                      have hf225 : fr [30, 31, 32, 33, 35, 36, 19, 39, 40, 41, 43, 44, 47] [1841, 1842, 1843, 1844, 1845, 1846, 1847, 1849, 1850, 1851, 1852, 1853, 1854] H H223 := fr_t hf160 hx223f (by decide) (by decide)
                      have ha226 : agp H H223 := agp_tr ha161 hx223g
                      replace hx223c : hid _ := hx223c
                      refine h_run 0 (pc' := 189) (l' := [(0, .inr (.inr 1826)), (1, .inl (l : Int)), (2, .inl hx86r), (3, .inl hx146r)]) (st' := []) rfl ?_
                      have hx223n : GB Y m c0 H223 False := Or.inr ⟨(by omega : (H223.1 1826 35) ≠ 0), BD_fr (BD_fr (GB_b hx146n (by omega)) (fr_rf [] [] H146) (by decide) (by decide)) hx223f (by decide) (by decide)⟩
                      refine h_run 1 (pc' := 190) (l' := [(0, .inr (.inr 1826)), (1, .inl (l : Int)), (2, .inl hx86r), (3, .inl hx146r)]) (st' := [.inr (.inr 1826)]) rfl ?_
                      have g227 : -2147483648 ≤ (H223.1 1826 35) ∧ (H223.1 1826 35) ≤ 2147483647 := hrg224.1 1826 13 35 _ .int rfl rfl
                      have e228 : (H223.1 1826 35) = (H146.1 1826 35) := hx223f.2.2 35 (by decide)
                      refine h_cv (i := 293) (j := 158) (b := 1826) (M' := mt_158) (xs := []) (rest := []) rfl rfl rfl rfl rfl rfl (Nat.le_of_ble_eq_true rfl) (Nat.le_of_ble_eq_true rfl) (by omega) (m_good0 (by omega) (by omega : (H223.1 1826 35) ≠ 0)) ?_
                      rintro _ _ ⟨rfl, rfl⟩
                      refine h_run 0 (pc' := 193) (l' := [(0, .inr (.inr 1826)), (1, .inl (l : Int)), (2, .inl hx86r), (3, .inl hx146r)]) (st' := [.inl 0]) rfl ?_
                      refine h_zeq (off := 83) (t := 276) rfl rfl (by decide) (fun _ => ?_) (fun c => absurd c (by decide))
                      refine h_ret rfl rfl ?_
                      have g229 : -2147483648 ≤ (H223.1 1826 30) ∧ (H223.1 1826 30) ≤ 2147483647 := hrg224.1 1826 13 30 _ .int rfl rfl
                      have e230 : (H223.1 1826 30) = (H146.1 1826 30) := hx223f.2.2 30 (by decide)
                      have g231 : -2147483648 ≤ (H223.1 1826 32) ∧ (H223.1 1826 32) ≤ 2147483647 := hrg224.1 1826 13 32 _ .int rfl rfl
                      have e232 : (H223.1 1826 32) = (H146.1 1826 32) := hx223f.2.2 32 (by decide)
                      have g233 : -2147483648 ≤ (H223.1 1826 31) ∧ (H223.1 1826 31) ≤ 2147483647 := hrg224.1 1826 13 31 _ .int rfl rfl
                      have e234 : (H223.1 1826 31) = (H146.1 1826 31) := hx223f.2.2 31 (by decide)
                      have g235 : -2147483648 ≤ (H223.1 1826 29) ∧ (H223.1 1826 29) ≤ 2147483647 := hrg224.1 1826 13 29 _ .int rfl rfl
                      have e236 : (H223.1 1826 29) = (H146.1 1826 29) := hx223f.2.2 29 (by decide)
                      have e237 : (H146.1 1826 29) = (H120.1 1826 29) := hx146f.2.2 29 (by decide)
                      have g238 : -2147483648 ≤ (H223.1 1826 1) ∧ (H223.1 1826 1) ≤ 2147483647 := hrg224.1 1826 13 1 _ .int rfl rfl
                      have e239 : (H223.1 1826 1) = (H146.1 1826 1) := hx223f.2.2 1 (by decide)
                      have e240 : (H146.1 1826 1) = (H120.1 1826 1) := hx146f.2.2 1 (by decide)
                      have g241 : -2147483648 ≤ (H223.1 1826 3) ∧ (H223.1 1826 3) ≤ 2147483647 := hrg224.1 1826 13 3 _ .int rfl rfl
                      have e242 : (H223.1 1826 3) = (H146.1 1826 3) := hx223f.2.2 3 (by decide)
                      have e243 : (H146.1 1826 3) = (H120.1 1826 3) := hx146f.2.2 3 (by decide)
                      have g244 : -2147483648 ≤ (H223.1 1826 8) ∧ (H223.1 1826 8) ≤ 2147483647 := hrg224.1 1826 13 8 _ .int rfl rfl
                      have e245 : (H223.1 1826 8) = (H146.1 1826 8) := hx223f.2.2 8 (by decide)
                      have e246 : (H146.1 1826 8) = (H120.1 1826 8) := hx146f.2.2 8 (by decide)
                      have g247 : -2147483648 ≤ (H223.1 1826 13) ∧ (H223.1 1826 13) ≤ 2147483647 := hrg224.1 1826 13 13 _ .int rfl rfl
                      have e248 : (H223.1 1826 13) = (H146.1 1826 13) := hx223f.2.2 13 (by decide)
                      have e249 : (H146.1 1826 13) = (H120.1 1826 13) := hx146f.2.2 13 (by decide)
                      have g250 : -2147483648 ≤ (H223.1 1826 19) ∧ (H223.1 1826 19) ≤ 2147483647 := hrg224.1 1826 13 19 _ .int rfl rfl
                      have e251 : (H223.1 1826 19) = (H146.1 1826 19) := hx223f.2.2 19 (by decide)
                      have g252 : -2147483648 ≤ (H223.1 1826 39) ∧ (H223.1 1826 39) ≤ 2147483647 := hrg224.1 1826 13 39 _ .int rfl rfl
                      have e253 : (H223.1 1826 39) = (H146.1 1826 39) := hx223f.2.2 39 (by decide)
                      exact ⟨rfl, (Or.inr ⟨(by omega : (H223.1 1826 35) ≠ 0), GB_b hx223n (by omega)⟩), hf225, (by omega : (H.1 1826 30) ≤ (H223.1 1826 30) ∧ (H223.1 1826 30) ≤ (H.1 1826 29)), (by omega : 0 ≤ (H223.1 1826 35) ∧ (H223.1 1826 35) ≤ 5), (by omega : (H.1 1826 35) ≠ 0 → (H223.1 1826 35) ≠ 0), (by omega : 0 ≤ (H223.1 1826 32) ∧ (H223.1 1826 32) ≤ 1000), ha226, (fun (q : (H223.1 1826 35) = 0) => absurd q (by omega))⟩
                  · skip
                    clear hx120g
                    refine h_run 2 (pc' := 150) (l' := [(0, .inr (.inr 1826)), (1, .inl (l : Int)), (2, .inl hx86r)]) (st' := [.inl 0, .inr (.inr 1826)]) rfl ?_
                    refine h_puti (i := 300) (ci := 13) (k := 40) (a := 1826) (x := 0) rfl rfl rfl rfl rfl rfl (by decide) (by decide) ?_
                    refine h_run 2 (pc' := 155) (l' := [(0, .inr (.inr 1826)), (1, .inl (l : Int)), (2, .inl hx86r)]) (st' := [.inl 0, .inr (.inr 1826)]) rfl ?_
                    refine h_puti (i := 335) (ci := 13) (k := 41) (a := 1826) (x := 0) rfl rfl rfl rfl rfl rfl (by decide) (by decide) ?_
                    refine h_run 2 (pc' := 160) (l' := [(0, .inr (.inr 1826)), (1, .inl (l : Int)), (2, .inl hx86r)]) (st' := [.inl 0, .inr (.inr 1826)]) rfl ?_
                    refine h_puti (i := 303) (ci := 13) (k := 43) (a := 1826) (x := 0) rfl rfl rfl rfl rfl rfl (by decide) (by decide) ?_
                    refine h_run 1 (pc' := 164) (l' := [(0, .inr (.inr 1826)), (1, .inl (l : Int)), (2, .inl hx86r)]) (st' := [.inr (.inr 1826)]) rfl ?_
                    refine h_cv (i := 293) (j := 158) (b := 1826) (M' := mt_158) (xs := []) (rest := []) rfl rfl rfl rfl rfl rfl (Nat.le_of_ble_eq_true rfl) (Nat.le_of_ble_eq_true rfl) (by omega) (m_good0 (by omega) (by omega : (H120.1 1826 35) ≠ 0)) ?_
                    rintro _ _ ⟨rfl, rfl⟩
                    refine h_run 0 (pc' := 167) (l' := [(0, .inr (.inr 1826)), (1, .inl (l : Int)), (2, .inl hx86r)]) (st' := [.inl 0]) rfl ?_
                    refine h_zeq (off := 11) (t := 178) rfl rfl (by decide) (fun _ => ?_) (fun c => absurd c (by decide))
                    refine h_run 1 (pc' := 179) (l' := [(0, .inr (.inr 1826)), (1, .inl (l : Int)), (2, .inl hx86r)]) (st' := [.inl (-1)]) rfl ?_
                    refine h_run 7 (pc' := 186) (l' := [(0, .inr (.inr 1826)), (1, .inl (l : Int)), (2, .inl hx86r), (3, .inl (-1))]) (st' := [.inl ((2 * (l : Int)) + 1), .inr (.inr 1826)]) rfl ?_
                    have g254 : -2147483648 ≤ (H120.1 1826 19) ∧ (H120.1 1826 19) ≤ 2147483647 := hrg123.1 1826 13 19 _ .int rfl rfl
                    have e255 : (H120.1 1826 19) = (H107.1 1826 19) := hx120f.2.2 19 (by decide)
                    have e256 : (H107.1 1826 19) = (H86.1 1826 19) := hx107f.2.2 19 (by decide)
                    rw [show ((2 * (l : Int)) + 1) = ((2 * l + 1 : Nat) : Int) by omega]
                    refine h_cv (i := 390) (j := 188) (b := 1826) (M' := mt_188) (xs := [.inl ((2 * l + 1 : Nat) : Int)]) (rest := []) rfl rfl rfl rfl rfl rfl (Nat.le_of_ble_eq_true rfl) (Nat.le_of_ble_eq_true rfl) (by omega) (m_keepSide (by omega) (s := 2 * l + 1) (by omega : 2 * (H120.1 1826 19) ≤ ((2 * l + 1 : Nat) : Int) ∧ 2 * l + 1 ≤ 31) (by omega : (H120.1 1826 35) = 0 → 0 ≤ (0 : Int) ∧ (0 : Int) ≤ 40)) ?_
                    rintro _ H257 ⟨rfl, hx257f, hx257g, hx257z, hx257b, hx257c⟩
                    refine h_rng (fun hrg258 => ?_)
                    have hf259 : fr [30, 31, 32, 33, 35, 36, 19, 39, 40, 41, 43, 44, 47] [1841, 1842, 1843, 1844, 1845, 1846, 1847, 1849, 1850, 1851, 1852, 1853, 1854] H H257 := fr_t (fr_o (fr_o (fr_o hf124 (by decide)) (by decide)) (by decide)) hx257f (by decide) (by decide)
                    have ha260 : agp H H257 := agp_tr (agp_o (agp_o (agp_o ha125 (by decide)) (by decide)) (by decide)) hx257g
                    replace hx257c : hid _ := hx257c
                    refine h_run 0 (pc' := 189) (l' := [(0, .inr (.inr 1826)), (1, .inl (l : Int)), (2, .inl hx86r), (3, .inl (-1))]) (st' := []) rfl ?_
                    have hx257n : GB Y m c0 H257 False := Or.inr ⟨(by omega : (H257.1 1826 35) ≠ 0), BD_fr (BD_fr (GB_b hx120n (by omega)) (fr_o (fr_o (fr_o (fr_rf [40, 41, 43] [] H120) (by decide)) (by decide)) (by decide)) (by decide) (by decide)) hx257f (by decide) (by decide)⟩
                    refine h_run 1 (pc' := 190) (l' := [(0, .inr (.inr 1826)), (1, .inl (l : Int)), (2, .inl hx86r), (3, .inl (-1))]) (st' := [.inr (.inr 1826)]) rfl ?_
                    have g261 : -2147483648 ≤ (H257.1 1826 35) ∧ (H257.1 1826 35) ≤ 2147483647 := hrg258.1 1826 13 35 _ .int rfl rfl
                    have e262 : (H257.1 1826 35) = (H120.1 1826 35) := hx257f.2.2 35 (by decide)
                    refine h_cv (i := 293) (j := 158) (b := 1826) (M' := mt_158) (xs := []) (rest := []) rfl rfl rfl rfl rfl rfl (Nat.le_of_ble_eq_true rfl) (Nat.le_of_ble_eq_true rfl) (by omega) (m_good0 (by omega) (by omega : (H257.1 1826 35) ≠ 0)) ?_
                    rintro _ _ ⟨rfl, rfl⟩
                    refine h_run 0 (pc' := 193) (l' := [(0, .inr (.inr 1826)), (1, .inl (l : Int)), (2, .inl hx86r), (3, .inl (-1))]) (st' := [.inl 0]) rfl ?_
                    refine h_zeq (off := 83) (t := 276) rfl rfl (by decide) (fun _ => ?_) (fun c => absurd c (by decide))
                    refine h_ret rfl rfl ?_
                    have g263 : -2147483648 ≤ (H257.1 1826 30) ∧ (H257.1 1826 30) ≤ 2147483647 := hrg258.1 1826 13 30 _ .int rfl rfl
                    have e264 : (H257.1 1826 30) = (H120.1 1826 30) := hx257f.2.2 30 (by decide)
                    have g265 : -2147483648 ≤ (H257.1 1826 32) ∧ (H257.1 1826 32) ≤ 2147483647 := hrg258.1 1826 13 32 _ .int rfl rfl
                    have e266 : (H257.1 1826 32) = (H120.1 1826 32) := hx257f.2.2 32 (by decide)
                    have g267 : -2147483648 ≤ (H257.1 1826 31) ∧ (H257.1 1826 31) ≤ 2147483647 := hrg258.1 1826 13 31 _ .int rfl rfl
                    have e268 : (H257.1 1826 31) = (H120.1 1826 31) := hx257f.2.2 31 (by decide)
                    have g269 : -2147483648 ≤ (H257.1 1826 29) ∧ (H257.1 1826 29) ≤ 2147483647 := hrg258.1 1826 13 29 _ .int rfl rfl
                    have e270 : (H257.1 1826 29) = (H120.1 1826 29) := hx257f.2.2 29 (by decide)
                    have e271 : (H120.1 1826 29) = (H107.1 1826 29) := hx120f.2.2 29 (by decide)
                    have g272 : -2147483648 ≤ (H257.1 1826 1) ∧ (H257.1 1826 1) ≤ 2147483647 := hrg258.1 1826 13 1 _ .int rfl rfl
                    have e273 : (H257.1 1826 1) = (H120.1 1826 1) := hx257f.2.2 1 (by decide)
                    have e274 : (H120.1 1826 1) = (H107.1 1826 1) := hx120f.2.2 1 (by decide)
                    have e275 : (H107.1 1826 1) = (H86.1 1826 1) := hx107f.2.2 1 (by decide)
                    have e276 : (H86.1 1826 1) = (H68.1 1826 1) := hx86f.2.2 1 (by decide)
                    have g277 : -2147483648 ≤ (H257.1 1826 3) ∧ (H257.1 1826 3) ≤ 2147483647 := hrg258.1 1826 13 3 _ .int rfl rfl
                    have e278 : (H257.1 1826 3) = (H120.1 1826 3) := hx257f.2.2 3 (by decide)
                    have e279 : (H120.1 1826 3) = (H107.1 1826 3) := hx120f.2.2 3 (by decide)
                    have e280 : (H107.1 1826 3) = (H86.1 1826 3) := hx107f.2.2 3 (by decide)
                    have e281 : (H86.1 1826 3) = (H68.1 1826 3) := hx86f.2.2 3 (by decide)
                    have g282 : -2147483648 ≤ (H257.1 1826 8) ∧ (H257.1 1826 8) ≤ 2147483647 := hrg258.1 1826 13 8 _ .int rfl rfl
                    have e283 : (H257.1 1826 8) = (H120.1 1826 8) := hx257f.2.2 8 (by decide)
                    have e284 : (H120.1 1826 8) = (H107.1 1826 8) := hx120f.2.2 8 (by decide)
                    have e285 : (H107.1 1826 8) = (H86.1 1826 8) := hx107f.2.2 8 (by decide)
                    have e286 : (H86.1 1826 8) = (H68.1 1826 8) := hx86f.2.2 8 (by decide)
                    have g287 : -2147483648 ≤ (H257.1 1826 13) ∧ (H257.1 1826 13) ≤ 2147483647 := hrg258.1 1826 13 13 _ .int rfl rfl
                    have e288 : (H257.1 1826 13) = (H120.1 1826 13) := hx257f.2.2 13 (by decide)
                    have e289 : (H120.1 1826 13) = (H107.1 1826 13) := hx120f.2.2 13 (by decide)
                    have e290 : (H107.1 1826 13) = (H86.1 1826 13) := hx107f.2.2 13 (by decide)
                    have e291 : (H86.1 1826 13) = (H68.1 1826 13) := hx86f.2.2 13 (by decide)
                    have g292 : -2147483648 ≤ (H257.1 1826 19) ∧ (H257.1 1826 19) ≤ 2147483647 := hrg258.1 1826 13 19 _ .int rfl rfl
                    have e293 : (H257.1 1826 19) = (H120.1 1826 19) := hx257f.2.2 19 (by decide)
                    have g294 : -2147483648 ≤ (H257.1 1826 39) ∧ (H257.1 1826 39) ≤ 2147483647 := hrg258.1 1826 13 39 _ .int rfl rfl
                    have e295 : (H257.1 1826 39) = (H120.1 1826 39) := hx257f.2.2 39 (by decide)
                    have e296 : (H120.1 1826 39) = (H107.1 1826 39) := hx120f.2.2 39 (by decide)
                    have e297 : (H107.1 1826 39) = (H86.1 1826 39) := hx107f.2.2 39 (by decide)
                    exact ⟨rfl, (Or.inr ⟨(by omega : (H257.1 1826 35) ≠ 0), GB_b hx257n (by omega)⟩), hf259, (by omega : (H.1 1826 30) ≤ (H257.1 1826 30) ∧ (H257.1 1826 30) ≤ (H.1 1826 29)), (by omega : 0 ≤ (H257.1 1826 35) ∧ (H257.1 1826 35) ≤ 5), (by omega : (H.1 1826 35) ≠ 0 → (H257.1 1826 35) ≠ 0), (by omega : 0 ≤ (H257.1 1826 32) ∧ (H257.1 1826 32) ≤ 1000), ha260, (fun (q : (H257.1 1826 35) = 0) => absurd q (by omega))⟩
                · skip
                  clear hx86k
                  clear hx86w
                  refine h_run 1 (pc' := 135) (l' := [(0, .inr (.inr 1826)), (1, .inl (l : Int)), (2, .inl hx86r)]) (st' := []) rfl ?_
                  skip
                  refine h_run 4 (pc' := 139) (l' := [(0, .inr (.inr 1826)), (1, .inl (l : Int)), (2, .inl hx86r)]) (st' := [.inl (2 * (l : Int)), .inr (.inr 1826)]) rfl ?_
                  have g298 : -2147483648 ≤ (H86.1 1826 43) ∧ (H86.1 1826 43) ≤ 2147483647 := hrg99.1 1826 13 43 _ .int rfl rfl
                  have g299 : -2147483648 ≤ (H86.1 1826 19) ∧ (H86.1 1826 19) ≤ 2147483647 := hrg99.1 1826 13 19 _ .int rfl rfl
                  have e300 : (H86.1 1826 19) = (H68.1 1826 19) := hx86f.2.2 19 (by decide)
                  rw [show (2 * (l : Int)) = ((2 * l : Nat) : Int) by omega]
                  refine h_cv (i := 390) (j := 188) (b := 1826) (M' := mt_188) (xs := [.inl ((2 * l : Nat) : Int)]) (rest := []) rfl rfl rfl rfl rfl rfl (Nat.le_of_ble_eq_true rfl) (Nat.le_of_ble_eq_true rfl) (by omega) (m_keepSide (by omega) (s := 2 * l) (by omega : 2 * (H86.1 1826 19) ≤ ((2 * l : Nat) : Int) ∧ 2 * l ≤ 31) (by omega : (H86.1 1826 35) = 0 → 0 ≤ (H86.1 1826 43) ∧ (H86.1 1826 43) ≤ 40)) ?_
                  rintro _ H301 ⟨rfl, hx301f, hx301g, hx301z, hx301b, hx301c⟩
                  refine h_rng (fun hrg302 => ?_)
                  have hf303 : fr [30, 31, 32, 33, 35, 36, 19, 39, 40, 41, 43, 44, 47] [1841, 1842, 1843, 1844, 1845, 1846, 1847, 1849, 1850, 1851, 1852, 1853, 1854] H H301 := fr_t hf100 hx301f (by decide) (by decide)
                  have ha304 : agp H H301 := agp_tr ha101 hx301g
                  replace hx301c : hid _ := hx301c
                  refine h_run 0 (pc' := 142) (l' := [(0, .inr (.inr 1826)), (1, .inl (l : Int)), (2, .inl hx86r)]) (st' := []) rfl ?_
                  have hx301n : GB Y m c0 H301 False := Or.inr ⟨(by omega : (H301.1 1826 35) ≠ 0), BD_fr (BD_fr (GB_b hx86n (by omega)) (fr_rf [] [] H86) (by decide) (by decide)) hx301f (by decide) (by decide)⟩
                  refine h_run 2 (pc' := 145) (l' := [(0, .inr (.inr 1826)), (1, .inl (l : Int)), (2, .inl hx86r)]) (st' := [.inl 61, .inr (.inr 1826)]) rfl ?_
                  have g305 : -2147483648 ≤ (H301.1 1826 35) ∧ (H301.1 1826 35) ≤ 2147483647 := hrg302.1 1826 13 35 _ .int rfl rfl
                  have e306 : (H301.1 1826 35) = (H86.1 1826 35) := hx301f.2.2 35 (by decide)
                  refine h_cv (i := 313) (j := 166) (b := 1826) (M' := mt_166) (xs := [.inl 61]) (rest := []) rfl rfl rfl rfl rfl rfl (Nat.le_of_ble_eq_true rfl) (Nat.le_of_ble_eq_true rfl) (by omega) (n_want0 (by omega) (by omega : (H301.1 1826 35) ≠ 0)) ?_
                  rintro _ _ ⟨rfl, rfl⟩
                  refine h_run 0 (pc' := 148) (l' := [(0, .inr (.inr 1826)), (1, .inl (l : Int)), (2, .inl hx86r)]) (st' := []) rfl ?_
                  refine h_run 2 (pc' := 150) (l' := [(0, .inr (.inr 1826)), (1, .inl (l : Int)), (2, .inl hx86r)]) (st' := [.inl 0, .inr (.inr 1826)]) rfl ?_
                  refine h_puti (i := 300) (ci := 13) (k := 40) (a := 1826) (x := 0) rfl rfl rfl rfl rfl rfl (by decide) (by decide) ?_
                  refine h_run 2 (pc' := 155) (l' := [(0, .inr (.inr 1826)), (1, .inl (l : Int)), (2, .inl hx86r)]) (st' := [.inl 0, .inr (.inr 1826)]) rfl ?_
                  refine h_puti (i := 335) (ci := 13) (k := 41) (a := 1826) (x := 0) rfl rfl rfl rfl rfl rfl (by decide) (by decide) ?_
                  refine h_run 2 (pc' := 160) (l' := [(0, .inr (.inr 1826)), (1, .inl (l : Int)), (2, .inl hx86r)]) (st' := [.inl 0, .inr (.inr 1826)]) rfl ?_
                  refine h_puti (i := 303) (ci := 13) (k := 43) (a := 1826) (x := 0) rfl rfl rfl rfl rfl rfl (by decide) (by decide) ?_
                  refine h_run 1 (pc' := 164) (l' := [(0, .inr (.inr 1826)), (1, .inl (l : Int)), (2, .inl hx86r)]) (st' := [.inr (.inr 1826)]) rfl ?_
                  refine h_cv (i := 293) (j := 158) (b := 1826) (M' := mt_158) (xs := []) (rest := []) rfl rfl rfl rfl rfl rfl (Nat.le_of_ble_eq_true rfl) (Nat.le_of_ble_eq_true rfl) (by omega) (m_good0 (by omega) (by omega : (H301.1 1826 35) ≠ 0)) ?_
                  rintro _ _ ⟨rfl, rfl⟩
                  refine h_run 0 (pc' := 167) (l' := [(0, .inr (.inr 1826)), (1, .inl (l : Int)), (2, .inl hx86r)]) (st' := [.inl 0]) rfl ?_
                  refine h_zeq (off := 11) (t := 178) rfl rfl (by decide) (fun _ => ?_) (fun c => absurd c (by decide))
                  refine h_run 1 (pc' := 179) (l' := [(0, .inr (.inr 1826)), (1, .inl (l : Int)), (2, .inl hx86r)]) (st' := [.inl (-1)]) rfl ?_
                  refine h_run 7 (pc' := 186) (l' := [(0, .inr (.inr 1826)), (1, .inl (l : Int)), (2, .inl hx86r), (3, .inl (-1))]) (st' := [.inl ((2 * (l : Int)) + 1), .inr (.inr 1826)]) rfl ?_
                  have g307 : -2147483648 ≤ (H301.1 1826 19) ∧ (H301.1 1826 19) ≤ 2147483647 := hrg302.1 1826 13 19 _ .int rfl rfl
                  have e308 : (H301.1 1826 19) = (H86.1 1826 19) := hx301f.2.2 19 (by decide)
                  rw [show ((2 * (l : Int)) + 1) = ((2 * l + 1 : Nat) : Int) by omega]
                  refine h_cv (i := 390) (j := 188) (b := 1826) (M' := mt_188) (xs := [.inl ((2 * l + 1 : Nat) : Int)]) (rest := []) rfl rfl rfl rfl rfl rfl (Nat.le_of_ble_eq_true rfl) (Nat.le_of_ble_eq_true rfl) (by omega) (m_keepSide (by omega) (s := 2 * l + 1) (by omega : 2 * (H301.1 1826 19) ≤ ((2 * l + 1 : Nat) : Int) ∧ 2 * l + 1 ≤ 31) (by omega : (H301.1 1826 35) = 0 → 0 ≤ (0 : Int) ∧ (0 : Int) ≤ 40)) ?_
                  rintro _ H309 ⟨rfl, hx309f, hx309g, hx309z, hx309b, hx309c⟩
                  refine h_rng (fun hrg310 => ?_)
                  have hf311 : fr [30, 31, 32, 33, 35, 36, 19, 39, 40, 41, 43, 44, 47] [1841, 1842, 1843, 1844, 1845, 1846, 1847, 1849, 1850, 1851, 1852, 1853, 1854] H H309 := fr_t (fr_o (fr_o (fr_o hf303 (by decide)) (by decide)) (by decide)) hx309f (by decide) (by decide)
                  have ha312 : agp H H309 := agp_tr (agp_o (agp_o (agp_o ha304 (by decide)) (by decide)) (by decide)) hx309g
                  replace hx309c : hid _ := hx309c
                  refine h_run 0 (pc' := 189) (l' := [(0, .inr (.inr 1826)), (1, .inl (l : Int)), (2, .inl hx86r), (3, .inl (-1))]) (st' := []) rfl ?_
                  have hx309n : GB Y m c0 H309 False := Or.inr ⟨(by omega : (H309.1 1826 35) ≠ 0), BD_fr (BD_fr (GB_b hx301n (by omega)) (fr_o (fr_o (fr_o (fr_rf [40, 41, 43] [] H301) (by decide)) (by decide)) (by decide)) (by decide) (by decide)) hx309f (by decide) (by decide)⟩
                  refine h_run 1 (pc' := 190) (l' := [(0, .inr (.inr 1826)), (1, .inl (l : Int)), (2, .inl hx86r), (3, .inl (-1))]) (st' := [.inr (.inr 1826)]) rfl ?_
                  have g313 : -2147483648 ≤ (H309.1 1826 35) ∧ (H309.1 1826 35) ≤ 2147483647 := hrg310.1 1826 13 35 _ .int rfl rfl
                  have e314 : (H309.1 1826 35) = (H301.1 1826 35) := hx309f.2.2 35 (by decide)
                  refine h_cv (i := 293) (j := 158) (b := 1826) (M' := mt_158) (xs := []) (rest := []) rfl rfl rfl rfl rfl rfl (Nat.le_of_ble_eq_true rfl) (Nat.le_of_ble_eq_true rfl) (by omega) (m_good0 (by omega) (by omega : (H309.1 1826 35) ≠ 0)) ?_
                  rintro _ _ ⟨rfl, rfl⟩
                  refine h_run 0 (pc' := 193) (l' := [(0, .inr (.inr 1826)), (1, .inl (l : Int)), (2, .inl hx86r), (3, .inl (-1))]) (st' := [.inl 0]) rfl ?_
                  refine h_zeq (off := 83) (t := 276) rfl rfl (by decide) (fun _ => ?_) (fun c => absurd c (by decide))
                  refine h_ret rfl rfl ?_
                  have g315 : -2147483648 ≤ (H309.1 1826 30) ∧ (H309.1 1826 30) ≤ 2147483647 := hrg310.1 1826 13 30 _ .int rfl rfl
                  have e316 : (H309.1 1826 30) = (H301.1 1826 30) := hx309f.2.2 30 (by decide)
                  have e317 : (H301.1 1826 30) = (H86.1 1826 30) := hx301f.2.2 30 (by decide)
                  have g318 : -2147483648 ≤ (H309.1 1826 32) ∧ (H309.1 1826 32) ≤ 2147483647 := hrg310.1 1826 13 32 _ .int rfl rfl
                  have e319 : (H309.1 1826 32) = (H301.1 1826 32) := hx309f.2.2 32 (by decide)
                  have e320 : (H301.1 1826 32) = (H86.1 1826 32) := hx301f.2.2 32 (by decide)
                  have g321 : -2147483648 ≤ (H309.1 1826 31) ∧ (H309.1 1826 31) ≤ 2147483647 := hrg310.1 1826 13 31 _ .int rfl rfl
                  have e322 : (H309.1 1826 31) = (H301.1 1826 31) := hx309f.2.2 31 (by decide)
                  have e323 : (H301.1 1826 31) = (H86.1 1826 31) := hx301f.2.2 31 (by decide)
                  have g324 : -2147483648 ≤ (H309.1 1826 29) ∧ (H309.1 1826 29) ≤ 2147483647 := hrg310.1 1826 13 29 _ .int rfl rfl
                  have e325 : (H309.1 1826 29) = (H301.1 1826 29) := hx309f.2.2 29 (by decide)
                  have e326 : (H301.1 1826 29) = (H86.1 1826 29) := hx301f.2.2 29 (by decide)
                  have e327 : (H86.1 1826 29) = (H68.1 1826 29) := hx86f.2.2 29 (by decide)
                  have g328 : -2147483648 ≤ (H309.1 1826 1) ∧ (H309.1 1826 1) ≤ 2147483647 := hrg310.1 1826 13 1 _ .int rfl rfl
                  have e329 : (H309.1 1826 1) = (H301.1 1826 1) := hx309f.2.2 1 (by decide)
                  have e330 : (H301.1 1826 1) = (H86.1 1826 1) := hx301f.2.2 1 (by decide)
                  have e331 : (H86.1 1826 1) = (H68.1 1826 1) := hx86f.2.2 1 (by decide)
                  have g332 : -2147483648 ≤ (H309.1 1826 3) ∧ (H309.1 1826 3) ≤ 2147483647 := hrg310.1 1826 13 3 _ .int rfl rfl
                  have e333 : (H309.1 1826 3) = (H301.1 1826 3) := hx309f.2.2 3 (by decide)
                  have e334 : (H301.1 1826 3) = (H86.1 1826 3) := hx301f.2.2 3 (by decide)
                  have e335 : (H86.1 1826 3) = (H68.1 1826 3) := hx86f.2.2 3 (by decide)
                  have g336 : -2147483648 ≤ (H309.1 1826 8) ∧ (H309.1 1826 8) ≤ 2147483647 := hrg310.1 1826 13 8 _ .int rfl rfl
                  have e337 : (H309.1 1826 8) = (H301.1 1826 8) := hx309f.2.2 8 (by decide)
                  have e338 : (H301.1 1826 8) = (H86.1 1826 8) := hx301f.2.2 8 (by decide)
                  have e339 : (H86.1 1826 8) = (H68.1 1826 8) := hx86f.2.2 8 (by decide)
                  have g340 : -2147483648 ≤ (H309.1 1826 13) ∧ (H309.1 1826 13) ≤ 2147483647 := hrg310.1 1826 13 13 _ .int rfl rfl
                  have e341 : (H309.1 1826 13) = (H301.1 1826 13) := hx309f.2.2 13 (by decide)
                  have e342 : (H301.1 1826 13) = (H86.1 1826 13) := hx301f.2.2 13 (by decide)
                  have e343 : (H86.1 1826 13) = (H68.1 1826 13) := hx86f.2.2 13 (by decide)
                  have g344 : -2147483648 ≤ (H309.1 1826 19) ∧ (H309.1 1826 19) ≤ 2147483647 := hrg310.1 1826 13 19 _ .int rfl rfl
                  have e345 : (H309.1 1826 19) = (H301.1 1826 19) := hx309f.2.2 19 (by decide)
                  have g346 : -2147483648 ≤ (H309.1 1826 39) ∧ (H309.1 1826 39) ≤ 2147483647 := hrg310.1 1826 13 39 _ .int rfl rfl
                  have e347 : (H309.1 1826 39) = (H301.1 1826 39) := hx309f.2.2 39 (by decide)
                  have e348 : (H301.1 1826 39) = (H86.1 1826 39) := hx301f.2.2 39 (by decide)
                  exact ⟨rfl, (Or.inr ⟨(by omega : (H309.1 1826 35) ≠ 0), GB_b hx309n (by omega)⟩), hf311, (by omega : (H.1 1826 30) ≤ (H309.1 1826 30) ∧ (H309.1 1826 30) ≤ (H.1 1826 29)), (by omega : 0 ≤ (H309.1 1826 35) ∧ (H309.1 1826 35) ≤ 5), (by omega : (H.1 1826 35) ≠ 0 → (H309.1 1826 35) ≠ 0), (by omega : 0 ≤ (H309.1 1826 32) ∧ (H309.1 1826 32) ≤ 1000), ha312, (fun (q : (H309.1 1826 35) = 0) => absurd q (by omega))⟩
              · skip
                clear hx68g
                refine h_run 1 (pc' := 110) (l' := [(0, .inr (.inr 1826)), (1, .inl (l : Int))]) (st' := [.inr (.inr 1826)]) rfl ?_
                refine h_cv (i := 379) (j := 185) (b := 1826) (M' := mt_185) (xs := []) (rest := []) rfl rfl rfl rfl rfl rfl (Nat.le_of_ble_eq_true rfl) (Nat.le_of_ble_eq_true rfl) (by omega) (m_beginTerm (by omega)) ?_
                rintro _ _ ⟨rfl, rfl⟩
                refine h_run 0 (pc' := 113) (l' := [(0, .inr (.inr 1826)), (1, .inl (l : Int))]) (st' := []) rfl ?_
                refine h_run 2 (pc' := 115) (l' := [(0, .inr (.inr 1826)), (1, .inl (l : Int))]) (st' := [.inl 2, .inr (.inr 1826)]) rfl ?_
                refine h_puti (i := 367) (ci := 13) (k := 44) (a := 1826) (x := 2) rfl rfl rfl rfl rfl rfl (by decide) (by decide) ?_
                refine h_run 1 (pc' := 119) (l' := [(0, .inr (.inr 1826)), (1, .inl (l : Int))]) (st' := [.inr (.inr 1826)]) rfl ?_
                refine h_cv (i := 293) (j := 158) (b := 1826) (M' := mt_158) (xs := []) (rest := []) rfl rfl rfl rfl rfl rfl (Nat.le_of_ble_eq_true rfl) (Nat.le_of_ble_eq_true rfl) (by omega) (m_good0 (by omega) (by omega : (H68.1 1826 35) ≠ 0)) ?_
                rintro _ _ ⟨rfl, rfl⟩
                refine h_run 0 (pc' := 122) (l' := [(0, .inr (.inr 1826)), (1, .inl (l : Int))]) (st' := [.inl 0]) rfl ?_
                refine h_zeq (off := 11) (t := 133) rfl rfl (by decide) (fun _ => ?_) (fun c => absurd c (by decide))
                refine h_run 1 (pc' := 134) (l' := [(0, .inr (.inr 1826)), (1, .inl (l : Int))]) (st' := [.inl (-1)]) rfl ?_
                refine h_run 1 (pc' := 135) (l' := [(0, .inr (.inr 1826)), (1, .inl (l : Int)), (2, .inl (-1))]) (st' := []) rfl ?_
                skip
                refine h_run 4 (pc' := 139) (l' := [(0, .inr (.inr 1826)), (1, .inl (l : Int)), (2, .inl (-1))]) (st' := [.inl (2 * (l : Int)), .inr (.inr 1826)]) rfl ?_
                have g349 : -2147483648 ≤ (H68.1 1826 19) ∧ (H68.1 1826 19) ≤ 2147483647 := hrg70.1 1826 13 19 _ .int rfl rfl
                have e350 : (H68.1 1826 19) = (H58.1 1826 19) := hx68f.2.2 19 (by decide)
                have e351 : (H58.1 1826 19) = (H39.1 1826 19) := hx58f.2.2 19 (by decide)
                rw [show (2 * (l : Int)) = ((2 * l : Nat) : Int) by omega]
                refine h_cv (i := 390) (j := 188) (b := 1826) (M' := mt_188) (xs := [.inl ((2 * l : Nat) : Int)]) (rest := []) rfl rfl rfl rfl rfl rfl (Nat.le_of_ble_eq_true rfl) (Nat.le_of_ble_eq_true rfl) (by omega) (m_keepSide (by omega) (s := 2 * l) (by omega : 2 * (H68.1 1826 19) ≤ ((2 * l : Nat) : Int) ∧ 2 * l ≤ 31) (by omega : (H68.1 1826 35) = 0 → 0 ≤ (0 : Int) ∧ (0 : Int) ≤ 40)) ?_
                rintro _ H352 ⟨rfl, hx352f, hx352g, hx352z, hx352b, hx352c⟩
                refine h_rng (fun hrg353 => ?_)
                have hf354 : fr [30, 31, 32, 33, 35, 36, 19, 39, 40, 41, 43, 44, 47] [1841, 1842, 1843, 1844, 1845, 1846, 1847, 1849, 1850, 1851, 1852, 1853, 1854] H H352 := fr_t (fr_o (fr_o (fr_o (fr_o (fr_o hf71 (by decide)) (by decide)) (by decide)) (by decide)) (by decide)) hx352f (by decide) (by decide)
                have ha355 : agp H H352 := agp_tr (agp_o (agp_o (agp_o (agp_o (agp_o ha72 (by decide)) (by decide)) (by decide)) (by decide)) (by decide)) hx352g
                replace hx352c : hid _ := hx352c
                refine h_run 0 (pc' := 142) (l' := [(0, .inr (.inr 1826)), (1, .inl (l : Int)), (2, .inl (-1))]) (st' := []) rfl ?_
                have hx352n : GB Y m c0 H352 False := Or.inr ⟨(by omega : (H352.1 1826 35) ≠ 0), BD_fr (BD_fr (GB_b hx68n (by omega)) (fr_o (fr_o (fr_o (fr_o (fr_o (fr_rf [39, 40, 41, 43, 44] [] H68) (by decide)) (by decide)) (by decide)) (by decide)) (by decide)) (by decide) (by decide)) hx352f (by decide) (by decide)⟩
                refine h_run 2 (pc' := 145) (l' := [(0, .inr (.inr 1826)), (1, .inl (l : Int)), (2, .inl (-1))]) (st' := [.inl 61, .inr (.inr 1826)]) rfl ?_
                have g356 : -2147483648 ≤ (H352.1 1826 35) ∧ (H352.1 1826 35) ≤ 2147483647 := hrg353.1 1826 13 35 _ .int rfl rfl
                have e357 : (H352.1 1826 35) = (H68.1 1826 35) := hx352f.2.2 35 (by decide)
                refine h_cv (i := 313) (j := 166) (b := 1826) (M' := mt_166) (xs := [.inl 61]) (rest := []) rfl rfl rfl rfl rfl rfl (Nat.le_of_ble_eq_true rfl) (Nat.le_of_ble_eq_true rfl) (by omega) (n_want0 (by omega) (by omega : (H352.1 1826 35) ≠ 0)) ?_
                rintro _ _ ⟨rfl, rfl⟩
                refine h_run 0 (pc' := 148) (l' := [(0, .inr (.inr 1826)), (1, .inl (l : Int)), (2, .inl (-1))]) (st' := []) rfl ?_
                refine h_run 2 (pc' := 150) (l' := [(0, .inr (.inr 1826)), (1, .inl (l : Int)), (2, .inl (-1))]) (st' := [.inl 0, .inr (.inr 1826)]) rfl ?_
                refine h_puti (i := 300) (ci := 13) (k := 40) (a := 1826) (x := 0) rfl rfl rfl rfl rfl rfl (by decide) (by decide) ?_
                refine h_run 2 (pc' := 155) (l' := [(0, .inr (.inr 1826)), (1, .inl (l : Int)), (2, .inl (-1))]) (st' := [.inl 0, .inr (.inr 1826)]) rfl ?_
                refine h_puti (i := 335) (ci := 13) (k := 41) (a := 1826) (x := 0) rfl rfl rfl rfl rfl rfl (by decide) (by decide) ?_
                refine h_run 2 (pc' := 160) (l' := [(0, .inr (.inr 1826)), (1, .inl (l : Int)), (2, .inl (-1))]) (st' := [.inl 0, .inr (.inr 1826)]) rfl ?_
                refine h_puti (i := 303) (ci := 13) (k := 43) (a := 1826) (x := 0) rfl rfl rfl rfl rfl rfl (by decide) (by decide) ?_
                refine h_run 1 (pc' := 164) (l' := [(0, .inr (.inr 1826)), (1, .inl (l : Int)), (2, .inl (-1))]) (st' := [.inr (.inr 1826)]) rfl ?_
                refine h_cv (i := 293) (j := 158) (b := 1826) (M' := mt_158) (xs := []) (rest := []) rfl rfl rfl rfl rfl rfl (Nat.le_of_ble_eq_true rfl) (Nat.le_of_ble_eq_true rfl) (by omega) (m_good0 (by omega) (by omega : (H352.1 1826 35) ≠ 0)) ?_
                rintro _ _ ⟨rfl, rfl⟩
                refine h_run 0 (pc' := 167) (l' := [(0, .inr (.inr 1826)), (1, .inl (l : Int)), (2, .inl (-1))]) (st' := [.inl 0]) rfl ?_
                refine h_zeq (off := 11) (t := 178) rfl rfl (by decide) (fun _ => ?_) (fun c => absurd c (by decide))
                refine h_run 1 (pc' := 179) (l' := [(0, .inr (.inr 1826)), (1, .inl (l : Int)), (2, .inl (-1))]) (st' := [.inl (-1)]) rfl ?_
                refine h_run 7 (pc' := 186) (l' := [(0, .inr (.inr 1826)), (1, .inl (l : Int)), (2, .inl (-1)), (3, .inl (-1))]) (st' := [.inl ((2 * (l : Int)) + 1), .inr (.inr 1826)]) rfl ?_
                have g358 : -2147483648 ≤ (H352.1 1826 19) ∧ (H352.1 1826 19) ≤ 2147483647 := hrg353.1 1826 13 19 _ .int rfl rfl
                have e359 : (H352.1 1826 19) = (H68.1 1826 19) := hx352f.2.2 19 (by decide)
                rw [show ((2 * (l : Int)) + 1) = ((2 * l + 1 : Nat) : Int) by omega]
                refine h_cv (i := 390) (j := 188) (b := 1826) (M' := mt_188) (xs := [.inl ((2 * l + 1 : Nat) : Int)]) (rest := []) rfl rfl rfl rfl rfl rfl (Nat.le_of_ble_eq_true rfl) (Nat.le_of_ble_eq_true rfl) (by omega) (m_keepSide (by omega) (s := 2 * l + 1) (by omega : 2 * (H352.1 1826 19) ≤ ((2 * l + 1 : Nat) : Int) ∧ 2 * l + 1 ≤ 31) (by omega : (H352.1 1826 35) = 0 → 0 ≤ (0 : Int) ∧ (0 : Int) ≤ 40)) ?_
                rintro _ H360 ⟨rfl, hx360f, hx360g, hx360z, hx360b, hx360c⟩
                refine h_rng (fun hrg361 => ?_)
                have hf362 : fr [30, 31, 32, 33, 35, 36, 19, 39, 40, 41, 43, 44, 47] [1841, 1842, 1843, 1844, 1845, 1846, 1847, 1849, 1850, 1851, 1852, 1853, 1854] H H360 := fr_t (fr_o (fr_o (fr_o hf354 (by decide)) (by decide)) (by decide)) hx360f (by decide) (by decide)
                have ha363 : agp H H360 := agp_tr (agp_o (agp_o (agp_o ha355 (by decide)) (by decide)) (by decide)) hx360g
                replace hx360c : hid _ := hx360c
                refine h_run 0 (pc' := 189) (l' := [(0, .inr (.inr 1826)), (1, .inl (l : Int)), (2, .inl (-1)), (3, .inl (-1))]) (st' := []) rfl ?_
                have hx360n : GB Y m c0 H360 False := Or.inr ⟨(by omega : (H360.1 1826 35) ≠ 0), BD_fr (BD_fr (GB_b hx352n (by omega)) (fr_o (fr_o (fr_o (fr_rf [40, 41, 43] [] H352) (by decide)) (by decide)) (by decide)) (by decide) (by decide)) hx360f (by decide) (by decide)⟩
                refine h_run 1 (pc' := 190) (l' := [(0, .inr (.inr 1826)), (1, .inl (l : Int)), (2, .inl (-1)), (3, .inl (-1))]) (st' := [.inr (.inr 1826)]) rfl ?_
                have g364 : -2147483648 ≤ (H360.1 1826 35) ∧ (H360.1 1826 35) ≤ 2147483647 := hrg361.1 1826 13 35 _ .int rfl rfl
                have e365 : (H360.1 1826 35) = (H352.1 1826 35) := hx360f.2.2 35 (by decide)
                refine h_cv (i := 293) (j := 158) (b := 1826) (M' := mt_158) (xs := []) (rest := []) rfl rfl rfl rfl rfl rfl (Nat.le_of_ble_eq_true rfl) (Nat.le_of_ble_eq_true rfl) (by omega) (m_good0 (by omega) (by omega : (H360.1 1826 35) ≠ 0)) ?_
                rintro _ _ ⟨rfl, rfl⟩
                refine h_run 0 (pc' := 193) (l' := [(0, .inr (.inr 1826)), (1, .inl (l : Int)), (2, .inl (-1)), (3, .inl (-1))]) (st' := [.inl 0]) rfl ?_
                refine h_zeq (off := 83) (t := 276) rfl rfl (by decide) (fun _ => ?_) (fun c => absurd c (by decide))
                refine h_ret rfl rfl ?_
                have g366 : -2147483648 ≤ (H360.1 1826 30) ∧ (H360.1 1826 30) ≤ 2147483647 := hrg361.1 1826 13 30 _ .int rfl rfl
                have e367 : (H360.1 1826 30) = (H352.1 1826 30) := hx360f.2.2 30 (by decide)
                have e368 : (H352.1 1826 30) = (H68.1 1826 30) := hx352f.2.2 30 (by decide)
                have g369 : -2147483648 ≤ (H360.1 1826 32) ∧ (H360.1 1826 32) ≤ 2147483647 := hrg361.1 1826 13 32 _ .int rfl rfl
                have e370 : (H360.1 1826 32) = (H352.1 1826 32) := hx360f.2.2 32 (by decide)
                have e371 : (H352.1 1826 32) = (H68.1 1826 32) := hx352f.2.2 32 (by decide)
                have g372 : -2147483648 ≤ (H360.1 1826 31) ∧ (H360.1 1826 31) ≤ 2147483647 := hrg361.1 1826 13 31 _ .int rfl rfl
                have e373 : (H360.1 1826 31) = (H352.1 1826 31) := hx360f.2.2 31 (by decide)
                have e374 : (H352.1 1826 31) = (H68.1 1826 31) := hx352f.2.2 31 (by decide)
                have g375 : -2147483648 ≤ (H360.1 1826 29) ∧ (H360.1 1826 29) ≤ 2147483647 := hrg361.1 1826 13 29 _ .int rfl rfl
                have e376 : (H360.1 1826 29) = (H352.1 1826 29) := hx360f.2.2 29 (by decide)
                have e377 : (H352.1 1826 29) = (H68.1 1826 29) := hx352f.2.2 29 (by decide)
                have e378 : (H68.1 1826 29) = (H58.1 1826 29) := hx68f.2.2 29 (by decide)
                have g379 : -2147483648 ≤ (H360.1 1826 1) ∧ (H360.1 1826 1) ≤ 2147483647 := hrg361.1 1826 13 1 _ .int rfl rfl
                have e380 : (H360.1 1826 1) = (H352.1 1826 1) := hx360f.2.2 1 (by decide)
                have e381 : (H352.1 1826 1) = (H68.1 1826 1) := hx352f.2.2 1 (by decide)
                have e382 : (H68.1 1826 1) = (H58.1 1826 1) := hx68f.2.2 1 (by decide)
                have e383 : (H58.1 1826 1) = (H39.1 1826 1) := hx58f.2.2 1 (by decide)
                have e384 : (H39.1 1826 1) = (H.1 1826 1) := hx39f.2.2 1 (by decide)
                have g385 : -2147483648 ≤ (H360.1 1826 3) ∧ (H360.1 1826 3) ≤ 2147483647 := hrg361.1 1826 13 3 _ .int rfl rfl
                have e386 : (H360.1 1826 3) = (H352.1 1826 3) := hx360f.2.2 3 (by decide)
                have e387 : (H352.1 1826 3) = (H68.1 1826 3) := hx352f.2.2 3 (by decide)
                have e388 : (H68.1 1826 3) = (H58.1 1826 3) := hx68f.2.2 3 (by decide)
                have e389 : (H58.1 1826 3) = (H39.1 1826 3) := hx58f.2.2 3 (by decide)
                have e390 : (H39.1 1826 3) = (H.1 1826 3) := hx39f.2.2 3 (by decide)
                have g391 : -2147483648 ≤ (H360.1 1826 8) ∧ (H360.1 1826 8) ≤ 2147483647 := hrg361.1 1826 13 8 _ .int rfl rfl
                have e392 : (H360.1 1826 8) = (H352.1 1826 8) := hx360f.2.2 8 (by decide)
                have e393 : (H352.1 1826 8) = (H68.1 1826 8) := hx352f.2.2 8 (by decide)
                have e394 : (H68.1 1826 8) = (H58.1 1826 8) := hx68f.2.2 8 (by decide)
                have e395 : (H58.1 1826 8) = (H39.1 1826 8) := hx58f.2.2 8 (by decide)
                have e396 : (H39.1 1826 8) = (H.1 1826 8) := hx39f.2.2 8 (by decide)
                have g397 : -2147483648 ≤ (H360.1 1826 13) ∧ (H360.1 1826 13) ≤ 2147483647 := hrg361.1 1826 13 13 _ .int rfl rfl
                have e398 : (H360.1 1826 13) = (H352.1 1826 13) := hx360f.2.2 13 (by decide)
                have e399 : (H352.1 1826 13) = (H68.1 1826 13) := hx352f.2.2 13 (by decide)
                have e400 : (H68.1 1826 13) = (H58.1 1826 13) := hx68f.2.2 13 (by decide)
                have e401 : (H58.1 1826 13) = (H39.1 1826 13) := hx58f.2.2 13 (by decide)
                have e402 : (H39.1 1826 13) = (H.1 1826 13) := hx39f.2.2 13 (by decide)
                have g403 : -2147483648 ≤ (H360.1 1826 19) ∧ (H360.1 1826 19) ≤ 2147483647 := hrg361.1 1826 13 19 _ .int rfl rfl
                have e404 : (H360.1 1826 19) = (H352.1 1826 19) := hx360f.2.2 19 (by decide)
                have g405 : -2147483648 ≤ (H360.1 1826 39) ∧ (H360.1 1826 39) ≤ 2147483647 := hrg361.1 1826 13 39 _ .int rfl rfl
                have e406 : (H360.1 1826 39) = (H352.1 1826 39) := hx360f.2.2 39 (by decide)
                have e407 : (H352.1 1826 39) = 0 := hx352f.2.2 39 (by decide)
                exact ⟨rfl, (Or.inr ⟨(by omega : (H360.1 1826 35) ≠ 0), GB_b hx360n (by omega)⟩), hf362, (by omega : (H.1 1826 30) ≤ (H360.1 1826 30) ∧ (H360.1 1826 30) ≤ (H.1 1826 29)), (by omega : 0 ≤ (H360.1 1826 35) ∧ (H360.1 1826 35) ≤ 5), (by omega : (H.1 1826 35) ≠ 0 → (H360.1 1826 35) ≠ 0), (by omega : 0 ≤ (H360.1 1826 32) ∧ (H360.1 1826 32) ≤ 1000), ha363, (fun (q : (H360.1 1826 35) = 0) => absurd q (by omega))⟩
            · skip
              clear hx58g
              refine h_run 2 (pc' := 106) (l' := [(0, .inr (.inr 1826)), (1, .inl (l : Int))]) (st' := [.inl 58, .inr (.inr 1826)]) rfl ?_
              refine h_cv (i := 313) (j := 166) (b := 1826) (M' := mt_166) (xs := [.inl 58]) (rest := []) rfl rfl rfl rfl rfl rfl (Nat.le_of_ble_eq_true rfl) (Nat.le_of_ble_eq_true rfl) (by omega) (n_want0 (by omega) (by omega : (H58.1 1826 35) ≠ 0)) ?_
              rintro _ _ ⟨rfl, rfl⟩
              refine h_run 0 (pc' := 109) (l' := [(0, .inr (.inr 1826)), (1, .inl (l : Int))]) (st' := []) rfl ?_
              refine h_run 1 (pc' := 110) (l' := [(0, .inr (.inr 1826)), (1, .inl (l : Int))]) (st' := [.inr (.inr 1826)]) rfl ?_
              refine h_cv (i := 379) (j := 185) (b := 1826) (M' := mt_185) (xs := []) (rest := []) rfl rfl rfl rfl rfl rfl (Nat.le_of_ble_eq_true rfl) (Nat.le_of_ble_eq_true rfl) (by omega) (m_beginTerm (by omega)) ?_
              rintro _ _ ⟨rfl, rfl⟩
              refine h_run 0 (pc' := 113) (l' := [(0, .inr (.inr 1826)), (1, .inl (l : Int))]) (st' := []) rfl ?_
              refine h_run 2 (pc' := 115) (l' := [(0, .inr (.inr 1826)), (1, .inl (l : Int))]) (st' := [.inl 2, .inr (.inr 1826)]) rfl ?_
              refine h_puti (i := 367) (ci := 13) (k := 44) (a := 1826) (x := 2) rfl rfl rfl rfl rfl rfl (by decide) (by decide) ?_
              refine h_run 1 (pc' := 119) (l' := [(0, .inr (.inr 1826)), (1, .inl (l : Int))]) (st' := [.inr (.inr 1826)]) rfl ?_
              refine h_cv (i := 293) (j := 158) (b := 1826) (M' := mt_158) (xs := []) (rest := []) rfl rfl rfl rfl rfl rfl (Nat.le_of_ble_eq_true rfl) (Nat.le_of_ble_eq_true rfl) (by omega) (m_good0 (by omega) (by omega : (H58.1 1826 35) ≠ 0)) ?_
              rintro _ _ ⟨rfl, rfl⟩
              refine h_run 0 (pc' := 122) (l' := [(0, .inr (.inr 1826)), (1, .inl (l : Int))]) (st' := [.inl 0]) rfl ?_
              refine h_zeq (off := 11) (t := 133) rfl rfl (by decide) (fun _ => ?_) (fun c => absurd c (by decide))
              refine h_run 1 (pc' := 134) (l' := [(0, .inr (.inr 1826)), (1, .inl (l : Int))]) (st' := [.inl (-1)]) rfl ?_
              refine h_run 1 (pc' := 135) (l' := [(0, .inr (.inr 1826)), (1, .inl (l : Int)), (2, .inl (-1))]) (st' := []) rfl ?_
              skip
              refine h_run 4 (pc' := 139) (l' := [(0, .inr (.inr 1826)), (1, .inl (l : Int)), (2, .inl (-1))]) (st' := [.inl (2 * (l : Int)), .inr (.inr 1826)]) rfl ?_
              have g408 : -2147483648 ≤ (H58.1 1826 19) ∧ (H58.1 1826 19) ≤ 2147483647 := hrg59.1 1826 13 19 _ .int rfl rfl
              have e409 : (H58.1 1826 19) = (H39.1 1826 19) := hx58f.2.2 19 (by decide)
              rw [show (2 * (l : Int)) = ((2 * l : Nat) : Int) by omega]
              refine h_cv (i := 390) (j := 188) (b := 1826) (M' := mt_188) (xs := [.inl ((2 * l : Nat) : Int)]) (rest := []) rfl rfl rfl rfl rfl rfl (Nat.le_of_ble_eq_true rfl) (Nat.le_of_ble_eq_true rfl) (by omega) (m_keepSide (by omega) (s := 2 * l) (by omega : 2 * (H58.1 1826 19) ≤ ((2 * l : Nat) : Int) ∧ 2 * l ≤ 31) (by omega : (H58.1 1826 35) = 0 → 0 ≤ (0 : Int) ∧ (0 : Int) ≤ 40)) ?_
              rintro _ H410 ⟨rfl, hx410f, hx410g, hx410z, hx410b, hx410c⟩
              refine h_rng (fun hrg411 => ?_)
              have hf412 : fr [30, 31, 32, 33, 35, 36, 19, 39, 40, 41, 43, 44, 47] [1841, 1842, 1843, 1844, 1845, 1846, 1847, 1849, 1850, 1851, 1852, 1853, 1854] H H410 := fr_t (fr_o (fr_o (fr_o (fr_o (fr_o hf60 (by decide)) (by decide)) (by decide)) (by decide)) (by decide)) hx410f (by decide) (by decide)
              have ha413 : agp H H410 := agp_tr (agp_o (agp_o (agp_o (agp_o (agp_o ha61 (by decide)) (by decide)) (by decide)) (by decide)) (by decide)) hx410g
              replace hx410c : hid _ := hx410c
              refine h_run 0 (pc' := 142) (l' := [(0, .inr (.inr 1826)), (1, .inl (l : Int)), (2, .inl (-1))]) (st' := []) rfl ?_
              have hx410n : GB Y m c0 H410 False := Or.inr ⟨(by omega : (H410.1 1826 35) ≠ 0), BD_fr (BD_fr (GB_b hx58n (by omega)) (fr_o (fr_o (fr_o (fr_o (fr_o (fr_rf [39, 40, 41, 43, 44] [] H58) (by decide)) (by decide)) (by decide)) (by decide)) (by decide)) (by decide) (by decide)) hx410f (by decide) (by decide)⟩
              refine h_run 2 (pc' := 145) (l' := [(0, .inr (.inr 1826)), (1, .inl (l : Int)), (2, .inl (-1))]) (st' := [.inl 61, .inr (.inr 1826)]) rfl ?_
              have g414 : -2147483648 ≤ (H410.1 1826 35) ∧ (H410.1 1826 35) ≤ 2147483647 := hrg411.1 1826 13 35 _ .int rfl rfl
              have e415 : (H410.1 1826 35) = (H58.1 1826 35) := hx410f.2.2 35 (by decide)
              refine h_cv (i := 313) (j := 166) (b := 1826) (M' := mt_166) (xs := [.inl 61]) (rest := []) rfl rfl rfl rfl rfl rfl (Nat.le_of_ble_eq_true rfl) (Nat.le_of_ble_eq_true rfl) (by omega) (n_want0 (by omega) (by omega : (H410.1 1826 35) ≠ 0)) ?_
              rintro _ _ ⟨rfl, rfl⟩
              refine h_run 0 (pc' := 148) (l' := [(0, .inr (.inr 1826)), (1, .inl (l : Int)), (2, .inl (-1))]) (st' := []) rfl ?_
              refine h_run 2 (pc' := 150) (l' := [(0, .inr (.inr 1826)), (1, .inl (l : Int)), (2, .inl (-1))]) (st' := [.inl 0, .inr (.inr 1826)]) rfl ?_
              refine h_puti (i := 300) (ci := 13) (k := 40) (a := 1826) (x := 0) rfl rfl rfl rfl rfl rfl (by decide) (by decide) ?_
              refine h_run 2 (pc' := 155) (l' := [(0, .inr (.inr 1826)), (1, .inl (l : Int)), (2, .inl (-1))]) (st' := [.inl 0, .inr (.inr 1826)]) rfl ?_
              refine h_puti (i := 335) (ci := 13) (k := 41) (a := 1826) (x := 0) rfl rfl rfl rfl rfl rfl (by decide) (by decide) ?_
              refine h_run 2 (pc' := 160) (l' := [(0, .inr (.inr 1826)), (1, .inl (l : Int)), (2, .inl (-1))]) (st' := [.inl 0, .inr (.inr 1826)]) rfl ?_
              refine h_puti (i := 303) (ci := 13) (k := 43) (a := 1826) (x := 0) rfl rfl rfl rfl rfl rfl (by decide) (by decide) ?_
              refine h_run 1 (pc' := 164) (l' := [(0, .inr (.inr 1826)), (1, .inl (l : Int)), (2, .inl (-1))]) (st' := [.inr (.inr 1826)]) rfl ?_
              refine h_cv (i := 293) (j := 158) (b := 1826) (M' := mt_158) (xs := []) (rest := []) rfl rfl rfl rfl rfl rfl (Nat.le_of_ble_eq_true rfl) (Nat.le_of_ble_eq_true rfl) (by omega) (m_good0 (by omega) (by omega : (H410.1 1826 35) ≠ 0)) ?_
              rintro _ _ ⟨rfl, rfl⟩
              refine h_run 0 (pc' := 167) (l' := [(0, .inr (.inr 1826)), (1, .inl (l : Int)), (2, .inl (-1))]) (st' := [.inl 0]) rfl ?_
              refine h_zeq (off := 11) (t := 178) rfl rfl (by decide) (fun _ => ?_) (fun c => absurd c (by decide))
              refine h_run 1 (pc' := 179) (l' := [(0, .inr (.inr 1826)), (1, .inl (l : Int)), (2, .inl (-1))]) (st' := [.inl (-1)]) rfl ?_
              refine h_run 7 (pc' := 186) (l' := [(0, .inr (.inr 1826)), (1, .inl (l : Int)), (2, .inl (-1)), (3, .inl (-1))]) (st' := [.inl ((2 * (l : Int)) + 1), .inr (.inr 1826)]) rfl ?_
              have g416 : -2147483648 ≤ (H410.1 1826 19) ∧ (H410.1 1826 19) ≤ 2147483647 := hrg411.1 1826 13 19 _ .int rfl rfl
              have e417 : (H410.1 1826 19) = (H58.1 1826 19) := hx410f.2.2 19 (by decide)
              rw [show ((2 * (l : Int)) + 1) = ((2 * l + 1 : Nat) : Int) by omega]
              refine h_cv (i := 390) (j := 188) (b := 1826) (M' := mt_188) (xs := [.inl ((2 * l + 1 : Nat) : Int)]) (rest := []) rfl rfl rfl rfl rfl rfl (Nat.le_of_ble_eq_true rfl) (Nat.le_of_ble_eq_true rfl) (by omega) (m_keepSide (by omega) (s := 2 * l + 1) (by omega : 2 * (H410.1 1826 19) ≤ ((2 * l + 1 : Nat) : Int) ∧ 2 * l + 1 ≤ 31) (by omega : (H410.1 1826 35) = 0 → 0 ≤ (0 : Int) ∧ (0 : Int) ≤ 40)) ?_
              rintro _ H418 ⟨rfl, hx418f, hx418g, hx418z, hx418b, hx418c⟩
              refine h_rng (fun hrg419 => ?_)
              have hf420 : fr [30, 31, 32, 33, 35, 36, 19, 39, 40, 41, 43, 44, 47] [1841, 1842, 1843, 1844, 1845, 1846, 1847, 1849, 1850, 1851, 1852, 1853, 1854] H H418 := fr_t (fr_o (fr_o (fr_o hf412 (by decide)) (by decide)) (by decide)) hx418f (by decide) (by decide)
              have ha421 : agp H H418 := agp_tr (agp_o (agp_o (agp_o ha413 (by decide)) (by decide)) (by decide)) hx418g
              replace hx418c : hid _ := hx418c
              refine h_run 0 (pc' := 189) (l' := [(0, .inr (.inr 1826)), (1, .inl (l : Int)), (2, .inl (-1)), (3, .inl (-1))]) (st' := []) rfl ?_
              have hx418n : GB Y m c0 H418 False := Or.inr ⟨(by omega : (H418.1 1826 35) ≠ 0), BD_fr (BD_fr (GB_b hx410n (by omega)) (fr_o (fr_o (fr_o (fr_rf [40, 41, 43] [] H410) (by decide)) (by decide)) (by decide)) (by decide) (by decide)) hx418f (by decide) (by decide)⟩
              refine h_run 1 (pc' := 190) (l' := [(0, .inr (.inr 1826)), (1, .inl (l : Int)), (2, .inl (-1)), (3, .inl (-1))]) (st' := [.inr (.inr 1826)]) rfl ?_
              have g422 : -2147483648 ≤ (H418.1 1826 35) ∧ (H418.1 1826 35) ≤ 2147483647 := hrg419.1 1826 13 35 _ .int rfl rfl
              have e423 : (H418.1 1826 35) = (H410.1 1826 35) := hx418f.2.2 35 (by decide)
              refine h_cv (i := 293) (j := 158) (b := 1826) (M' := mt_158) (xs := []) (rest := []) rfl rfl rfl rfl rfl rfl (Nat.le_of_ble_eq_true rfl) (Nat.le_of_ble_eq_true rfl) (by omega) (m_good0 (by omega) (by omega : (H418.1 1826 35) ≠ 0)) ?_
              rintro _ _ ⟨rfl, rfl⟩
              refine h_run 0 (pc' := 193) (l' := [(0, .inr (.inr 1826)), (1, .inl (l : Int)), (2, .inl (-1)), (3, .inl (-1))]) (st' := [.inl 0]) rfl ?_
              refine h_zeq (off := 83) (t := 276) rfl rfl (by decide) (fun _ => ?_) (fun c => absurd c (by decide))
              refine h_ret rfl rfl ?_
              have g424 : -2147483648 ≤ (H418.1 1826 30) ∧ (H418.1 1826 30) ≤ 2147483647 := hrg419.1 1826 13 30 _ .int rfl rfl
              have e425 : (H418.1 1826 30) = (H410.1 1826 30) := hx418f.2.2 30 (by decide)
              have e426 : (H410.1 1826 30) = (H58.1 1826 30) := hx410f.2.2 30 (by decide)
              have g427 : -2147483648 ≤ (H418.1 1826 32) ∧ (H418.1 1826 32) ≤ 2147483647 := hrg419.1 1826 13 32 _ .int rfl rfl
              have e428 : (H418.1 1826 32) = (H410.1 1826 32) := hx418f.2.2 32 (by decide)
              have e429 : (H410.1 1826 32) = (H58.1 1826 32) := hx410f.2.2 32 (by decide)
              have g430 : -2147483648 ≤ (H418.1 1826 31) ∧ (H418.1 1826 31) ≤ 2147483647 := hrg419.1 1826 13 31 _ .int rfl rfl
              have e431 : (H418.1 1826 31) = (H410.1 1826 31) := hx418f.2.2 31 (by decide)
              have e432 : (H410.1 1826 31) = (H58.1 1826 31) := hx410f.2.2 31 (by decide)
              have g433 : -2147483648 ≤ (H418.1 1826 29) ∧ (H418.1 1826 29) ≤ 2147483647 := hrg419.1 1826 13 29 _ .int rfl rfl
              have e434 : (H418.1 1826 29) = (H410.1 1826 29) := hx418f.2.2 29 (by decide)
              have e435 : (H410.1 1826 29) = (H58.1 1826 29) := hx410f.2.2 29 (by decide)
              have e436 : (H58.1 1826 29) = (H39.1 1826 29) := hx58f.2.2 29 (by decide)
              have g437 : -2147483648 ≤ (H418.1 1826 1) ∧ (H418.1 1826 1) ≤ 2147483647 := hrg419.1 1826 13 1 _ .int rfl rfl
              have e438 : (H418.1 1826 1) = (H410.1 1826 1) := hx418f.2.2 1 (by decide)
              have e439 : (H410.1 1826 1) = (H58.1 1826 1) := hx410f.2.2 1 (by decide)
              have e440 : (H58.1 1826 1) = (H39.1 1826 1) := hx58f.2.2 1 (by decide)
              have e441 : (H39.1 1826 1) = (H.1 1826 1) := hx39f.2.2 1 (by decide)
              have g442 : -2147483648 ≤ (H418.1 1826 3) ∧ (H418.1 1826 3) ≤ 2147483647 := hrg419.1 1826 13 3 _ .int rfl rfl
              have e443 : (H418.1 1826 3) = (H410.1 1826 3) := hx418f.2.2 3 (by decide)
              have e444 : (H410.1 1826 3) = (H58.1 1826 3) := hx410f.2.2 3 (by decide)
              have e445 : (H58.1 1826 3) = (H39.1 1826 3) := hx58f.2.2 3 (by decide)
              have e446 : (H39.1 1826 3) = (H.1 1826 3) := hx39f.2.2 3 (by decide)
              have g447 : -2147483648 ≤ (H418.1 1826 8) ∧ (H418.1 1826 8) ≤ 2147483647 := hrg419.1 1826 13 8 _ .int rfl rfl
              have e448 : (H418.1 1826 8) = (H410.1 1826 8) := hx418f.2.2 8 (by decide)
              have e449 : (H410.1 1826 8) = (H58.1 1826 8) := hx410f.2.2 8 (by decide)
              have e450 : (H58.1 1826 8) = (H39.1 1826 8) := hx58f.2.2 8 (by decide)
              have e451 : (H39.1 1826 8) = (H.1 1826 8) := hx39f.2.2 8 (by decide)
              have g452 : -2147483648 ≤ (H418.1 1826 13) ∧ (H418.1 1826 13) ≤ 2147483647 := hrg419.1 1826 13 13 _ .int rfl rfl
              have e453 : (H418.1 1826 13) = (H410.1 1826 13) := hx418f.2.2 13 (by decide)
              have e454 : (H410.1 1826 13) = (H58.1 1826 13) := hx410f.2.2 13 (by decide)
              have e455 : (H58.1 1826 13) = (H39.1 1826 13) := hx58f.2.2 13 (by decide)
              have e456 : (H39.1 1826 13) = (H.1 1826 13) := hx39f.2.2 13 (by decide)
              have g457 : -2147483648 ≤ (H418.1 1826 19) ∧ (H418.1 1826 19) ≤ 2147483647 := hrg419.1 1826 13 19 _ .int rfl rfl
              have e458 : (H418.1 1826 19) = (H410.1 1826 19) := hx418f.2.2 19 (by decide)
              have g459 : -2147483648 ≤ (H418.1 1826 39) ∧ (H418.1 1826 39) ≤ 2147483647 := hrg419.1 1826 13 39 _ .int rfl rfl
              have e460 : (H418.1 1826 39) = (H410.1 1826 39) := hx418f.2.2 39 (by decide)
              have e461 : (H410.1 1826 39) = 0 := hx410f.2.2 39 (by decide)
              exact ⟨rfl, (Or.inr ⟨(by omega : (H418.1 1826 35) ≠ 0), GB_b hx418n (by omega)⟩), hf420, (by omega : (H.1 1826 30) ≤ (H418.1 1826 30) ∧ (H418.1 1826 30) ≤ (H.1 1826 29)), (by omega : 0 ≤ (H418.1 1826 35) ∧ (H418.1 1826 35) ≤ 5), (by omega : (H.1 1826 35) ≠ 0 → (H418.1 1826 35) ≠ 0), (by omega : 0 ≤ (H418.1 1826 32) ∧ (H418.1 1826 32) ≤ 1000), ha421, (fun (q : (H418.1 1826 35) = 0) => absurd q (by omega))⟩
          · refine h_run 2 (pc' := 73) (l' := [(0, .inr (.inr 1826))]) (st' := [.inl 5, .inr (.inr 1826)]) rfl ?_
            refine h_cv (i := 278) (j := 159) (b := 1826) (M' := mt_159) (xs := [.inl 5]) (rest := []) rfl rfl rfl rfl rfl rfl (Nat.le_of_ble_eq_true rfl) (Nat.le_of_ble_eq_true rfl) (by omega) (m_bad0 (by omega) (by omega) (by omega : (H39.1 1826 35) = 0)) ?_
            rintro _ _ ⟨rfl, rfl⟩
            refine h_run 0 (pc' := 76) (l' := [(0, .inr (.inr 1826))]) (st' := []) rfl ?_
            refine h_run 1 (pc' := 77) (l' := [(0, .inr (.inr 1826))]) (st' := [.inr (.inr 1826)]) rfl ?_
            refine h_cv (i := 293) (j := 158) (b := 1826) (M' := mt_158) (xs := []) (rest := []) rfl rfl rfl rfl rfl rfl (Nat.le_of_ble_eq_true rfl) (Nat.le_of_ble_eq_true rfl) (by omega) (m_good0 (by omega) (by omega : (5 : Int) ≠ 0)) ?_
            rintro _ _ ⟨rfl, rfl⟩
            refine h_run 0 (pc' := 80) (l' := [(0, .inr (.inr 1826))]) (st' := [.inl 0]) rfl ?_
            refine h_zne (off := 4) (t := 84) rfl rfl (by decide) (fun c => absurd c (by decide)) (fun _ => ?_)
            refine h_ret rfl rfl ?_
            have g462 : -2147483648 ≤ (H39.1 1826 30) ∧ (H39.1 1826 30) ≤ 2147483647 := hrg40.1 1826 13 30 _ .int rfl rfl
            have g463 : -2147483648 ≤ (H39.1 1826 32) ∧ (H39.1 1826 32) ≤ 2147483647 := hrg40.1 1826 13 32 _ .int rfl rfl
            have g464 : -2147483648 ≤ (H39.1 1826 29) ∧ (H39.1 1826 29) ≤ 2147483647 := hrg40.1 1826 13 29 _ .int rfl rfl
            have e465 : (H39.1 1826 29) = (H.1 1826 29) := hx39f.2.2 29 (by decide)
            have g466 : -2147483648 ≤ (H39.1 1826 1) ∧ (H39.1 1826 1) ≤ 2147483647 := hrg40.1 1826 13 1 _ .int rfl rfl
            have e467 : (H39.1 1826 1) = (H.1 1826 1) := hx39f.2.2 1 (by decide)
            have g468 : -2147483648 ≤ (H39.1 1826 3) ∧ (H39.1 1826 3) ≤ 2147483647 := hrg40.1 1826 13 3 _ .int rfl rfl
            have e469 : (H39.1 1826 3) = (H.1 1826 3) := hx39f.2.2 3 (by decide)
            have g470 : -2147483648 ≤ (H39.1 1826 8) ∧ (H39.1 1826 8) ≤ 2147483647 := hrg40.1 1826 13 8 _ .int rfl rfl
            have e471 : (H39.1 1826 8) = (H.1 1826 8) := hx39f.2.2 8 (by decide)
            have g472 : -2147483648 ≤ (H39.1 1826 13) ∧ (H39.1 1826 13) ≤ 2147483647 := hrg40.1 1826 13 13 _ .int rfl rfl
            have e473 : (H39.1 1826 13) = (H.1 1826 13) := hx39f.2.2 13 (by decide)
            have g474 : -2147483648 ≤ (H39.1 1826 39) ∧ (H39.1 1826 39) ≤ 2147483647 := hrg40.1 1826 13 39 _ .int rfl rfl
            have e475 : (H39.1 1826 39) = (H.1 1826 39) := hx39f.2.2 39 (by decide)
            exact ⟨rfl, (Or.inr ⟨(by omega : (5 : Int) ≠ 0), (BD_mk hR1 (fr_o (fr_o (fr_rf [35, 36] [] H39) (by decide)) (by decide)) (by decide) (by decide) (by decide : (5 : Int) ≠ 0) rfl rfl (rch_st hq (by show stDec Y nn K X = _; unfold stDec miss; (repeat (first | rw [if_pos (by omega)] | rw [if_neg (by omega)])); try rfl)))⟩), (fr_o (fr_o hf41 (by decide)) (by decide)), (by omega : (H.1 1826 30) ≤ (H39.1 1826 30) ∧ (H39.1 1826 30) ≤ (H.1 1826 29)), (by omega : 0 ≤ (5 : Int) ∧ (5 : Int) ≤ 5), (by omega : (H.1 1826 35) ≠ 0 → (5 : Int) ≠ 0), (by omega : 0 ≤ (H39.1 1826 32) ∧ (H39.1 1826 32) ≤ 1000), (agp_o (agp_o ha42 (by decide)) (by decide)), (fun (q : (5 : Int) = 0) => absurd q (by omega))⟩
        · refine h_run 2 (pc' := 52) (l' := [(0, .inr (.inr 1826))]) (st' := [.inl 3, .inr (.inr 1826)]) rfl ?_
          refine h_cv (i := 278) (j := 159) (b := 1826) (M' := mt_159) (xs := [.inl 3]) (rest := []) rfl rfl rfl rfl rfl rfl (Nat.le_of_ble_eq_true rfl) (Nat.le_of_ble_eq_true rfl) (by omega) (m_bad0 (by omega) (by omega) (by omega : (H39.1 1826 35) = 0)) ?_
          rintro _ _ ⟨rfl, rfl⟩
          refine h_run 0 (pc' := 55) (l' := [(0, .inr (.inr 1826))]) (st' := []) rfl ?_
          refine h_run 1 (pc' := 56) (l' := [(0, .inr (.inr 1826))]) (st' := [.inr (.inr 1826)]) rfl ?_
          refine h_cv (i := 293) (j := 158) (b := 1826) (M' := mt_158) (xs := []) (rest := []) rfl rfl rfl rfl rfl rfl (Nat.le_of_ble_eq_true rfl) (Nat.le_of_ble_eq_true rfl) (by omega) (m_good0 (by omega) (by omega : (3 : Int) ≠ 0)) ?_
          rintro _ _ ⟨rfl, rfl⟩
          refine h_run 0 (pc' := 59) (l' := [(0, .inr (.inr 1826))]) (st' := [.inl 0]) rfl ?_
          refine h_zeq (off := 17) (t := 76) rfl rfl (by decide) (fun _ => ?_) (fun c => absurd c (by decide))
          refine h_run 1 (pc' := 77) (l' := [(0, .inr (.inr 1826))]) (st' := [.inr (.inr 1826)]) rfl ?_
          refine h_cv (i := 293) (j := 158) (b := 1826) (M' := mt_158) (xs := []) (rest := []) rfl rfl rfl rfl rfl rfl (Nat.le_of_ble_eq_true rfl) (Nat.le_of_ble_eq_true rfl) (by omega) (m_good0 (by omega) (by omega : (3 : Int) ≠ 0)) ?_
          rintro _ _ ⟨rfl, rfl⟩
          refine h_run 0 (pc' := 80) (l' := [(0, .inr (.inr 1826))]) (st' := [.inl 0]) rfl ?_
          refine h_zne (off := 4) (t := 84) rfl rfl (by decide) (fun c => absurd c (by decide)) (fun _ => ?_)
          refine h_ret rfl rfl ?_
          have g476 : -2147483648 ≤ (H39.1 1826 30) ∧ (H39.1 1826 30) ≤ 2147483647 := hrg40.1 1826 13 30 _ .int rfl rfl
          have g477 : -2147483648 ≤ (H39.1 1826 32) ∧ (H39.1 1826 32) ≤ 2147483647 := hrg40.1 1826 13 32 _ .int rfl rfl
          have g478 : -2147483648 ≤ (H39.1 1826 29) ∧ (H39.1 1826 29) ≤ 2147483647 := hrg40.1 1826 13 29 _ .int rfl rfl
          have e479 : (H39.1 1826 29) = (H.1 1826 29) := hx39f.2.2 29 (by decide)
          have g480 : -2147483648 ≤ (H39.1 1826 1) ∧ (H39.1 1826 1) ≤ 2147483647 := hrg40.1 1826 13 1 _ .int rfl rfl
          have e481 : (H39.1 1826 1) = (H.1 1826 1) := hx39f.2.2 1 (by decide)
          have g482 : -2147483648 ≤ (H39.1 1826 3) ∧ (H39.1 1826 3) ≤ 2147483647 := hrg40.1 1826 13 3 _ .int rfl rfl
          have e483 : (H39.1 1826 3) = (H.1 1826 3) := hx39f.2.2 3 (by decide)
          have g484 : -2147483648 ≤ (H39.1 1826 8) ∧ (H39.1 1826 8) ≤ 2147483647 := hrg40.1 1826 13 8 _ .int rfl rfl
          have e485 : (H39.1 1826 8) = (H.1 1826 8) := hx39f.2.2 8 (by decide)
          have g486 : -2147483648 ≤ (H39.1 1826 13) ∧ (H39.1 1826 13) ≤ 2147483647 := hrg40.1 1826 13 13 _ .int rfl rfl
          have e487 : (H39.1 1826 13) = (H.1 1826 13) := hx39f.2.2 13 (by decide)
          have g488 : -2147483648 ≤ (H39.1 1826 39) ∧ (H39.1 1826 39) ≤ 2147483647 := hrg40.1 1826 13 39 _ .int rfl rfl
          have e489 : (H39.1 1826 39) = (H.1 1826 39) := hx39f.2.2 39 (by decide)
          exact ⟨rfl, (Or.inr ⟨(by omega : (3 : Int) ≠ 0), (BD_mk hR1 (fr_o (fr_o (fr_rf [35, 36] [] H39) (by decide)) (by decide)) (by decide) (by decide) (by decide : (3 : Int) ≠ 0) rfl rfl (rch_st hq (by show stDec Y nn K X = _; unfold stDec miss; (repeat (first | rw [if_pos (by omega)] | rw [if_neg (by omega)])); try rfl)))⟩), (fr_o (fr_o hf41 (by decide)) (by decide)), (by omega : (H.1 1826 30) ≤ (H39.1 1826 30) ∧ (H39.1 1826 30) ≤ (H.1 1826 29)), (by omega : 0 ≤ (3 : Int) ∧ (3 : Int) ≤ 5), (by omega : (H.1 1826 35) ≠ 0 → (3 : Int) ≠ 0), (by omega : 0 ≤ (H39.1 1826 32) ∧ (H39.1 1826 32) ≤ 1000), (agp_o (agp_o ha42 (by decide)) (by decide)), (fun (q : (3 : Int) = 0) => absurd q (by omega))⟩
      · refine h_run 0 (pc' := 46) (l' := [(0, .inr (.inr 1826))]) (st' := [.inl (-1)]) rfl ?_
        refine h_run 1 (pc' := 47) (l' := [(0, .inr (.inr 1826))]) (st' := [.inl (-1), .inl (-1)]) rfl ?_
        refine h_ieq (off := 8) (t := 55) rfl rfl (by decide) (by decide) (fun _ => ?_) (fun c => absurd c (by decide))
        refine h_run 1 (pc' := 56) (l' := [(0, .inr (.inr 1826))]) (st' := [.inr (.inr 1826)]) rfl ?_
        refine h_cv (i := 293) (j := 158) (b := 1826) (M' := mt_158) (xs := []) (rest := []) rfl rfl rfl rfl rfl rfl (Nat.le_of_ble_eq_true rfl) (Nat.le_of_ble_eq_true rfl) (by omega) (m_good1 (by omega) (by omega : (H39.1 1826 35) = 0)) ?_
        rintro _ _ ⟨rfl, rfl⟩
        refine h_run 0 (pc' := 59) (l' := [(0, .inr (.inr 1826))]) (st' := [.inl 1]) rfl ?_
        refine h_zeq (off := 17) (t := 76) rfl rfl (by decide) (fun c => absurd c (by decide)) (fun _ => ?_)
        refine h_run 2 (pc' := 66) (l' := [(0, .inr (.inr 1826))]) (st' := [.inl (H39.1 1826 19)]) rfl ?_
        refine h_run 1 (pc' := 68) (l' := [(0, .inr (.inr 1826))]) (st' := [.inl 16, .inl (H39.1 1826 19)]) rfl ?_
        refine h_ine (off := 8) (t := 76) rfl rfl (by omega) (by decide) (fun c490 => ?_) (fun c490 => ?_)
        · refine h_run 1 (pc' := 77) (l' := [(0, .inr (.inr 1826))]) (st' := [.inr (.inr 1826)]) rfl ?_
          refine h_cv (i := 293) (j := 158) (b := 1826) (M' := mt_158) (xs := []) (rest := []) rfl rfl rfl rfl rfl rfl (Nat.le_of_ble_eq_true rfl) (Nat.le_of_ble_eq_true rfl) (by omega) (m_good1 (by omega) (by omega : (H39.1 1826 35) = 0)) ?_
          rintro _ _ ⟨rfl, rfl⟩
          refine h_run 0 (pc' := 80) (l' := [(0, .inr (.inr 1826))]) (st' := [.inl 1]) rfl ?_
          refine h_zne (off := 4) (t := 84) rfl rfl (by decide) (fun _ => ?_) (fun c => absurd c (by decide))
          refine h_run 2 (pc' := 88) (l' := [(0, .inr (.inr 1826))]) (st' := [.inl (H39.1 1826 19)]) rfl ?_
          refine h_run 1 (pc' := 89) (l' := [(0, .inr (.inr 1826)), (1, .inl (H39.1 1826 19))]) (st' := []) rfl ?_
          obtain ⟨l, hl⟩ : ∃ k9 : Nat, (H39.1 1826 19) = (k9 : Int) := ⟨((H39.1 1826 19)).toNat, by omega⟩
          rw [show (H39.1 1826 19) = (l : Int) from hl]
          refine h_run 5 (pc' := 98) (l' := [(0, .inr (.inr 1826)), (1, .inl (l : Int))]) (st' := [.inr (.inl (H39.1 1826 33)), .inl (l : Int), .inr (.inr 1841)]) rfl ?_
          refine h_lst (c := 1841) (j := l) (i := (l : Int)) (x := (H39.1 1826 33)) rfl rfl (by decide) (by decide) rfl (by omega) (by first | omega | exact z_long _) ?_
          have hq3 : rch Y c0 ((1, 58, 0, 0) :: (2, -2, 0, 0) :: ((1, 61, 0, 0) :: (14, 0, 0, 0) :: ((15, 0, 0, 0) :: ((1, 59, 0, 0) :: (6, nn + 1, 0, 0) :: K))), (xl (adv X) l (tn Y (xi (adv X))))) := by rw [show l = (X 0 7).toNat by omega]; exact (rch_st hq (by show stDec Y nn K X = _; unfold stDec miss; (repeat (first | rw [if_pos (by omega)] | rw [if_neg (by omega)])); try rfl))
          refine h_run 1 (pc' := 100) (l' := [(0, .inr (.inr 1826)), (1, .inl (l : Int))]) (st' := [.inr (.inr 1826)]) rfl ?_
          have g491 : -2147483648 ≤ (H39.1 1826 30) ∧ (H39.1 1826 30) ≤ 2147483647 := hrg40.1 1826 13 30 _ .int rfl rfl
          have g492 : -2147483648 ≤ (H39.1 1826 29) ∧ (H39.1 1826 29) ≤ 2147483647 := hrg40.1 1826 13 29 _ .int rfl rfl
          have e493 : (H39.1 1826 29) = (H.1 1826 29) := hx39f.2.2 29 (by decide)
          have g494 : -2147483648 ≤ (H39.1 1826 32) ∧ (H39.1 1826 32) ≤ 2147483647 := hrg40.1 1826 13 32 _ .int rfl rfl
          refine h_cv (i := 297) (j := 165) (b := 1826) (M' := mt_165) (xs := []) (rest := []) rfl rfl rfl rfl rfl rfl (Nat.le_of_ble_eq_true rfl) (Nat.le_of_ble_eq_true rfl) (by omega) (n_nx (by omega) (by omega : 0 ≤ (H39.1 1826 30) ∧ (H39.1 1826 30) ≤ (H39.1 1826 29) ∧ (H39.1 1826 29) ≤ 1000) (by omega : 0 ≤ (H39.1 1826 35) ∧ (H39.1 1826 35) ≤ 5) (by omega : 0 ≤ (H39.1 1826 32) ∧ (H39.1 1826 32) ≤ 1000) (by omega : (H39.1 1826 35) = 0) (X := (xl (adv X) l (tn Y (xi (adv X))))) (RN_mk hR1 (fr_a (fr_rf [] [1841] H39) (by decide)) (by decide) (by decide) (xl_s _ _ _).1 (by rw [← RK_n hR1 (Or.inl (by omega))]; exact TA_ln hR1.2.2.2.2 (by omega))) hq3 (lk_1 (by decide))) ?_
          rintro _ H495 ⟨rfl, hx495n, hx495f, hx495a, hx495b, hx495c, -, hx495e, hx495g⟩
          refine h_rng (fun hrg496 => ?_)
          have hf497 : fr [30, 31, 32, 33, 35, 36, 19, 39, 40, 41, 43, 44, 47] [1841, 1842, 1843, 1844, 1845, 1846, 1847, 1849, 1850, 1851, 1852, 1853, 1854] H H495 := fr_t (fr_a hf41 (by decide)) hx495f (by decide) (by decide)
          have ha498 : agp H H495 := agp_tr (agp_a ha42 (by decide)) (agp_fr hx495f (by decide) (by decide))
          replace hx495a : (H39.1 1826 30) ≤ (H495.1 1826 30) := hx495a
          replace hx495b : (H495.1 1826 30) ≤ (H39.1 1826 29) := hx495b
          replace hx495g : (H495.1 1826 35) = 0 → ((H495.1 1826 31) = 0 ∨ (H39.1 1826 30) < (H495.1 1826 30)) := hx495g
          refine h_run 0 (pc' := 103) (l' := [(0, .inr (.inr 1826)), (1, .inl (l : Int))]) (st' := []) rfl ?_
          have g499 : -2147483648 ≤ (H495.1 1826 35) ∧ (H495.1 1826 35) ≤ 2147483647 := hrg496.1 1826 13 35 _ .int rfl rfl
          by_cases b500 : (H495.1 1826 35) = 0
          · skip
            replace hx495g := hx495g b500
            refine h_run 2 (pc' := 106) (l' := [(0, .inr (.inr 1826)), (1, .inl (l : Int))]) (st' := [.inl 58, .inr (.inr 1826)]) rfl ?_
            have g501 : -2147483648 ≤ (H495.1 1826 30) ∧ (H495.1 1826 30) ≤ 2147483647 := hrg496.1 1826 13 30 _ .int rfl rfl
            have g502 : -2147483648 ≤ (H495.1 1826 29) ∧ (H495.1 1826 29) ≤ 2147483647 := hrg496.1 1826 13 29 _ .int rfl rfl
            have e503 : (H495.1 1826 29) = (H39.1 1826 29) := hx495f.2.2 29 (by decide)
            have g504 : -2147483648 ≤ (H495.1 1826 31) ∧ (H495.1 1826 31) ≤ 2147483647 := hrg496.1 1826 13 31 _ .int rfl rfl
            have g506 : -2147483648 ≤ (H495.1 1826 32) ∧ (H495.1 1826 32) ≤ 2147483647 := hrg496.1 1826 13 32 _ .int rfl rfl
            refine h_cv (i := 313) (j := 166) (b := 1826) (M' := mt_166) (xs := [.inl 58]) (rest := []) rfl rfl rfl rfl rfl rfl (Nat.le_of_ble_eq_true rfl) (Nat.le_of_ble_eq_true rfl) (by omega) (n_want (by omega) (by omega : 0 ≤ (H495.1 1826 30) ∧ (H495.1 1826 30) ≤ (H495.1 1826 29) ∧ (H495.1 1826 29) ≤ 1000) (by omega : 0 ≤ (H495.1 1826 35) ∧ (H495.1 1826 35) ≤ 5) (by omega : 0 ≤ (H495.1 1826 32) ∧ (H495.1 1826 32) ≤ 1000) (by omega) (by omega : (H495.1 1826 35) = 0) (GB_g hx495n (by omega)) hq3 (lk_n (by decide))) ?_
            rintro _ H505 ⟨rfl, hx505n, hx505f, hx505a, hx505b, hx505c, -, hx505e, hx505g⟩
            refine h_rng (fun hrg507 => ?_)
            have hf508 : fr [30, 31, 32, 33, 35, 36, 19, 39, 40, 41, 43, 44, 47] [1841, 1842, 1843, 1844, 1845, 1846, 1847, 1849, 1850, 1851, 1852, 1853, 1854] H H505 := fr_t hf497 hx505f (by decide) (by decide)
            have ha509 : agp H H505 := agp_tr ha498 (agp_fr hx505f (by decide) (by decide))
            replace hx505a : (H495.1 1826 30) ≤ (H505.1 1826 30) := hx505a
            replace hx505b : (H505.1 1826 30) ≤ (H495.1 1826 29) := hx505b
            replace hx505g : (H505.1 1826 35) = 0 → (H495.1 1826 31) = (58 : Int) ∧ ((H505.1 1826 31) = 0 ∨ (H495.1 1826 30) < (H505.1 1826 30)) := hx505g
            refine h_run 0 (pc' := 109) (l' := [(0, .inr (.inr 1826)), (1, .inl (l : Int))]) (st' := []) rfl ?_
            have g510 : -2147483648 ≤ (H505.1 1826 35) ∧ (H505.1 1826 35) ≤ 2147483647 := hrg507.1 1826 13 35 _ .int rfl rfl
            by_cases b511 : (H505.1 1826 35) = 0
            · skip
              replace hx505g := hx505g b511
              refine h_run 1 (pc' := 110) (l' := [(0, .inr (.inr 1826)), (1, .inl (l : Int))]) (st' := [.inr (.inr 1826)]) rfl ?_
              refine h_cv (i := 379) (j := 185) (b := 1826) (M' := mt_185) (xs := []) (rest := []) rfl rfl rfl rfl rfl rfl (Nat.le_of_ble_eq_true rfl) (Nat.le_of_ble_eq_true rfl) (by omega) (m_beginTerm (by omega)) ?_
              rintro _ _ ⟨rfl, rfl⟩
              refine h_run 0 (pc' := 113) (l' := [(0, .inr (.inr 1826)), (1, .inl (l : Int))]) (st' := []) rfl ?_
              refine h_run 2 (pc' := 115) (l' := [(0, .inr (.inr 1826)), (1, .inl (l : Int))]) (st' := [.inl 2, .inr (.inr 1826)]) rfl ?_
              refine h_puti (i := 367) (ci := 13) (k := 44) (a := 1826) (x := 2) rfl rfl rfl rfl rfl rfl (by decide) (by decide) ?_
              refine h_run 1 (pc' := 119) (l' := [(0, .inr (.inr 1826)), (1, .inl (l : Int))]) (st' := [.inr (.inr 1826)]) rfl ?_
              refine h_cv (i := 293) (j := 158) (b := 1826) (M' := mt_158) (xs := []) (rest := []) rfl rfl rfl rfl rfl rfl (Nat.le_of_ble_eq_true rfl) (Nat.le_of_ble_eq_true rfl) (by omega) (m_good1 (by omega) (by omega : (H505.1 1826 35) = 0)) ?_
              rintro _ _ ⟨rfl, rfl⟩
              refine h_run 0 (pc' := 122) (l' := [(0, .inr (.inr 1826)), (1, .inl (l : Int))]) (st' := [.inl 1]) rfl ?_
              refine h_zeq (off := 11) (t := 133) rfl rfl (by decide) (fun c => absurd c (by decide)) (fun _ => ?_)
              refine h_run 2 (pc' := 127) (l' := [(0, .inr (.inr 1826)), (1, .inl (l : Int))]) (st' := [.inl (-1), .inr (.inr 1826)]) rfl ?_
              have g512 : -2147483648 ≤ (H505.1 1826 30) ∧ (H505.1 1826 30) ≤ 2147483647 := hrg507.1 1826 13 30 _ .int rfl rfl
              have g513 : -2147483648 ≤ (H505.1 1826 29) ∧ (H505.1 1826 29) ≤ 2147483647 := hrg507.1 1826 13 29 _ .int rfl rfl
              have e514 : (H505.1 1826 29) = (H495.1 1826 29) := hx505f.2.2 29 (by decide)
              have g515 : -2147483648 ≤ (H505.1 1826 1) ∧ (H505.1 1826 1) ≤ 2147483647 := hrg507.1 1826 13 1 _ .int rfl rfl
              have e516 : (H505.1 1826 1) = (H495.1 1826 1) := hx505f.2.2 1 (by decide)
              have e517 : (H495.1 1826 1) = (H39.1 1826 1) := hx495f.2.2 1 (by decide)
              have e518 : (H39.1 1826 1) = (H.1 1826 1) := hx39f.2.2 1 (by decide)
              have g519 : -2147483648 ≤ (H505.1 1826 8) ∧ (H505.1 1826 8) ≤ 2147483647 := hrg507.1 1826 13 8 _ .int rfl rfl
              have e520 : (H505.1 1826 8) = (H495.1 1826 8) := hx505f.2.2 8 (by decide)
              have e521 : (H495.1 1826 8) = (H39.1 1826 8) := hx495f.2.2 8 (by decide)
              have e522 : (H39.1 1826 8) = (H.1 1826 8) := hx39f.2.2 8 (by decide)
              have g524 : -2147483648 ≤ (H505.1 1826 3) ∧ (H505.1 1826 3) ≤ 2147483647 := hrg507.1 1826 13 3 _ .int rfl rfl
              have e525 : (H505.1 1826 3) = (H495.1 1826 3) := hx505f.2.2 3 (by decide)
              have e526 : (H495.1 1826 3) = (H39.1 1826 3) := hx495f.2.2 3 (by decide)
              have e527 : (H39.1 1826 3) = (H.1 1826 3) := hx39f.2.2 3 (by decide)
              have g528 : -2147483648 ≤ (H505.1 1826 13) ∧ (H505.1 1826 13) ≤ 2147483647 := hrg507.1 1826 13 13 _ .int rfl rfl
              have e529 : (H505.1 1826 13) = (H495.1 1826 13) := hx505f.2.2 13 (by decide)
              have e530 : (H495.1 1826 13) = (H39.1 1826 13) := hx495f.2.2 13 (by decide)
              have e531 : (H39.1 1826 13) = (H.1 1826 13) := hx39f.2.2 13 (by decide)
              have g532 : -2147483648 ≤ (H505.1 1826 19) ∧ (H505.1 1826 19) ≤ 2147483647 := hrg507.1 1826 13 19 _ .int rfl rfl
              have e533 : (H505.1 1826 19) = (H495.1 1826 19) := hx505f.2.2 19 (by decide)
              have e534 : (H495.1 1826 19) = (H39.1 1826 19) := hx495f.2.2 19 (by decide)
              have g535 : -2147483648 ≤ (H505.1 1826 32) ∧ (H505.1 1826 32) ≤ 2147483647 := hrg507.1 1826 13 32 _ .int rfl rfl
              obtain ⟨X4, hq4, hR4, hX4⟩ := GB_g hx505n (by omega)
              refine h_cv (i := 385) (j := 180) (b := 1826) (M' := mt_180) (xs := [.inl (-1)]) (rest := []) rfl rfl rfl rfl rfl rfl (Nat.le_of_ble_eq_true rfl) (Nat.le_of_ble_eq_true rfl) (by omega) (n_term (by omega) (by omega : 0 ≤ (H505.1 1826 30) ∧ (H505.1 1826 30) ≤ (H505.1 1826 29) ∧ (H505.1 1826 29) ≤ 1000) (by omega : 0 ≤ (H505.1 1826 35) ∧ (H505.1 1826 35) ≤ 5) (by omega : 0 ≤ (H505.1 1826 32) ∧ (H505.1 1826 32) ≤ 1000) (PWc_agp hP (agp_o (agp_o (agp_o (agp_o (agp_o ha509 (by decide)) (by decide)) (by decide)) (by decide)) (by decide)) ⟨(by omega : (H505.1 1826 1) = (H.1 1826 1)), (by omega : (H505.1 1826 3) = (H.1 1826 3)), (by omega : (H505.1 1826 8) = (H.1 1826 8)), (by omega : (H505.1 1826 13) = (H.1 1826 13)), (by omega : (H505.1 1826 19) = (H.1 1826 19))⟩) (by omega : 1 ≤ (2 : Int) ∧ (2 : Int) ≤ 3) (by omega : -1 ≤ (-1 : Int) ∧ (-1 : Int) < (H505.1 1826 1)) (by omega : 0 ≤ (0 : Int) ∧ (0 : Int) ≤ 10) (fun _ => ⟨rfl, rfl, rfl, (by omega : 0 ≤ (0 : Int) ∧ (0 : Int) ≤ 39 ∧ ((2 : Int) = 2 → (0 : Int) ≤ 6)), fun _ v hv => absurd (id hv : (v : Int) < 0) (by omega)⟩) (by omega : (H505.1 1826 35) = 0) (RK_fr hR4 (fr_o (fr_o (fr_o (fr_o (fr_o (fr_rf [39, 40, 41, 43, 44] [] H505) (by decide)) (by decide)) (by decide)) (by decide)) (by decide)) (by decide) (by decide)) (by rw [hX4]; exact VR_law rfl rfl rfl) (by omega : (H505.1 1826 8) = m) (e := -2) (by omega : ((2 : Int) = 2 ∧ (-2 : Int) = -2) ∨ ((2 : Int) ≠ 2 ∧ (-2 : Int) = -1)) hq4 (lk_1 (by decide))) ?_
              rintro _ H523 ⟨⟨hx523r, rfl, hx523x, hx523y, hx523n⟩, hx523f, hx523a, hx523c, -, hx523e, hx523v, hx523p⟩
              refine h_rng (fun hrg536 => ?_)
              have hf537 : fr [30, 31, 32, 33, 35, 36, 19, 39, 40, 41, 43, 44, 47] [1841, 1842, 1843, 1844, 1845, 1846, 1847, 1849, 1850, 1851, 1852, 1853, 1854] H H523 := fr_t (fr_o (fr_o (fr_o (fr_o (fr_o hf508 (by decide)) (by decide)) (by decide)) (by decide)) (by decide)) hx523f (by decide) (by decide)
              have ha538 : agp H H523 := agp_tr (agp_o (agp_o (agp_o (agp_o (agp_o ha509 (by decide)) (by decide)) (by decide)) (by decide)) (by decide)) (agp_fr hx523f (by decide) (by decide))
              replace hx523y : hx523r < (H505.1 1826 1) := hx523y
              replace hx523a : (H505.1 1826 30) ≤ (H523.1 1826 30) ∧ (H523.1 1826 30) ≤ (H505.1 1826 29) := hx523a
              replace hx523v : ((2 : Int) ≠ 2 → (H523.1 1826 39) = (0 : Int)) ∧ (0 : Int) ≤ (H523.1 1826 39) := hx523v
              have hx523k : (H523.1 1826 35) = 0 → 0 ≤ (H523.1 1826 43) ∧ (H523.1 1826 43) ≤ 40 := fun q9 => by obtain ⟨⟨k9, h9, h8, -⟩, -⟩ := hx523p q9; omega
              have hx523w : (H523.1 1826 35) = 0 → 0 ≤ (H523.1 1826 39) ∧ (H523.1 1826 39) ≤ 39 ∧ ((H523.1 1826 44) = 2 → (H523.1 1826 39) ≤ 6) := fun q9 => (TT_vars (hx523p q9).2).1
              refine h_run 0 (pc' := 130) (l' := [(0, .inr (.inr 1826)), (1, .inl (l : Int))]) (st' := [.inl hx523r]) rfl ?_
              refine h_run 1 (pc' := 134) (l' := [(0, .inr (.inr 1826)), (1, .inl (l : Int))]) (st' := [.inl hx523r]) rfl ?_
              have g539 : -2147483648 ≤ (H523.1 1826 35) ∧ (H523.1 1826 35) ≤ 2147483647 := hrg536.1 1826 13 35 _ .int rfl rfl
              by_cases b540 : (H523.1 1826 35) = 0
              · skip
                replace hx523k := hx523k b540
                replace hx523w := hx523w b540
                refine h_run 1 (pc' := 135) (l' := [(0, .inr (.inr 1826)), (1, .inl (l : Int)), (2, .inl hx523r)]) (st' := []) rfl ?_
                obtain ⟨X5, hq5, hR5, hV5, hF5, hs5⟩ := GB_g hx523n (by omega)
                have hnm5 := TT_nm (hx523p (by omega)).2 (hx523p (by omega)).1
                have hv51 := hV5.1
                have hth5 := FI_g hF5 rfl (by omega) (by omega)
                refine h_run 4 (pc' := 139) (l' := [(0, .inr (.inr 1826)), (1, .inl (l : Int)), (2, .inl hx523r)]) (st' := [.inl (2 * (l : Int)), .inr (.inr 1826)]) rfl ?_
                have g541 : -2147483648 ≤ (H523.1 1826 43) ∧ (H523.1 1826 43) ≤ 2147483647 := hrg536.1 1826 13 43 _ .int rfl rfl
                have g542 : -2147483648 ≤ (H523.1 1826 19) ∧ (H523.1 1826 19) ≤ 2147483647 := hrg536.1 1826 13 19 _ .int rfl rfl
                have e543 : (H523.1 1826 19) = (H505.1 1826 19) := hx523f.2.2 19 (by decide)
                rw [show (2 * (l : Int)) = ((2 * l : Nat) : Int) by omega]
                refine h_cv (i := 390) (j := 188) (b := 1826) (M' := mt_188) (xs := [.inl ((2 * l : Nat) : Int)]) (rest := []) rfl rfl rfl rfl rfl rfl (Nat.le_of_ble_eq_true rfl) (Nat.le_of_ble_eq_true rfl) (by omega) (m_keepSide (by omega) (s := 2 * l) (by omega : 2 * (H523.1 1826 19) ≤ ((2 * l : Nat) : Int) ∧ 2 * l ≤ 31) (by omega : (H523.1 1826 35) = 0 → 0 ≤ (H523.1 1826 43) ∧ (H523.1 1826 43) ≤ 40)) ?_
                rintro _ H544 ⟨rfl, hx544f, hx544g, hx544z, hx544b, hx544c⟩
                refine h_rng (fun hrg545 => ?_)
                have hf546 : fr [30, 31, 32, 33, 35, 36, 19, 39, 40, 41, 43, 44, 47] [1841, 1842, 1843, 1844, 1845, 1846, 1847, 1849, 1850, 1851, 1852, 1853, 1854] H H544 := fr_t hf537 hx544f (by decide) (by decide)
                have ha547 : agp H H544 := agp_tr ha538 hx544g
                replace hx544c : hid _ := hx544c
                refine h_run 0 (pc' := 142) (l' := [(0, .inr (.inr 1826)), (1, .inl (l : Int)), (2, .inl hx523r)]) (st' := []) rfl ?_
                replace hR5 := RK_fr hR5 hx544f (by decide) (by decide)
                replace hV5 := VR_eq (K := H544) hV5 (hx544f.2.2 40 (by decide)) (hx544f.2.2 44 (by decide)) (hx544f.2.2 39 (by decide)) (hx544f.2.1 1849 (by decide) (by decide)) (hx544f.2.1 1850 (by decide) (by decide))
                refine h_run 2 (pc' := 145) (l' := [(0, .inr (.inr 1826)), (1, .inl (l : Int)), (2, .inl hx523r)]) (st' := [.inl 61, .inr (.inr 1826)]) rfl ?_
                have g548 : -2147483648 ≤ (H544.1 1826 35) ∧ (H544.1 1826 35) ≤ 2147483647 := hrg545.1 1826 13 35 _ .int rfl rfl
                have e549 : (H544.1 1826 35) = (H523.1 1826 35) := hx544f.2.2 35 (by decide)
                have g550 : -2147483648 ≤ (H544.1 1826 30) ∧ (H544.1 1826 30) ≤ 2147483647 := hrg545.1 1826 13 30 _ .int rfl rfl
                have e551 : (H544.1 1826 30) = (H523.1 1826 30) := hx544f.2.2 30 (by decide)
                have g552 : -2147483648 ≤ (H544.1 1826 29) ∧ (H544.1 1826 29) ≤ 2147483647 := hrg545.1 1826 13 29 _ .int rfl rfl
                have e553 : (H544.1 1826 29) = (H523.1 1826 29) := hx544f.2.2 29 (by decide)
                have e554 : (H523.1 1826 29) = (H505.1 1826 29) := hx523f.2.2 29 (by decide)
                have g555 : -2147483648 ≤ (H544.1 1826 31) ∧ (H544.1 1826 31) ≤ 2147483647 := hrg545.1 1826 13 31 _ .int rfl rfl
                have e556 : (H544.1 1826 31) = (H523.1 1826 31) := hx544f.2.2 31 (by decide)
                have g558 : -2147483648 ≤ (H544.1 1826 32) ∧ (H544.1 1826 32) ≤ 2147483647 := hrg545.1 1826 13 32 _ .int rfl rfl
                have e559 : (H544.1 1826 32) = (H523.1 1826 32) := hx544f.2.2 32 (by decide)
                refine h_cv (i := 313) (j := 166) (b := 1826) (M' := mt_166) (xs := [.inl 61]) (rest := []) rfl rfl rfl rfl rfl rfl (Nat.le_of_ble_eq_true rfl) (Nat.le_of_ble_eq_true rfl) (by omega) (n_want (by omega) (by omega : 0 ≤ (H544.1 1826 30) ∧ (H544.1 1826 30) ≤ (H544.1 1826 29) ∧ (H544.1 1826 29) ≤ 1000) (by omega : 0 ≤ (H544.1 1826 35) ∧ (H544.1 1826 35) ≤ 5) (by omega : 0 ≤ (H544.1 1826 32) ∧ (H544.1 1826 32) ≤ 1000) (by omega) (by omega : (H544.1 1826 35) = 0) hR5 hq5 (lk_c (lk_c (lk_1 (by decide)) (by decide : (15 : Nat) ≠ 0) (fun q => absurd q (by decide : (15 : Nat) ≠ 1))) (by decide : (14 : Nat) ≠ 0) (fun q => absurd q (by decide : (14 : Nat) ≠ 1)))) ?_
                rintro _ H557 ⟨rfl, hx557n, hx557f, hx557a, hx557b, hx557c, -, hx557e, hx557g⟩
                refine h_rng (fun hrg560 => ?_)
                have hf561 : fr [30, 31, 32, 33, 35, 36, 19, 39, 40, 41, 43, 44, 47] [1841, 1842, 1843, 1844, 1845, 1846, 1847, 1849, 1850, 1851, 1852, 1853, 1854] H H557 := fr_t hf546 hx557f (by decide) (by decide)
                have ha562 : agp H H557 := agp_tr ha547 (agp_fr hx557f (by decide) (by decide))
                replace hx557a : (H544.1 1826 30) ≤ (H557.1 1826 30) := hx557a
                replace hx557b : (H557.1 1826 30) ≤ (H544.1 1826 29) := hx557b
                replace hx557g : (H557.1 1826 35) = 0 → (H544.1 1826 31) = (61 : Int) ∧ ((H557.1 1826 31) = 0 ∨ (H544.1 1826 30) < (H557.1 1826 30)) := hx557g
                refine h_run 0 (pc' := 148) (l' := [(0, .inr (.inr 1826)), (1, .inl (l : Int)), (2, .inl hx523r)]) (st' := []) rfl ?_
                have g563 : -2147483648 ≤ (H557.1 1826 35) ∧ (H557.1 1826 35) ≤ 2147483647 := hrg560.1 1826 13 35 _ .int rfl rfl
                by_cases b564 : (H557.1 1826 35) = 0
                · skip
                  replace hx557g := hx557g b564
                  refine h_run 2 (pc' := 150) (l' := [(0, .inr (.inr 1826)), (1, .inl (l : Int)), (2, .inl hx523r)]) (st' := [.inl 0, .inr (.inr 1826)]) rfl ?_
                  refine h_puti (i := 300) (ci := 13) (k := 40) (a := 1826) (x := 0) rfl rfl rfl rfl rfl rfl (by decide) (by decide) ?_
                  refine h_run 2 (pc' := 155) (l' := [(0, .inr (.inr 1826)), (1, .inl (l : Int)), (2, .inl hx523r)]) (st' := [.inl 0, .inr (.inr 1826)]) rfl ?_
                  refine h_puti (i := 335) (ci := 13) (k := 41) (a := 1826) (x := 0) rfl rfl rfl rfl rfl rfl (by decide) (by decide) ?_
                  refine h_run 2 (pc' := 160) (l' := [(0, .inr (.inr 1826)), (1, .inl (l : Int)), (2, .inl hx523r)]) (st' := [.inl 0, .inr (.inr 1826)]) rfl ?_
                  refine h_puti (i := 303) (ci := 13) (k := 43) (a := 1826) (x := 0) rfl rfl rfl rfl rfl rfl (by decide) (by decide) ?_
                  refine h_run 1 (pc' := 164) (l' := [(0, .inr (.inr 1826)), (1, .inl (l : Int)), (2, .inl hx523r)]) (st' := [.inr (.inr 1826)]) rfl ?_
                  refine h_cv (i := 293) (j := 158) (b := 1826) (M' := mt_158) (xs := []) (rest := []) rfl rfl rfl rfl rfl rfl (Nat.le_of_ble_eq_true rfl) (Nat.le_of_ble_eq_true rfl) (by omega) (m_good1 (by omega) (by omega : (H557.1 1826 35) = 0)) ?_
                  rintro _ _ ⟨rfl, rfl⟩
                  refine h_run 0 (pc' := 167) (l' := [(0, .inr (.inr 1826)), (1, .inl (l : Int)), (2, .inl hx523r)]) (st' := [.inl 1]) rfl ?_
                  refine h_zeq (off := 11) (t := 178) rfl rfl (by decide) (fun c => absurd c (by decide)) (fun _ => ?_)
                  have g565 : -2147483648 ≤ (H557.1 1826 44) ∧ (H557.1 1826 44) ≤ 2147483647 := hrg560.1 1826 13 44 _ .int rfl rfl
                  have e566 : (H557.1 1826 44) = (H544.1 1826 44) := hx557f.2.2 44 (by decide)
                  have e567 : (H544.1 1826 44) = (H523.1 1826 44) := hx544f.2.2 44 (by decide)
                  have e568 : (H523.1 1826 44) = 2 := hx523f.2.2 44 (by decide)
                  have g569 : -2147483648 ≤ (H557.1 1826 39) ∧ (H557.1 1826 39) ≤ 2147483647 := hrg560.1 1826 13 39 _ .int rfl rfl
                  have e570 : (H557.1 1826 39) = (H544.1 1826 39) := hx557f.2.2 39 (by decide)
                  have e571 : (H544.1 1826 39) = (H523.1 1826 39) := hx544f.2.2 39 (by decide)
                  have g572 : -2147483648 ≤ (H557.1 1826 1) ∧ (H557.1 1826 1) ≤ 2147483647 := hrg560.1 1826 13 1 _ .int rfl rfl
                  have e573 : (H557.1 1826 1) = (H544.1 1826 1) := hx557f.2.2 1 (by decide)
                  have e574 : (H544.1 1826 1) = (H523.1 1826 1) := hx544f.2.2 1 (by decide)
                  have e575 : (H523.1 1826 1) = (H505.1 1826 1) := hx523f.2.2 1 (by decide)
                  have hvt8 : ∀ v : Nat, (v : Int) < (H557.1 1826 39) → 0 ≤ (H557.1 1850) v ∧ (H557.1 1850) v < (H557.1 1826 1) := fun v hv => by rw [show (H557.1 1850) = (H523.1 1850) from (hx557f.2.1 1850 (by decide) (by decide)).trans (hx544f.2.1 1850 (by decide) (by decide)), show (H557.1 1826 1) = (H523.1 1826 1) from (hx557f.2.2 1 (by decide)).trans (hx544f.2.2 1 (by decide))]; exact (TT_vars (hx523p (by omega)).2).2 (by omega) v (by omega)
                  refine h_run 2 (pc' := 172) (l' := [(0, .inr (.inr 1826)), (1, .inl (l : Int)), (2, .inl hx523r)]) (st' := [.inl hx523r, .inr (.inr 1826)]) rfl ?_
                  have g576 : -2147483648 ≤ (H557.1 1826 30) ∧ (H557.1 1826 30) ≤ 2147483647 := hrg560.1 1826 13 30 _ .int rfl rfl
                  have g577 : -2147483648 ≤ (H557.1 1826 29) ∧ (H557.1 1826 29) ≤ 2147483647 := hrg560.1 1826 13 29 _ .int rfl rfl
                  have e578 : (H557.1 1826 29) = (H544.1 1826 29) := hx557f.2.2 29 (by decide)
                  have g579 : -2147483648 ≤ (H557.1 1826 8) ∧ (H557.1 1826 8) ≤ 2147483647 := hrg560.1 1826 13 8 _ .int rfl rfl
                  have e580 : (H557.1 1826 8) = (H544.1 1826 8) := hx557f.2.2 8 (by decide)
                  have e581 : (H544.1 1826 8) = (H523.1 1826 8) := hx544f.2.2 8 (by decide)
                  have e582 : (H523.1 1826 8) = (H505.1 1826 8) := hx523f.2.2 8 (by decide)
                  have g584 : -2147483648 ≤ (H557.1 1826 3) ∧ (H557.1 1826 3) ≤ 2147483647 := hrg560.1 1826 13 3 _ .int rfl rfl
                  have e585 : (H557.1 1826 3) = (H544.1 1826 3) := hx557f.2.2 3 (by decide)
                  have e586 : (H544.1 1826 3) = (H523.1 1826 3) := hx544f.2.2 3 (by decide)
                  have e587 : (H523.1 1826 3) = (H505.1 1826 3) := hx523f.2.2 3 (by decide)
                  have g588 : -2147483648 ≤ (H557.1 1826 13) ∧ (H557.1 1826 13) ≤ 2147483647 := hrg560.1 1826 13 13 _ .int rfl rfl
                  have e589 : (H557.1 1826 13) = (H544.1 1826 13) := hx557f.2.2 13 (by decide)
                  have e590 : (H544.1 1826 13) = (H523.1 1826 13) := hx544f.2.2 13 (by decide)
                  have e591 : (H523.1 1826 13) = (H505.1 1826 13) := hx523f.2.2 13 (by decide)
                  have g592 : -2147483648 ≤ (H557.1 1826 19) ∧ (H557.1 1826 19) ≤ 2147483647 := hrg560.1 1826 13 19 _ .int rfl rfl
                  have e593 : (H557.1 1826 19) = (H544.1 1826 19) := hx557f.2.2 19 (by decide)
                  have e594 : (H544.1 1826 19) = (H523.1 1826 19) := hx544f.2.2 19 (by decide)
                  have g595 : -2147483648 ≤ (H557.1 1826 32) ∧ (H557.1 1826 32) ≤ 2147483647 := hrg560.1 1826 13 32 _ .int rfl rfl
                  obtain ⟨X6, hq6, hR6, hX6⟩ := GB_g hx557n (by omega)
                  have hV6 : VR H557 X6 := by rw [hX6]; exact VR_adv hV5 (hx557f.2.2 40 (by decide)) (hx557f.2.2 44 (by decide)) (hx557f.2.2 39 (by decide)) (hx557f.2.1 1849 (by decide) (by decide)) (hx557f.2.1 1850 (by decide) (by decide))
                  have hme6 := me_or (-2) hx523r
                  have hth6 : thd X6 = hx523r := by rw [hX6]; exact hth5.2
                  refine h_cv (i := 385) (j := 180) (b := 1826) (M' := mt_180) (xs := [.inl hx523r]) (rest := []) rfl rfl rfl rfl rfl rfl (Nat.le_of_ble_eq_true rfl) (Nat.le_of_ble_eq_true rfl) (by omega) (n_term (by omega) (by omega : 0 ≤ (H557.1 1826 30) ∧ (H557.1 1826 30) ≤ (H557.1 1826 29) ∧ (H557.1 1826 29) ≤ 1000) (by omega : 0 ≤ (H557.1 1826 35) ∧ (H557.1 1826 35) ≤ 5) (by omega : 0 ≤ (H557.1 1826 32) ∧ (H557.1 1826 32) ≤ 1000) (PWc_agp hP (agp_o (agp_o (agp_o ha562 (by decide)) (by decide)) (by decide)) ⟨(by omega : (H557.1 1826 1) = (H.1 1826 1)), (by omega : (H557.1 1826 3) = (H.1 1826 3)), (by omega : (H557.1 1826 8) = (H.1 1826 8)), (by omega : (H557.1 1826 13) = (H.1 1826 13)), (by omega : (H557.1 1826 19) = (H.1 1826 19))⟩) (by omega : 1 ≤ (H557.1 1826 44) ∧ (H557.1 1826 44) ≤ 3) (by omega : -1 ≤ hx523r ∧ hx523r < (H557.1 1826 1)) (by omega : 0 ≤ (0 : Int) ∧ (0 : Int) ≤ 10) (fun _ => ⟨rfl, rfl, rfl, (by omega : 0 ≤ (H557.1 1826 39) ∧ (H557.1 1826 39) ≤ 39 ∧ ((H557.1 1826 44) = 2 → (H557.1 1826 39) ≤ 6)), fun _ => hvt8⟩) (by omega : (H557.1 1826 35) = 0) (RK_fr (RK_sT hR6 (x02 X6).2.2.2.2.2.2 (x02 X6).1) (fr_o (fr_o (fr_o (fr_rf [40, 41, 43] [] H557) (by decide)) (by decide)) (by decide)) (by decide) (by decide)) (VR_VR hV6 rfl rfl rfl rfl rfl) (by omega : (H557.1 1826 8) = m) (e := -2) (by omega : ((H557.1 1826 44) = 2 ∧ (-2 : Int) = -2) ∨ ((H557.1 1826 44) ≠ 2 ∧ (-2 : Int) = -1)) (by rw [show me (-2) hx523r = thd X6 from (by omega)]; exact rch_st hq6 rfl) (lk_c (lk_1 (by decide)) (by decide : (15 : Nat) ≠ 0) (fun q => absurd q (by decide : (15 : Nat) ≠ 1)))) ?_
                  rintro _ H583 ⟨⟨hx583r, rfl, hx583x, hx583y, hx583n⟩, hx583f, hx583a, hx583c, -, hx583e, hx583v, hx583p⟩
                  refine h_rng (fun hrg596 => ?_)
                  have hf597 : fr [30, 31, 32, 33, 35, 36, 19, 39, 40, 41, 43, 44, 47] [1841, 1842, 1843, 1844, 1845, 1846, 1847, 1849, 1850, 1851, 1852, 1853, 1854] H H583 := fr_t (fr_o (fr_o (fr_o hf561 (by decide)) (by decide)) (by decide)) hx583f (by decide) (by decide)
                  have ha598 : agp H H583 := agp_tr (agp_o (agp_o (agp_o ha562 (by decide)) (by decide)) (by decide)) (agp_fr hx583f (by decide) (by decide))
                  replace hx583y : hx583r < (H557.1 1826 1) := hx583y
                  replace hx583a : (H557.1 1826 30) ≤ (H583.1 1826 30) ∧ (H583.1 1826 30) ≤ (H557.1 1826 29) := hx583a
                  replace hx583v : ((H557.1 1826 44) ≠ 2 → (H583.1 1826 39) = (H557.1 1826 39)) ∧ (H557.1 1826 39) ≤ (H583.1 1826 39) := hx583v
                  have hx583k : (H583.1 1826 35) = 0 → 0 ≤ (H583.1 1826 43) ∧ (H583.1 1826 43) ≤ 40 := fun q9 => by obtain ⟨⟨k9, h9, h8, -⟩, -⟩ := hx583p q9; omega
                  have hx583w : (H583.1 1826 35) = 0 → 0 ≤ (H583.1 1826 39) ∧ (H583.1 1826 39) ≤ 39 ∧ ((H583.1 1826 44) = 2 → (H583.1 1826 39) ≤ 6) := fun q9 => (TT_vars (hx583p q9).2).1
                  refine h_run 0 (pc' := 175) (l' := [(0, .inr (.inr 1826)), (1, .inl (l : Int)), (2, .inl hx523r)]) (st' := [.inl hx583r]) rfl ?_
                  refine h_run 1 (pc' := 179) (l' := [(0, .inr (.inr 1826)), (1, .inl (l : Int)), (2, .inl hx523r)]) (st' := [.inl hx583r]) rfl ?_
                  have g599 : -2147483648 ≤ (H583.1 1826 35) ∧ (H583.1 1826 35) ≤ 2147483647 := hrg596.1 1826 13 35 _ .int rfl rfl
                  by_cases b600 : (H583.1 1826 35) = 0
                  · skip
                    replace hx583k := hx583k b600
                    replace hx583w := hx583w b600
                    refine h_run 7 (pc' := 186) (l' := [(0, .inr (.inr 1826)), (1, .inl (l : Int)), (2, .inl hx523r), (3, .inl hx583r)]) (st' := [.inl ((2 * (l : Int)) + 1), .inr (.inr 1826)]) rfl ?_
                    have g601 : -2147483648 ≤ (H583.1 1826 43) ∧ (H583.1 1826 43) ≤ 2147483647 := hrg596.1 1826 13 43 _ .int rfl rfl
                    have g602 : -2147483648 ≤ (H583.1 1826 19) ∧ (H583.1 1826 19) ≤ 2147483647 := hrg596.1 1826 13 19 _ .int rfl rfl
                    have e603 : (H583.1 1826 19) = (H557.1 1826 19) := hx583f.2.2 19 (by decide)
                    rw [show ((2 * (l : Int)) + 1) = ((2 * l + 1 : Nat) : Int) by omega]
                    refine h_cv (i := 390) (j := 188) (b := 1826) (M' := mt_188) (xs := [.inl ((2 * l + 1 : Nat) : Int)]) (rest := []) rfl rfl rfl rfl rfl rfl (Nat.le_of_ble_eq_true rfl) (Nat.le_of_ble_eq_true rfl) (by omega) (m_keepSide (by omega) (s := 2 * l + 1) (by omega : 2 * (H583.1 1826 19) ≤ ((2 * l + 1 : Nat) : Int) ∧ 2 * l + 1 ≤ 31) (by omega : (H583.1 1826 35) = 0 → 0 ≤ (H583.1 1826 43) ∧ (H583.1 1826 43) ≤ 40)) ?_
                    rintro _ H604 ⟨rfl, hx604f, hx604g, hx604z, hx604b, hx604c⟩
                    refine h_rng (fun hrg605 => ?_)
                    have hf606 : fr [30, 31, 32, 33, 35, 36, 19, 39, 40, 41, 43, 44, 47] [1841, 1842, 1843, 1844, 1845, 1846, 1847, 1849, 1850, 1851, 1852, 1853, 1854] H H604 := fr_t hf597 hx604f (by decide) (by decide)
                    have ha607 : agp H H604 := agp_tr ha598 hx604g
                    replace hx604c : hid _ := hx604c
                    refine h_run 0 (pc' := 189) (l' := [(0, .inr (.inr 1826)), (1, .inl (l : Int)), (2, .inl hx523r), (3, .inl hx583r)]) (st' := []) rfl ?_
                    obtain ⟨X7, hq7, hR7, hV7, hF7, hs7⟩ := GB_g hx583n (by omega)
                    replace hR7 := RK_fr hR7 hx604f (by decide) (by decide)
                    have hx12 : X7 12 = up (adv X 12) l (tn Y (xi (adv X))) := by rw [hs7.2.1, (x02 X6).2.2.2.2.2.2.2.1, hX6, (sT_adv X5).2.1, hs5.2.1, hX4, (sT_adv _).2.1, (xl_s _ _ _).2.2.2.2.1]
                    have hln : (H604.1 1841) l = X7 12 l := by rw [hx12, up_eq, ← RK_n hR1 (Or.inl (by omega)), show (H604.1 1841) = _ from (((((((hx604f.2.1 1841 (by decide) (by decide)).trans (hx583f.2.1 1841 (by decide) (by decide))).trans (hx557f.2.1 1841 (by decide) (by decide))).trans (hx544f.2.1 1841 (by decide) (by decide))).trans (hx523f.2.1 1841 (by decide) (by decide))).trans (hx505f.2.1 1841 (by decide) (by decide))).trans (hx495f.2.1 1841 (by decide) (by decide)))]; exact up_eq _ _ _
                    refine h_run 1 (pc' := 190) (l' := [(0, .inr (.inr 1826)), (1, .inl (l : Int)), (2, .inl hx523r), (3, .inl hx583r)]) (st' := [.inr (.inr 1826)]) rfl ?_
                    have g608 : -2147483648 ≤ (H604.1 1826 35) ∧ (H604.1 1826 35) ≤ 2147483647 := hrg605.1 1826 13 35 _ .int rfl rfl
                    have e609 : (H604.1 1826 35) = (H583.1 1826 35) := hx604f.2.2 35 (by decide)
                    refine h_cv (i := 293) (j := 158) (b := 1826) (M' := mt_158) (xs := []) (rest := []) rfl rfl rfl rfl rfl rfl (Nat.le_of_ble_eq_true rfl) (Nat.le_of_ble_eq_true rfl) (by omega) (m_good1 (by omega) (by omega : (H604.1 1826 35) = 0)) ?_
                    rintro _ _ ⟨rfl, rfl⟩
                    refine h_run 0 (pc' := 193) (l' := [(0, .inr (.inr 1826)), (1, .inl (l : Int)), (2, .inl hx523r), (3, .inl hx583r)]) (st' := [.inl 1]) rfl ?_
                    refine h_zeq (off := 83) (t := 276) rfl rfl (by decide) (fun c => absurd c (by decide)) (fun _ => ?_)
                    have g610 : -2147483648 ≤ (H604.1 1826 44) ∧ (H604.1 1826 44) ≤ 2147483647 := hrg605.1 1826 13 44 _ .int rfl rfl
                    have e611 : (H604.1 1826 44) = (H583.1 1826 44) := hx604f.2.2 44 (by decide)
                    have e612 : (H583.1 1826 44) = (H557.1 1826 44) := hx583f.2.2 44 (by decide)
                    have g613 : -2147483648 ≤ (H604.1 1826 39) ∧ (H604.1 1826 39) ≤ 2147483647 := hrg605.1 1826 13 39 _ .int rfl rfl
                    have e614 : (H604.1 1826 39) = (H583.1 1826 39) := hx604f.2.2 39 (by decide)
                    have g615 : -2147483648 ≤ (H604.1 1826 1) ∧ (H604.1 1826 1) ≤ 2147483647 := hrg605.1 1826 13 1 _ .int rfl rfl
                    have e616 : (H604.1 1826 1) = (H583.1 1826 1) := hx604f.2.2 1 (by decide)
                    have e617 : (H583.1 1826 1) = (H557.1 1826 1) := hx583f.2.2 1 (by decide)
                    have g618 : -2147483648 ≤ (H604.1 1826 19) ∧ (H604.1 1826 19) ≤ 2147483647 := hrg605.1 1826 13 19 _ .int rfl rfl
                    have e619 : (H604.1 1826 19) = (H583.1 1826 19) := hx604f.2.2 19 (by decide)
                    have gk2 : (H583.1 1826 35) = 0 := by omega
                    have gk1 : (H523.1 1826 35) = 0 := by omega
                    obtain ⟨⟨k0, p1, p2, p3⟩, pT1⟩ := hx523p gk1
                    obtain ⟨⟨k1, q1, q2, q3⟩, qT2⟩ := hx583p gk2
                    have hs0 := LS_fr (LS_keep hx544f hx544z (hx544c gk1) p1 p2 p3) hx557f (by decide) (by decide)
                    have hs1 := LS_keep2 (LS_fr (id hs0 : LSd (zu (zu (zu H557 1826 (up (H557.1 1826) 40 0)) 1826 (up ((zu H557 1826 (up (H557.1 1826) 40 0)).1 1826) 41 0)) 1826 (up ((zu (zu H557 1826 (up (H557.1 1826) 40 0)) 1826 (up ((zu H557 1826 (up (H557.1 1826) 40 0)).1 1826) 41 0)).1 1826) 43 0)) _ _ _) hx583f (by decide) (by decide)) hx604f hx604z hx604b (by omega)
                    have hs2 := LS_keep hx604f hx604z (hx604c gk2) q1 q2 q3
                    have hvt := (TT_vars qT2).2 (by omega)
                    have hv9 : (H583.1 1826 39) = (((H604.1 1826 39)).toNat : Int) := by omega
                    have hs3 : LSd H604 (2 * l) k0 (((H604.1 1826 39)).toNat : Int) := LS_mono hs1 (by omega)
                    rw [hv9] at hs2
                    have hvt9 : ∀ x : Nat, (x : Int) < (H604.1 1826 39) → 0 ≤ (H604.1 1850) x ∧ (H604.1 1850) x < (H604.1 1826 1) := fun x hx => by rw [show (H604.1 1850) = (H583.1 1850) from (hx604f.2.1 1850 (by decide) (by decide)), show (H604.1 1826 1) = (H583.1 1826 1) from (hx604f.2.2 1 (by decide))]; exact hvt x (by omega)
                    refine h_run 5 (pc' := 203) (l' := [(0, .inr (.inr 1826)), (1, .inl (l : Int)), (2, .inl hx523r), (3, .inl hx583r)]) (st' := [.inl (-1), .inl hx523r, .inl (l : Int), .inr (.inr 1844)]) rfl ?_
                    refine h_ieq (off := 7) (t := 210) rfl rfl (by omega) (by decide) (fun c620 => ?_) (fun c620 => ?_)
                    · refine h_run 1 (pc' := 211) (l' := [(0, .inr (.inr 1826)), (1, .inl (l : Int)), (2, .inl hx523r), (3, .inl hx583r)]) (st' := [.inl hx583r, .inl (l : Int), .inr (.inr 1844)]) rfl ?_
                      refine h_ist (c := 1844) (j := l) (i := (l : Int)) (x := hx583r) rfl rfl (by decide) (by decide) rfl (by omega) (by omega) ?_
                      refine h_run 5 (pc' := 221) (l' := [(0, .inr (.inr 1826)), (1, .inl (l : Int)), (2, .inl hx523r), (3, .inl hx583r)]) (st' := [.inl (H604.1 1826 39), .inl (l : Int), .inr (.inr 1845)]) rfl ?_
                      refine h_ist (c := 1845) (j := l) (i := (l : Int)) (x := (H604.1 1826 39)) rfl rfl (by decide) (by decide) rfl (by omega) (by omega) ?_
                      refine h_run 2 (pc' := 225) (l' := [(0, .inr (.inr 1826)), (1, .inl (l : Int)), (2, .inl hx523r), (3, .inl hx583r), (4, .inl 0)]) (st' := []) rfl ?_
                      have g621 : -2147483648 ≤ (H604.1 1826 30) ∧ (H604.1 1826 30) ≤ 2147483647 := hrg605.1 1826 13 30 _ .int rfl rfl
                      have e622 : (H604.1 1826 30) = (H583.1 1826 30) := hx604f.2.2 30 (by decide)
                      have g623 : -2147483648 ≤ (H604.1 1826 32) ∧ (H604.1 1826 32) ≤ 2147483647 := hrg605.1 1826 13 32 _ .int rfl rfl
                      have e624 : (H604.1 1826 32) = (H583.1 1826 32) := hx604f.2.2 32 (by decide)
                      have g625 : -2147483648 ≤ (H604.1 1826 31) ∧ (H604.1 1826 31) ≤ 2147483647 := hrg605.1 1826 13 31 _ .int rfl rfl
                      have e626 : (H604.1 1826 31) = (H583.1 1826 31) := hx604f.2.2 31 (by decide)
                      have g627 : -2147483648 ≤ (H604.1 1826 29) ∧ (H604.1 1826 29) ≤ 2147483647 := hrg605.1 1826 13 29 _ .int rfl rfl
                      have e628 : (H604.1 1826 29) = (H583.1 1826 29) := hx604f.2.2 29 (by decide)
                      have e629 : (H583.1 1826 29) = (H557.1 1826 29) := hx583f.2.2 29 (by decide)
                      have g630 : -2147483648 ≤ (H604.1 1826 3) ∧ (H604.1 1826 3) ≤ 2147483647 := hrg605.1 1826 13 3 _ .int rfl rfl
                      have e631 : (H604.1 1826 3) = (H583.1 1826 3) := hx604f.2.2 3 (by decide)
                      have e632 : (H583.1 1826 3) = (H557.1 1826 3) := hx583f.2.2 3 (by decide)
                      have g633 : -2147483648 ≤ (H604.1 1826 8) ∧ (H604.1 1826 8) ≤ 2147483647 := hrg605.1 1826 13 8 _ .int rfl rfl
                      have e634 : (H604.1 1826 8) = (H583.1 1826 8) := hx604f.2.2 8 (by decide)
                      have e635 : (H583.1 1826 8) = (H557.1 1826 8) := hx583f.2.2 8 (by decide)
                      have g636 : -2147483648 ≤ (H604.1 1826 13) ∧ (H604.1 1826 13) ≤ 2147483647 := hrg605.1 1826 13 13 _ .int rfl rfl
                      have e637 : (H604.1 1826 13) = (H583.1 1826 13) := hx604f.2.2 13 (by decide)
                      have e638 : (H583.1 1826 13) = (H557.1 1826 13) := hx583f.2.2 13 (by decide)
                      refine h_loc [0, 1, 4] rfl ?_
                      exact (n_tellLaw_cut hd h0 hw hst hP hw0 hR hmf hq htk _) _ (l) 0 (k0) (k1) (((H604.1 1826 39)).toNat) (fr_a (fr_a hf606 (by decide)) (by decide)) (by omega : (H.1 1826 30) ≤ (H604.1 1826 30) ∧ (H604.1 1826 30) ≤ (H.1 1826 29)) (by omega : 0 ≤ (H604.1 1826 35) ∧ (H604.1 1826 35) ≤ 5) (by omega : 0 ≤ (H604.1 1826 32) ∧ (H604.1 1826 32) ≤ 1000) (agp_1845 (agp_a ha607 (by decide)) (by omega : (H.1 1826 19) ≤ ((l : Nat) : Int))) (by omega : (H604.1 1826 35) = 0) (by omega : ((l) : Int) = (H.1 1826 19) ∧ (H.1 1826 19) ≤ 15) (by omega : (H604.1 1826 1) = (H.1 1826 1) ∧ (H604.1 1826 3) = (H.1 1826 3) ∧ (H604.1 1826 8) = (H.1 1826 8) ∧ (H604.1 1826 13) = (H.1 1826 13) ∧ (H604.1 1826 19) = (H.1 1826 19)) hs3 hs2 (show up (H604.1 1845) l ((H604.1 1826 39)) l = _ by rw [up_eq]; omega) (by omega : (H604.1 1826 39) = (((H604.1 1826 39)).toNat) ∧ (((H604.1 1826 39)).toNat) ≤ 6) hvt9 (by omega) (fun x hx => absurd hx (Nat.not_lt_zero _)) ⟨X7, hq7, RK_fr hR7 (fr_a (fr_a (fr_rf [] [1844, 1845] H604) (by decide)) (by decide)) (by decide) (by decide), hln⟩ (Nat.lt_succ_self _)
                    · refine h_run 2 (pc' := 211) (l' := [(0, .inr (.inr 1826)), (1, .inl (l : Int)), (2, .inl hx523r), (3, .inl hx583r)]) (st' := [.inl hx523r, .inl (l : Int), .inr (.inr 1844)]) rfl ?_
                      refine h_ist (c := 1844) (j := l) (i := (l : Int)) (x := hx523r) rfl rfl (by decide) (by decide) rfl (by omega) (by omega) ?_
                      refine h_run 5 (pc' := 221) (l' := [(0, .inr (.inr 1826)), (1, .inl (l : Int)), (2, .inl hx523r), (3, .inl hx583r)]) (st' := [.inl (H604.1 1826 39), .inl (l : Int), .inr (.inr 1845)]) rfl ?_
                      refine h_ist (c := 1845) (j := l) (i := (l : Int)) (x := (H604.1 1826 39)) rfl rfl (by decide) (by decide) rfl (by omega) (by omega) ?_
                      refine h_run 2 (pc' := 225) (l' := [(0, .inr (.inr 1826)), (1, .inl (l : Int)), (2, .inl hx523r), (3, .inl hx583r), (4, .inl 0)]) (st' := []) rfl ?_
                      have g639 : -2147483648 ≤ (H604.1 1826 30) ∧ (H604.1 1826 30) ≤ 2147483647 := hrg605.1 1826 13 30 _ .int rfl rfl
                      have e640 : (H604.1 1826 30) = (H583.1 1826 30) := hx604f.2.2 30 (by decide)
                      have g641 : -2147483648 ≤ (H604.1 1826 32) ∧ (H604.1 1826 32) ≤ 2147483647 := hrg605.1 1826 13 32 _ .int rfl rfl
                      have e642 : (H604.1 1826 32) = (H583.1 1826 32) := hx604f.2.2 32 (by decide)
                      have g643 : -2147483648 ≤ (H604.1 1826 31) ∧ (H604.1 1826 31) ≤ 2147483647 := hrg605.1 1826 13 31 _ .int rfl rfl
                      have e644 : (H604.1 1826 31) = (H583.1 1826 31) := hx604f.2.2 31 (by decide)
                      have g645 : -2147483648 ≤ (H604.1 1826 29) ∧ (H604.1 1826 29) ≤ 2147483647 := hrg605.1 1826 13 29 _ .int rfl rfl
                      have e646 : (H604.1 1826 29) = (H583.1 1826 29) := hx604f.2.2 29 (by decide)
                      have e647 : (H583.1 1826 29) = (H557.1 1826 29) := hx583f.2.2 29 (by decide)
                      have g648 : -2147483648 ≤ (H604.1 1826 3) ∧ (H604.1 1826 3) ≤ 2147483647 := hrg605.1 1826 13 3 _ .int rfl rfl
                      have e649 : (H604.1 1826 3) = (H583.1 1826 3) := hx604f.2.2 3 (by decide)
                      have e650 : (H583.1 1826 3) = (H557.1 1826 3) := hx583f.2.2 3 (by decide)
                      have g651 : -2147483648 ≤ (H604.1 1826 8) ∧ (H604.1 1826 8) ≤ 2147483647 := hrg605.1 1826 13 8 _ .int rfl rfl
                      have e652 : (H604.1 1826 8) = (H583.1 1826 8) := hx604f.2.2 8 (by decide)
                      have e653 : (H583.1 1826 8) = (H557.1 1826 8) := hx583f.2.2 8 (by decide)
                      have g654 : -2147483648 ≤ (H604.1 1826 13) ∧ (H604.1 1826 13) ≤ 2147483647 := hrg605.1 1826 13 13 _ .int rfl rfl
                      have e655 : (H604.1 1826 13) = (H583.1 1826 13) := hx604f.2.2 13 (by decide)
                      have e656 : (H583.1 1826 13) = (H557.1 1826 13) := hx583f.2.2 13 (by decide)
                      refine h_loc [0, 1, 4] rfl ?_
                      exact (n_tellLaw_cut hd h0 hw hst hP hw0 hR hmf hq htk _) _ (l) 0 (k0) (k1) (((H604.1 1826 39)).toNat) (fr_a (fr_a hf606 (by decide)) (by decide)) (by omega : (H.1 1826 30) ≤ (H604.1 1826 30) ∧ (H604.1 1826 30) ≤ (H.1 1826 29)) (by omega : 0 ≤ (H604.1 1826 35) ∧ (H604.1 1826 35) ≤ 5) (by omega : 0 ≤ (H604.1 1826 32) ∧ (H604.1 1826 32) ≤ 1000) (agp_1845 (agp_a ha607 (by decide)) (by omega : (H.1 1826 19) ≤ ((l : Nat) : Int))) (by omega : (H604.1 1826 35) = 0) (by omega : ((l) : Int) = (H.1 1826 19) ∧ (H.1 1826 19) ≤ 15) (by omega : (H604.1 1826 1) = (H.1 1826 1) ∧ (H604.1 1826 3) = (H.1 1826 3) ∧ (H604.1 1826 8) = (H.1 1826 8) ∧ (H604.1 1826 13) = (H.1 1826 13) ∧ (H604.1 1826 19) = (H.1 1826 19)) hs3 hs2 (show up (H604.1 1845) l ((H604.1 1826 39)) l = _ by rw [up_eq]; omega) (by omega : (H604.1 1826 39) = (((H604.1 1826 39)).toNat) ∧ (((H604.1 1826 39)).toNat) ≤ 6) hvt9 (by omega) (fun x hx => absurd hx (Nat.not_lt_zero _)) ⟨X7, hq7, RK_fr hR7 (fr_a (fr_a (fr_rf [] [1844, 1845] H604) (by decide)) (by decide)) (by decide) (by decide), hln⟩ (Nat.lt_succ_self _)
                  · skip
                    clear hx583k
                    clear hx583w
                    refine h_run 7 (pc' := 186) (l' := [(0, .inr (.inr 1826)), (1, .inl (l : Int)), (2, .inl hx523r), (3, .inl hx583r)]) (st' := [.inl ((2 * (l : Int)) + 1), .inr (.inr 1826)]) rfl ?_
                    have g657 : -2147483648 ≤ (H583.1 1826 43) ∧ (H583.1 1826 43) ≤ 2147483647 := hrg596.1 1826 13 43 _ .int rfl rfl
                    have g658 : -2147483648 ≤ (H583.1 1826 19) ∧ (H583.1 1826 19) ≤ 2147483647 := hrg596.1 1826 13 19 _ .int rfl rfl
                    have e659 : (H583.1 1826 19) = (H557.1 1826 19) := hx583f.2.2 19 (by decide)
                    rw [show ((2 * (l : Int)) + 1) = ((2 * l + 1 : Nat) : Int) by omega]
                    refine h_cv (i := 390) (j := 188) (b := 1826) (M' := mt_188) (xs := [.inl ((2 * l + 1 : Nat) : Int)]) (rest := []) rfl rfl rfl rfl rfl rfl (Nat.le_of_ble_eq_true rfl) (Nat.le_of_ble_eq_true rfl) (by omega) (m_keepSide (by omega) (s := 2 * l + 1) (by omega : 2 * (H583.1 1826 19) ≤ ((2 * l + 1 : Nat) : Int) ∧ 2 * l + 1 ≤ 31) (by omega : (H583.1 1826 35) = 0 → 0 ≤ (H583.1 1826 43) ∧ (H583.1 1826 43) ≤ 40)) ?_
                    rintro _ H660 ⟨rfl, hx660f, hx660g, hx660z, hx660b, hx660c⟩
                    refine h_rng (fun hrg661 => ?_)
                    have hf662 : fr [30, 31, 32, 33, 35, 36, 19, 39, 40, 41, 43, 44, 47] [1841, 1842, 1843, 1844, 1845, 1846, 1847, 1849, 1850, 1851, 1852, 1853, 1854] H H660 := fr_t hf597 hx660f (by decide) (by decide)
                    have ha663 : agp H H660 := agp_tr ha598 hx660g
                    replace hx660c : hid _ := hx660c
                    refine h_run 0 (pc' := 189) (l' := [(0, .inr (.inr 1826)), (1, .inl (l : Int)), (2, .inl hx523r), (3, .inl hx583r)]) (st' := []) rfl ?_
                    have hx660n : GB Y m c0 H660 False := Or.inr ⟨(by omega : (H660.1 1826 35) ≠ 0), BD_fr (BD_fr (GB_b hx583n (by omega)) (fr_rf [] [] H583) (by decide) (by decide)) hx660f (by decide) (by decide)⟩
                    refine h_run 1 (pc' := 190) (l' := [(0, .inr (.inr 1826)), (1, .inl (l : Int)), (2, .inl hx523r), (3, .inl hx583r)]) (st' := [.inr (.inr 1826)]) rfl ?_
                    have g664 : -2147483648 ≤ (H660.1 1826 35) ∧ (H660.1 1826 35) ≤ 2147483647 := hrg661.1 1826 13 35 _ .int rfl rfl
                    have e665 : (H660.1 1826 35) = (H583.1 1826 35) := hx660f.2.2 35 (by decide)
                    refine h_cv (i := 293) (j := 158) (b := 1826) (M' := mt_158) (xs := []) (rest := []) rfl rfl rfl rfl rfl rfl (Nat.le_of_ble_eq_true rfl) (Nat.le_of_ble_eq_true rfl) (by omega) (m_good0 (by omega) (by omega : (H660.1 1826 35) ≠ 0)) ?_
                    rintro _ _ ⟨rfl, rfl⟩
                    refine h_run 0 (pc' := 193) (l' := [(0, .inr (.inr 1826)), (1, .inl (l : Int)), (2, .inl hx523r), (3, .inl hx583r)]) (st' := [.inl 0]) rfl ?_
                    refine h_zeq (off := 83) (t := 276) rfl rfl (by decide) (fun _ => ?_) (fun c => absurd c (by decide))
                    refine h_ret rfl rfl ?_
                    have g666 : -2147483648 ≤ (H660.1 1826 30) ∧ (H660.1 1826 30) ≤ 2147483647 := hrg661.1 1826 13 30 _ .int rfl rfl
                    have e667 : (H660.1 1826 30) = (H583.1 1826 30) := hx660f.2.2 30 (by decide)
                    have g668 : -2147483648 ≤ (H660.1 1826 32) ∧ (H660.1 1826 32) ≤ 2147483647 := hrg661.1 1826 13 32 _ .int rfl rfl
                    have e669 : (H660.1 1826 32) = (H583.1 1826 32) := hx660f.2.2 32 (by decide)
                    have g670 : -2147483648 ≤ (H660.1 1826 31) ∧ (H660.1 1826 31) ≤ 2147483647 := hrg661.1 1826 13 31 _ .int rfl rfl
                    have e671 : (H660.1 1826 31) = (H583.1 1826 31) := hx660f.2.2 31 (by decide)
                    have g672 : -2147483648 ≤ (H660.1 1826 29) ∧ (H660.1 1826 29) ≤ 2147483647 := hrg661.1 1826 13 29 _ .int rfl rfl
                    have e673 : (H660.1 1826 29) = (H583.1 1826 29) := hx660f.2.2 29 (by decide)
                    have e674 : (H583.1 1826 29) = (H557.1 1826 29) := hx583f.2.2 29 (by decide)
                    have g675 : -2147483648 ≤ (H660.1 1826 1) ∧ (H660.1 1826 1) ≤ 2147483647 := hrg661.1 1826 13 1 _ .int rfl rfl
                    have e676 : (H660.1 1826 1) = (H583.1 1826 1) := hx660f.2.2 1 (by decide)
                    have e677 : (H583.1 1826 1) = (H557.1 1826 1) := hx583f.2.2 1 (by decide)
                    have g678 : -2147483648 ≤ (H660.1 1826 3) ∧ (H660.1 1826 3) ≤ 2147483647 := hrg661.1 1826 13 3 _ .int rfl rfl
                    have e679 : (H660.1 1826 3) = (H583.1 1826 3) := hx660f.2.2 3 (by decide)
                    have e680 : (H583.1 1826 3) = (H557.1 1826 3) := hx583f.2.2 3 (by decide)
                    have g681 : -2147483648 ≤ (H660.1 1826 8) ∧ (H660.1 1826 8) ≤ 2147483647 := hrg661.1 1826 13 8 _ .int rfl rfl
                    have e682 : (H660.1 1826 8) = (H583.1 1826 8) := hx660f.2.2 8 (by decide)
                    have e683 : (H583.1 1826 8) = (H557.1 1826 8) := hx583f.2.2 8 (by decide)
                    have g684 : -2147483648 ≤ (H660.1 1826 13) ∧ (H660.1 1826 13) ≤ 2147483647 := hrg661.1 1826 13 13 _ .int rfl rfl
                    have e685 : (H660.1 1826 13) = (H583.1 1826 13) := hx660f.2.2 13 (by decide)
                    have e686 : (H583.1 1826 13) = (H557.1 1826 13) := hx583f.2.2 13 (by decide)
                    have g687 : -2147483648 ≤ (H660.1 1826 19) ∧ (H660.1 1826 19) ≤ 2147483647 := hrg661.1 1826 13 19 _ .int rfl rfl
                    have e688 : (H660.1 1826 19) = (H583.1 1826 19) := hx660f.2.2 19 (by decide)
                    have g689 : -2147483648 ≤ (H660.1 1826 39) ∧ (H660.1 1826 39) ≤ 2147483647 := hrg661.1 1826 13 39 _ .int rfl rfl
                    have e690 : (H660.1 1826 39) = (H583.1 1826 39) := hx660f.2.2 39 (by decide)
                    exact ⟨rfl, (Or.inr ⟨(by omega : (H660.1 1826 35) ≠ 0), GB_b hx660n (by omega)⟩), hf662, (by omega : (H.1 1826 30) ≤ (H660.1 1826 30) ∧ (H660.1 1826 30) ≤ (H.1 1826 29)), (by omega : 0 ≤ (H660.1 1826 35) ∧ (H660.1 1826 35) ≤ 5), (by omega : (H.1 1826 35) ≠ 0 → (H660.1 1826 35) ≠ 0), (by omega : 0 ≤ (H660.1 1826 32) ∧ (H660.1 1826 32) ≤ 1000), ha663, (fun (q : (H660.1 1826 35) = 0) => absurd q (by omega))⟩
                · skip
                  clear hx557g
                  refine h_run 2 (pc' := 150) (l' := [(0, .inr (.inr 1826)), (1, .inl (l : Int)), (2, .inl hx523r)]) (st' := [.inl 0, .inr (.inr 1826)]) rfl ?_
                  refine h_puti (i := 300) (ci := 13) (k := 40) (a := 1826) (x := 0) rfl rfl rfl rfl rfl rfl (by decide) (by decide) ?_
                  refine h_run 2 (pc' := 155) (l' := [(0, .inr (.inr 1826)), (1, .inl (l : Int)), (2, .inl hx523r)]) (st' := [.inl 0, .inr (.inr 1826)]) rfl ?_
                  refine h_puti (i := 335) (ci := 13) (k := 41) (a := 1826) (x := 0) rfl rfl rfl rfl rfl rfl (by decide) (by decide) ?_
                  refine h_run 2 (pc' := 160) (l' := [(0, .inr (.inr 1826)), (1, .inl (l : Int)), (2, .inl hx523r)]) (st' := [.inl 0, .inr (.inr 1826)]) rfl ?_
                  refine h_puti (i := 303) (ci := 13) (k := 43) (a := 1826) (x := 0) rfl rfl rfl rfl rfl rfl (by decide) (by decide) ?_
                  refine h_run 1 (pc' := 164) (l' := [(0, .inr (.inr 1826)), (1, .inl (l : Int)), (2, .inl hx523r)]) (st' := [.inr (.inr 1826)]) rfl ?_
                  refine h_cv (i := 293) (j := 158) (b := 1826) (M' := mt_158) (xs := []) (rest := []) rfl rfl rfl rfl rfl rfl (Nat.le_of_ble_eq_true rfl) (Nat.le_of_ble_eq_true rfl) (by omega) (m_good0 (by omega) (by omega : (H557.1 1826 35) ≠ 0)) ?_
                  rintro _ _ ⟨rfl, rfl⟩
                  refine h_run 0 (pc' := 167) (l' := [(0, .inr (.inr 1826)), (1, .inl (l : Int)), (2, .inl hx523r)]) (st' := [.inl 0]) rfl ?_
                  refine h_zeq (off := 11) (t := 178) rfl rfl (by decide) (fun _ => ?_) (fun c => absurd c (by decide))
                  refine h_run 1 (pc' := 179) (l' := [(0, .inr (.inr 1826)), (1, .inl (l : Int)), (2, .inl hx523r)]) (st' := [.inl (-1)]) rfl ?_
                  refine h_run 7 (pc' := 186) (l' := [(0, .inr (.inr 1826)), (1, .inl (l : Int)), (2, .inl hx523r), (3, .inl (-1))]) (st' := [.inl ((2 * (l : Int)) + 1), .inr (.inr 1826)]) rfl ?_
                  have g691 : -2147483648 ≤ (H557.1 1826 19) ∧ (H557.1 1826 19) ≤ 2147483647 := hrg560.1 1826 13 19 _ .int rfl rfl
                  have e692 : (H557.1 1826 19) = (H544.1 1826 19) := hx557f.2.2 19 (by decide)
                  have e693 : (H544.1 1826 19) = (H523.1 1826 19) := hx544f.2.2 19 (by decide)
                  rw [show ((2 * (l : Int)) + 1) = ((2 * l + 1 : Nat) : Int) by omega]
                  refine h_cv (i := 390) (j := 188) (b := 1826) (M' := mt_188) (xs := [.inl ((2 * l + 1 : Nat) : Int)]) (rest := []) rfl rfl rfl rfl rfl rfl (Nat.le_of_ble_eq_true rfl) (Nat.le_of_ble_eq_true rfl) (by omega) (m_keepSide (by omega) (s := 2 * l + 1) (by omega : 2 * (H557.1 1826 19) ≤ ((2 * l + 1 : Nat) : Int) ∧ 2 * l + 1 ≤ 31) (by omega : (H557.1 1826 35) = 0 → 0 ≤ (0 : Int) ∧ (0 : Int) ≤ 40)) ?_
                  rintro _ H694 ⟨rfl, hx694f, hx694g, hx694z, hx694b, hx694c⟩
                  refine h_rng (fun hrg695 => ?_)
                  have hf696 : fr [30, 31, 32, 33, 35, 36, 19, 39, 40, 41, 43, 44, 47] [1841, 1842, 1843, 1844, 1845, 1846, 1847, 1849, 1850, 1851, 1852, 1853, 1854] H H694 := fr_t (fr_o (fr_o (fr_o hf561 (by decide)) (by decide)) (by decide)) hx694f (by decide) (by decide)
                  have ha697 : agp H H694 := agp_tr (agp_o (agp_o (agp_o ha562 (by decide)) (by decide)) (by decide)) hx694g
                  replace hx694c : hid _ := hx694c
                  refine h_run 0 (pc' := 189) (l' := [(0, .inr (.inr 1826)), (1, .inl (l : Int)), (2, .inl hx523r), (3, .inl (-1))]) (st' := []) rfl ?_
                  have hx694n : GB Y m c0 H694 False := Or.inr ⟨(by omega : (H694.1 1826 35) ≠ 0), BD_fr (BD_fr (GB_b hx557n (by omega)) (fr_o (fr_o (fr_o (fr_rf [40, 41, 43] [] H557) (by decide)) (by decide)) (by decide)) (by decide) (by decide)) hx694f (by decide) (by decide)⟩
                  refine h_run 1 (pc' := 190) (l' := [(0, .inr (.inr 1826)), (1, .inl (l : Int)), (2, .inl hx523r), (3, .inl (-1))]) (st' := [.inr (.inr 1826)]) rfl ?_
                  have g698 : -2147483648 ≤ (H694.1 1826 35) ∧ (H694.1 1826 35) ≤ 2147483647 := hrg695.1 1826 13 35 _ .int rfl rfl
                  have e699 : (H694.1 1826 35) = (H557.1 1826 35) := hx694f.2.2 35 (by decide)
                  refine h_cv (i := 293) (j := 158) (b := 1826) (M' := mt_158) (xs := []) (rest := []) rfl rfl rfl rfl rfl rfl (Nat.le_of_ble_eq_true rfl) (Nat.le_of_ble_eq_true rfl) (by omega) (m_good0 (by omega) (by omega : (H694.1 1826 35) ≠ 0)) ?_
                  rintro _ _ ⟨rfl, rfl⟩
                  refine h_run 0 (pc' := 193) (l' := [(0, .inr (.inr 1826)), (1, .inl (l : Int)), (2, .inl hx523r), (3, .inl (-1))]) (st' := [.inl 0]) rfl ?_
                  refine h_zeq (off := 83) (t := 276) rfl rfl (by decide) (fun _ => ?_) (fun c => absurd c (by decide))
                  refine h_ret rfl rfl ?_
                  have g700 : -2147483648 ≤ (H694.1 1826 30) ∧ (H694.1 1826 30) ≤ 2147483647 := hrg695.1 1826 13 30 _ .int rfl rfl
                  have e701 : (H694.1 1826 30) = (H557.1 1826 30) := hx694f.2.2 30 (by decide)
                  have g702 : -2147483648 ≤ (H694.1 1826 32) ∧ (H694.1 1826 32) ≤ 2147483647 := hrg695.1 1826 13 32 _ .int rfl rfl
                  have e703 : (H694.1 1826 32) = (H557.1 1826 32) := hx694f.2.2 32 (by decide)
                  have g704 : -2147483648 ≤ (H694.1 1826 31) ∧ (H694.1 1826 31) ≤ 2147483647 := hrg695.1 1826 13 31 _ .int rfl rfl
                  have e705 : (H694.1 1826 31) = (H557.1 1826 31) := hx694f.2.2 31 (by decide)
                  have g706 : -2147483648 ≤ (H694.1 1826 29) ∧ (H694.1 1826 29) ≤ 2147483647 := hrg695.1 1826 13 29 _ .int rfl rfl
                  have e707 : (H694.1 1826 29) = (H557.1 1826 29) := hx694f.2.2 29 (by decide)
                  have e708 : (H557.1 1826 29) = (H544.1 1826 29) := hx557f.2.2 29 (by decide)
                  have g709 : -2147483648 ≤ (H694.1 1826 1) ∧ (H694.1 1826 1) ≤ 2147483647 := hrg695.1 1826 13 1 _ .int rfl rfl
                  have e710 : (H694.1 1826 1) = (H557.1 1826 1) := hx694f.2.2 1 (by decide)
                  have e711 : (H557.1 1826 1) = (H544.1 1826 1) := hx557f.2.2 1 (by decide)
                  have e712 : (H544.1 1826 1) = (H523.1 1826 1) := hx544f.2.2 1 (by decide)
                  have e713 : (H523.1 1826 1) = (H505.1 1826 1) := hx523f.2.2 1 (by decide)
                  have g714 : -2147483648 ≤ (H694.1 1826 3) ∧ (H694.1 1826 3) ≤ 2147483647 := hrg695.1 1826 13 3 _ .int rfl rfl
                  have e715 : (H694.1 1826 3) = (H557.1 1826 3) := hx694f.2.2 3 (by decide)
                  have e716 : (H557.1 1826 3) = (H544.1 1826 3) := hx557f.2.2 3 (by decide)
                  have e717 : (H544.1 1826 3) = (H523.1 1826 3) := hx544f.2.2 3 (by decide)
                  have e718 : (H523.1 1826 3) = (H505.1 1826 3) := hx523f.2.2 3 (by decide)
                  have g719 : -2147483648 ≤ (H694.1 1826 8) ∧ (H694.1 1826 8) ≤ 2147483647 := hrg695.1 1826 13 8 _ .int rfl rfl
                  have e720 : (H694.1 1826 8) = (H557.1 1826 8) := hx694f.2.2 8 (by decide)
                  have e721 : (H557.1 1826 8) = (H544.1 1826 8) := hx557f.2.2 8 (by decide)
                  have e722 : (H544.1 1826 8) = (H523.1 1826 8) := hx544f.2.2 8 (by decide)
                  have e723 : (H523.1 1826 8) = (H505.1 1826 8) := hx523f.2.2 8 (by decide)
                  have g724 : -2147483648 ≤ (H694.1 1826 13) ∧ (H694.1 1826 13) ≤ 2147483647 := hrg695.1 1826 13 13 _ .int rfl rfl
                  have e725 : (H694.1 1826 13) = (H557.1 1826 13) := hx694f.2.2 13 (by decide)
                  have e726 : (H557.1 1826 13) = (H544.1 1826 13) := hx557f.2.2 13 (by decide)
                  have e727 : (H544.1 1826 13) = (H523.1 1826 13) := hx544f.2.2 13 (by decide)
                  have e728 : (H523.1 1826 13) = (H505.1 1826 13) := hx523f.2.2 13 (by decide)
                  have g729 : -2147483648 ≤ (H694.1 1826 19) ∧ (H694.1 1826 19) ≤ 2147483647 := hrg695.1 1826 13 19 _ .int rfl rfl
                  have e730 : (H694.1 1826 19) = (H557.1 1826 19) := hx694f.2.2 19 (by decide)
                  have g731 : -2147483648 ≤ (H694.1 1826 39) ∧ (H694.1 1826 39) ≤ 2147483647 := hrg695.1 1826 13 39 _ .int rfl rfl
                  have e732 : (H694.1 1826 39) = (H557.1 1826 39) := hx694f.2.2 39 (by decide)
                  have e733 : (H557.1 1826 39) = (H544.1 1826 39) := hx557f.2.2 39 (by decide)
                  have e734 : (H544.1 1826 39) = (H523.1 1826 39) := hx544f.2.2 39 (by decide)
                  exact ⟨rfl, (Or.inr ⟨(by omega : (H694.1 1826 35) ≠ 0), GB_b hx694n (by omega)⟩), hf696, (by omega : (H.1 1826 30) ≤ (H694.1 1826 30) ∧ (H694.1 1826 30) ≤ (H.1 1826 29)), (by omega : 0 ≤ (H694.1 1826 35) ∧ (H694.1 1826 35) ≤ 5), (by omega : (H.1 1826 35) ≠ 0 → (H694.1 1826 35) ≠ 0), (by omega : 0 ≤ (H694.1 1826 32) ∧ (H694.1 1826 32) ≤ 1000), ha697, (fun (q : (H694.1 1826 35) = 0) => absurd q (by omega))⟩
              · skip
                clear hx523k
                clear hx523w
                refine h_run 1 (pc' := 135) (l' := [(0, .inr (.inr 1826)), (1, .inl (l : Int)), (2, .inl hx523r)]) (st' := []) rfl ?_
                skip
                refine h_run 4 (pc' := 139) (l' := [(0, .inr (.inr 1826)), (1, .inl (l : Int)), (2, .inl hx523r)]) (st' := [.inl (2 * (l : Int)), .inr (.inr 1826)]) rfl ?_
                have g735 : -2147483648 ≤ (H523.1 1826 43) ∧ (H523.1 1826 43) ≤ 2147483647 := hrg536.1 1826 13 43 _ .int rfl rfl
                have g736 : -2147483648 ≤ (H523.1 1826 19) ∧ (H523.1 1826 19) ≤ 2147483647 := hrg536.1 1826 13 19 _ .int rfl rfl
                have e737 : (H523.1 1826 19) = (H505.1 1826 19) := hx523f.2.2 19 (by decide)
                rw [show (2 * (l : Int)) = ((2 * l : Nat) : Int) by omega]
                refine h_cv (i := 390) (j := 188) (b := 1826) (M' := mt_188) (xs := [.inl ((2 * l : Nat) : Int)]) (rest := []) rfl rfl rfl rfl rfl rfl (Nat.le_of_ble_eq_true rfl) (Nat.le_of_ble_eq_true rfl) (by omega) (m_keepSide (by omega) (s := 2 * l) (by omega : 2 * (H523.1 1826 19) ≤ ((2 * l : Nat) : Int) ∧ 2 * l ≤ 31) (by omega : (H523.1 1826 35) = 0 → 0 ≤ (H523.1 1826 43) ∧ (H523.1 1826 43) ≤ 40)) ?_
                rintro _ H738 ⟨rfl, hx738f, hx738g, hx738z, hx738b, hx738c⟩
                refine h_rng (fun hrg739 => ?_)
                have hf740 : fr [30, 31, 32, 33, 35, 36, 19, 39, 40, 41, 43, 44, 47] [1841, 1842, 1843, 1844, 1845, 1846, 1847, 1849, 1850, 1851, 1852, 1853, 1854] H H738 := fr_t hf537 hx738f (by decide) (by decide)
                have ha741 : agp H H738 := agp_tr ha538 hx738g
                replace hx738c : hid _ := hx738c
                refine h_run 0 (pc' := 142) (l' := [(0, .inr (.inr 1826)), (1, .inl (l : Int)), (2, .inl hx523r)]) (st' := []) rfl ?_
                have hx738n : GB Y m c0 H738 False := Or.inr ⟨(by omega : (H738.1 1826 35) ≠ 0), BD_fr (BD_fr (GB_b hx523n (by omega)) (fr_rf [] [] H523) (by decide) (by decide)) hx738f (by decide) (by decide)⟩
                refine h_run 2 (pc' := 145) (l' := [(0, .inr (.inr 1826)), (1, .inl (l : Int)), (2, .inl hx523r)]) (st' := [.inl 61, .inr (.inr 1826)]) rfl ?_
                have g742 : -2147483648 ≤ (H738.1 1826 35) ∧ (H738.1 1826 35) ≤ 2147483647 := hrg739.1 1826 13 35 _ .int rfl rfl
                have e743 : (H738.1 1826 35) = (H523.1 1826 35) := hx738f.2.2 35 (by decide)
                refine h_cv (i := 313) (j := 166) (b := 1826) (M' := mt_166) (xs := [.inl 61]) (rest := []) rfl rfl rfl rfl rfl rfl (Nat.le_of_ble_eq_true rfl) (Nat.le_of_ble_eq_true rfl) (by omega) (n_want0 (by omega) (by omega : (H738.1 1826 35) ≠ 0)) ?_
                rintro _ _ ⟨rfl, rfl⟩
                refine h_run 0 (pc' := 148) (l' := [(0, .inr (.inr 1826)), (1, .inl (l : Int)), (2, .inl hx523r)]) (st' := []) rfl ?_
                refine h_run 2 (pc' := 150) (l' := [(0, .inr (.inr 1826)), (1, .inl (l : Int)), (2, .inl hx523r)]) (st' := [.inl 0, .inr (.inr 1826)]) rfl ?_
                refine h_puti (i := 300) (ci := 13) (k := 40) (a := 1826) (x := 0) rfl rfl rfl rfl rfl rfl (by decide) (by decide) ?_
                refine h_run 2 (pc' := 155) (l' := [(0, .inr (.inr 1826)), (1, .inl (l : Int)), (2, .inl hx523r)]) (st' := [.inl 0, .inr (.inr 1826)]) rfl ?_
                refine h_puti (i := 335) (ci := 13) (k := 41) (a := 1826) (x := 0) rfl rfl rfl rfl rfl rfl (by decide) (by decide) ?_
                refine h_run 2 (pc' := 160) (l' := [(0, .inr (.inr 1826)), (1, .inl (l : Int)), (2, .inl hx523r)]) (st' := [.inl 0, .inr (.inr 1826)]) rfl ?_
                refine h_puti (i := 303) (ci := 13) (k := 43) (a := 1826) (x := 0) rfl rfl rfl rfl rfl rfl (by decide) (by decide) ?_
                refine h_run 1 (pc' := 164) (l' := [(0, .inr (.inr 1826)), (1, .inl (l : Int)), (2, .inl hx523r)]) (st' := [.inr (.inr 1826)]) rfl ?_
                refine h_cv (i := 293) (j := 158) (b := 1826) (M' := mt_158) (xs := []) (rest := []) rfl rfl rfl rfl rfl rfl (Nat.le_of_ble_eq_true rfl) (Nat.le_of_ble_eq_true rfl) (by omega) (m_good0 (by omega) (by omega : (H738.1 1826 35) ≠ 0)) ?_
                rintro _ _ ⟨rfl, rfl⟩
                refine h_run 0 (pc' := 167) (l' := [(0, .inr (.inr 1826)), (1, .inl (l : Int)), (2, .inl hx523r)]) (st' := [.inl 0]) rfl ?_
                refine h_zeq (off := 11) (t := 178) rfl rfl (by decide) (fun _ => ?_) (fun c => absurd c (by decide))
                refine h_run 1 (pc' := 179) (l' := [(0, .inr (.inr 1826)), (1, .inl (l : Int)), (2, .inl hx523r)]) (st' := [.inl (-1)]) rfl ?_
                refine h_run 7 (pc' := 186) (l' := [(0, .inr (.inr 1826)), (1, .inl (l : Int)), (2, .inl hx523r), (3, .inl (-1))]) (st' := [.inl ((2 * (l : Int)) + 1), .inr (.inr 1826)]) rfl ?_
                have g744 : -2147483648 ≤ (H738.1 1826 19) ∧ (H738.1 1826 19) ≤ 2147483647 := hrg739.1 1826 13 19 _ .int rfl rfl
                have e745 : (H738.1 1826 19) = (H523.1 1826 19) := hx738f.2.2 19 (by decide)
                rw [show ((2 * (l : Int)) + 1) = ((2 * l + 1 : Nat) : Int) by omega]
                refine h_cv (i := 390) (j := 188) (b := 1826) (M' := mt_188) (xs := [.inl ((2 * l + 1 : Nat) : Int)]) (rest := []) rfl rfl rfl rfl rfl rfl (Nat.le_of_ble_eq_true rfl) (Nat.le_of_ble_eq_true rfl) (by omega) (m_keepSide (by omega) (s := 2 * l + 1) (by omega : 2 * (H738.1 1826 19) ≤ ((2 * l + 1 : Nat) : Int) ∧ 2 * l + 1 ≤ 31) (by omega : (H738.1 1826 35) = 0 → 0 ≤ (0 : Int) ∧ (0 : Int) ≤ 40)) ?_
                rintro _ H746 ⟨rfl, hx746f, hx746g, hx746z, hx746b, hx746c⟩
                refine h_rng (fun hrg747 => ?_)
                have hf748 : fr [30, 31, 32, 33, 35, 36, 19, 39, 40, 41, 43, 44, 47] [1841, 1842, 1843, 1844, 1845, 1846, 1847, 1849, 1850, 1851, 1852, 1853, 1854] H H746 := fr_t (fr_o (fr_o (fr_o hf740 (by decide)) (by decide)) (by decide)) hx746f (by decide) (by decide)
                have ha749 : agp H H746 := agp_tr (agp_o (agp_o (agp_o ha741 (by decide)) (by decide)) (by decide)) hx746g
                replace hx746c : hid _ := hx746c
                refine h_run 0 (pc' := 189) (l' := [(0, .inr (.inr 1826)), (1, .inl (l : Int)), (2, .inl hx523r), (3, .inl (-1))]) (st' := []) rfl ?_
                have hx746n : GB Y m c0 H746 False := Or.inr ⟨(by omega : (H746.1 1826 35) ≠ 0), BD_fr (BD_fr (GB_b hx738n (by omega)) (fr_o (fr_o (fr_o (fr_rf [40, 41, 43] [] H738) (by decide)) (by decide)) (by decide)) (by decide) (by decide)) hx746f (by decide) (by decide)⟩
                refine h_run 1 (pc' := 190) (l' := [(0, .inr (.inr 1826)), (1, .inl (l : Int)), (2, .inl hx523r), (3, .inl (-1))]) (st' := [.inr (.inr 1826)]) rfl ?_
                have g750 : -2147483648 ≤ (H746.1 1826 35) ∧ (H746.1 1826 35) ≤ 2147483647 := hrg747.1 1826 13 35 _ .int rfl rfl
                have e751 : (H746.1 1826 35) = (H738.1 1826 35) := hx746f.2.2 35 (by decide)
                refine h_cv (i := 293) (j := 158) (b := 1826) (M' := mt_158) (xs := []) (rest := []) rfl rfl rfl rfl rfl rfl (Nat.le_of_ble_eq_true rfl) (Nat.le_of_ble_eq_true rfl) (by omega) (m_good0 (by omega) (by omega : (H746.1 1826 35) ≠ 0)) ?_
                rintro _ _ ⟨rfl, rfl⟩
                refine h_run 0 (pc' := 193) (l' := [(0, .inr (.inr 1826)), (1, .inl (l : Int)), (2, .inl hx523r), (3, .inl (-1))]) (st' := [.inl 0]) rfl ?_
                refine h_zeq (off := 83) (t := 276) rfl rfl (by decide) (fun _ => ?_) (fun c => absurd c (by decide))
                refine h_ret rfl rfl ?_
                have g752 : -2147483648 ≤ (H746.1 1826 30) ∧ (H746.1 1826 30) ≤ 2147483647 := hrg747.1 1826 13 30 _ .int rfl rfl
                have e753 : (H746.1 1826 30) = (H738.1 1826 30) := hx746f.2.2 30 (by decide)
                have e754 : (H738.1 1826 30) = (H523.1 1826 30) := hx738f.2.2 30 (by decide)
                have g755 : -2147483648 ≤ (H746.1 1826 32) ∧ (H746.1 1826 32) ≤ 2147483647 := hrg747.1 1826 13 32 _ .int rfl rfl
                have e756 : (H746.1 1826 32) = (H738.1 1826 32) := hx746f.2.2 32 (by decide)
                have e757 : (H738.1 1826 32) = (H523.1 1826 32) := hx738f.2.2 32 (by decide)
                have g758 : -2147483648 ≤ (H746.1 1826 31) ∧ (H746.1 1826 31) ≤ 2147483647 := hrg747.1 1826 13 31 _ .int rfl rfl
                have e759 : (H746.1 1826 31) = (H738.1 1826 31) := hx746f.2.2 31 (by decide)
                have e760 : (H738.1 1826 31) = (H523.1 1826 31) := hx738f.2.2 31 (by decide)
                have g761 : -2147483648 ≤ (H746.1 1826 29) ∧ (H746.1 1826 29) ≤ 2147483647 := hrg747.1 1826 13 29 _ .int rfl rfl
                have e762 : (H746.1 1826 29) = (H738.1 1826 29) := hx746f.2.2 29 (by decide)
                have e763 : (H738.1 1826 29) = (H523.1 1826 29) := hx738f.2.2 29 (by decide)
                have e764 : (H523.1 1826 29) = (H505.1 1826 29) := hx523f.2.2 29 (by decide)
                have g765 : -2147483648 ≤ (H746.1 1826 1) ∧ (H746.1 1826 1) ≤ 2147483647 := hrg747.1 1826 13 1 _ .int rfl rfl
                have e766 : (H746.1 1826 1) = (H738.1 1826 1) := hx746f.2.2 1 (by decide)
                have e767 : (H738.1 1826 1) = (H523.1 1826 1) := hx738f.2.2 1 (by decide)
                have e768 : (H523.1 1826 1) = (H505.1 1826 1) := hx523f.2.2 1 (by decide)
                have g769 : -2147483648 ≤ (H746.1 1826 3) ∧ (H746.1 1826 3) ≤ 2147483647 := hrg747.1 1826 13 3 _ .int rfl rfl
                have e770 : (H746.1 1826 3) = (H738.1 1826 3) := hx746f.2.2 3 (by decide)
                have e771 : (H738.1 1826 3) = (H523.1 1826 3) := hx738f.2.2 3 (by decide)
                have e772 : (H523.1 1826 3) = (H505.1 1826 3) := hx523f.2.2 3 (by decide)
                have g773 : -2147483648 ≤ (H746.1 1826 8) ∧ (H746.1 1826 8) ≤ 2147483647 := hrg747.1 1826 13 8 _ .int rfl rfl
                have e774 : (H746.1 1826 8) = (H738.1 1826 8) := hx746f.2.2 8 (by decide)
                have e775 : (H738.1 1826 8) = (H523.1 1826 8) := hx738f.2.2 8 (by decide)
                have e776 : (H523.1 1826 8) = (H505.1 1826 8) := hx523f.2.2 8 (by decide)
                have g777 : -2147483648 ≤ (H746.1 1826 13) ∧ (H746.1 1826 13) ≤ 2147483647 := hrg747.1 1826 13 13 _ .int rfl rfl
                have e778 : (H746.1 1826 13) = (H738.1 1826 13) := hx746f.2.2 13 (by decide)
                have e779 : (H738.1 1826 13) = (H523.1 1826 13) := hx738f.2.2 13 (by decide)
                have e780 : (H523.1 1826 13) = (H505.1 1826 13) := hx523f.2.2 13 (by decide)
                have g781 : -2147483648 ≤ (H746.1 1826 19) ∧ (H746.1 1826 19) ≤ 2147483647 := hrg747.1 1826 13 19 _ .int rfl rfl
                have e782 : (H746.1 1826 19) = (H738.1 1826 19) := hx746f.2.2 19 (by decide)
                have g783 : -2147483648 ≤ (H746.1 1826 39) ∧ (H746.1 1826 39) ≤ 2147483647 := hrg747.1 1826 13 39 _ .int rfl rfl
                have e784 : (H746.1 1826 39) = (H738.1 1826 39) := hx746f.2.2 39 (by decide)
                have e785 : (H738.1 1826 39) = (H523.1 1826 39) := hx738f.2.2 39 (by decide)
                exact ⟨rfl, (Or.inr ⟨(by omega : (H746.1 1826 35) ≠ 0), GB_b hx746n (by omega)⟩), hf748, (by omega : (H.1 1826 30) ≤ (H746.1 1826 30) ∧ (H746.1 1826 30) ≤ (H.1 1826 29)), (by omega : 0 ≤ (H746.1 1826 35) ∧ (H746.1 1826 35) ≤ 5), (by omega : (H.1 1826 35) ≠ 0 → (H746.1 1826 35) ≠ 0), (by omega : 0 ≤ (H746.1 1826 32) ∧ (H746.1 1826 32) ≤ 1000), ha749, (fun (q : (H746.1 1826 35) = 0) => absurd q (by omega))⟩
            · skip
              clear hx505g
              refine h_run 1 (pc' := 110) (l' := [(0, .inr (.inr 1826)), (1, .inl (l : Int))]) (st' := [.inr (.inr 1826)]) rfl ?_
              refine h_cv (i := 379) (j := 185) (b := 1826) (M' := mt_185) (xs := []) (rest := []) rfl rfl rfl rfl rfl rfl (Nat.le_of_ble_eq_true rfl) (Nat.le_of_ble_eq_true rfl) (by omega) (m_beginTerm (by omega)) ?_
              rintro _ _ ⟨rfl, rfl⟩
              refine h_run 0 (pc' := 113) (l' := [(0, .inr (.inr 1826)), (1, .inl (l : Int))]) (st' := []) rfl ?_
              refine h_run 2 (pc' := 115) (l' := [(0, .inr (.inr 1826)), (1, .inl (l : Int))]) (st' := [.inl 2, .inr (.inr 1826)]) rfl ?_
              refine h_puti (i := 367) (ci := 13) (k := 44) (a := 1826) (x := 2) rfl rfl rfl rfl rfl rfl (by decide) (by decide) ?_
              refine h_run 1 (pc' := 119) (l' := [(0, .inr (.inr 1826)), (1, .inl (l : Int))]) (st' := [.inr (.inr 1826)]) rfl ?_
              refine h_cv (i := 293) (j := 158) (b := 1826) (M' := mt_158) (xs := []) (rest := []) rfl rfl rfl rfl rfl rfl (Nat.le_of_ble_eq_true rfl) (Nat.le_of_ble_eq_true rfl) (by omega) (m_good0 (by omega) (by omega : (H505.1 1826 35) ≠ 0)) ?_
              rintro _ _ ⟨rfl, rfl⟩
              refine h_run 0 (pc' := 122) (l' := [(0, .inr (.inr 1826)), (1, .inl (l : Int))]) (st' := [.inl 0]) rfl ?_
              refine h_zeq (off := 11) (t := 133) rfl rfl (by decide) (fun _ => ?_) (fun c => absurd c (by decide))
              refine h_run 1 (pc' := 134) (l' := [(0, .inr (.inr 1826)), (1, .inl (l : Int))]) (st' := [.inl (-1)]) rfl ?_
              refine h_run 1 (pc' := 135) (l' := [(0, .inr (.inr 1826)), (1, .inl (l : Int)), (2, .inl (-1))]) (st' := []) rfl ?_
              skip
              refine h_run 4 (pc' := 139) (l' := [(0, .inr (.inr 1826)), (1, .inl (l : Int)), (2, .inl (-1))]) (st' := [.inl (2 * (l : Int)), .inr (.inr 1826)]) rfl ?_
              have g786 : -2147483648 ≤ (H505.1 1826 19) ∧ (H505.1 1826 19) ≤ 2147483647 := hrg507.1 1826 13 19 _ .int rfl rfl
              have e787 : (H505.1 1826 19) = (H495.1 1826 19) := hx505f.2.2 19 (by decide)
              have e788 : (H495.1 1826 19) = (H39.1 1826 19) := hx495f.2.2 19 (by decide)
              rw [show (2 * (l : Int)) = ((2 * l : Nat) : Int) by omega]
              refine h_cv (i := 390) (j := 188) (b := 1826) (M' := mt_188) (xs := [.inl ((2 * l : Nat) : Int)]) (rest := []) rfl rfl rfl rfl rfl rfl (Nat.le_of_ble_eq_true rfl) (Nat.le_of_ble_eq_true rfl) (by omega) (m_keepSide (by omega) (s := 2 * l) (by omega : 2 * (H505.1 1826 19) ≤ ((2 * l : Nat) : Int) ∧ 2 * l ≤ 31) (by omega : (H505.1 1826 35) = 0 → 0 ≤ (0 : Int) ∧ (0 : Int) ≤ 40)) ?_
              rintro _ H789 ⟨rfl, hx789f, hx789g, hx789z, hx789b, hx789c⟩
              refine h_rng (fun hrg790 => ?_)
              have hf791 : fr [30, 31, 32, 33, 35, 36, 19, 39, 40, 41, 43, 44, 47] [1841, 1842, 1843, 1844, 1845, 1846, 1847, 1849, 1850, 1851, 1852, 1853, 1854] H H789 := fr_t (fr_o (fr_o (fr_o (fr_o (fr_o hf508 (by decide)) (by decide)) (by decide)) (by decide)) (by decide)) hx789f (by decide) (by decide)
              have ha792 : agp H H789 := agp_tr (agp_o (agp_o (agp_o (agp_o (agp_o ha509 (by decide)) (by decide)) (by decide)) (by decide)) (by decide)) hx789g
              replace hx789c : hid _ := hx789c
              refine h_run 0 (pc' := 142) (l' := [(0, .inr (.inr 1826)), (1, .inl (l : Int)), (2, .inl (-1))]) (st' := []) rfl ?_
              have hx789n : GB Y m c0 H789 False := Or.inr ⟨(by omega : (H789.1 1826 35) ≠ 0), BD_fr (BD_fr (GB_b hx505n (by omega)) (fr_o (fr_o (fr_o (fr_o (fr_o (fr_rf [39, 40, 41, 43, 44] [] H505) (by decide)) (by decide)) (by decide)) (by decide)) (by decide)) (by decide) (by decide)) hx789f (by decide) (by decide)⟩
              refine h_run 2 (pc' := 145) (l' := [(0, .inr (.inr 1826)), (1, .inl (l : Int)), (2, .inl (-1))]) (st' := [.inl 61, .inr (.inr 1826)]) rfl ?_
              have g793 : -2147483648 ≤ (H789.1 1826 35) ∧ (H789.1 1826 35) ≤ 2147483647 := hrg790.1 1826 13 35 _ .int rfl rfl
              have e794 : (H789.1 1826 35) = (H505.1 1826 35) := hx789f.2.2 35 (by decide)
              refine h_cv (i := 313) (j := 166) (b := 1826) (M' := mt_166) (xs := [.inl 61]) (rest := []) rfl rfl rfl rfl rfl rfl (Nat.le_of_ble_eq_true rfl) (Nat.le_of_ble_eq_true rfl) (by omega) (n_want0 (by omega) (by omega : (H789.1 1826 35) ≠ 0)) ?_
              rintro _ _ ⟨rfl, rfl⟩
              refine h_run 0 (pc' := 148) (l' := [(0, .inr (.inr 1826)), (1, .inl (l : Int)), (2, .inl (-1))]) (st' := []) rfl ?_
              refine h_run 2 (pc' := 150) (l' := [(0, .inr (.inr 1826)), (1, .inl (l : Int)), (2, .inl (-1))]) (st' := [.inl 0, .inr (.inr 1826)]) rfl ?_
              refine h_puti (i := 300) (ci := 13) (k := 40) (a := 1826) (x := 0) rfl rfl rfl rfl rfl rfl (by decide) (by decide) ?_
              refine h_run 2 (pc' := 155) (l' := [(0, .inr (.inr 1826)), (1, .inl (l : Int)), (2, .inl (-1))]) (st' := [.inl 0, .inr (.inr 1826)]) rfl ?_
              refine h_puti (i := 335) (ci := 13) (k := 41) (a := 1826) (x := 0) rfl rfl rfl rfl rfl rfl (by decide) (by decide) ?_
              refine h_run 2 (pc' := 160) (l' := [(0, .inr (.inr 1826)), (1, .inl (l : Int)), (2, .inl (-1))]) (st' := [.inl 0, .inr (.inr 1826)]) rfl ?_
              refine h_puti (i := 303) (ci := 13) (k := 43) (a := 1826) (x := 0) rfl rfl rfl rfl rfl rfl (by decide) (by decide) ?_
              refine h_run 1 (pc' := 164) (l' := [(0, .inr (.inr 1826)), (1, .inl (l : Int)), (2, .inl (-1))]) (st' := [.inr (.inr 1826)]) rfl ?_
              refine h_cv (i := 293) (j := 158) (b := 1826) (M' := mt_158) (xs := []) (rest := []) rfl rfl rfl rfl rfl rfl (Nat.le_of_ble_eq_true rfl) (Nat.le_of_ble_eq_true rfl) (by omega) (m_good0 (by omega) (by omega : (H789.1 1826 35) ≠ 0)) ?_
              rintro _ _ ⟨rfl, rfl⟩
              refine h_run 0 (pc' := 167) (l' := [(0, .inr (.inr 1826)), (1, .inl (l : Int)), (2, .inl (-1))]) (st' := [.inl 0]) rfl ?_
              refine h_zeq (off := 11) (t := 178) rfl rfl (by decide) (fun _ => ?_) (fun c => absurd c (by decide))
              refine h_run 1 (pc' := 179) (l' := [(0, .inr (.inr 1826)), (1, .inl (l : Int)), (2, .inl (-1))]) (st' := [.inl (-1)]) rfl ?_
              refine h_run 7 (pc' := 186) (l' := [(0, .inr (.inr 1826)), (1, .inl (l : Int)), (2, .inl (-1)), (3, .inl (-1))]) (st' := [.inl ((2 * (l : Int)) + 1), .inr (.inr 1826)]) rfl ?_
              have g795 : -2147483648 ≤ (H789.1 1826 19) ∧ (H789.1 1826 19) ≤ 2147483647 := hrg790.1 1826 13 19 _ .int rfl rfl
              have e796 : (H789.1 1826 19) = (H505.1 1826 19) := hx789f.2.2 19 (by decide)
              rw [show ((2 * (l : Int)) + 1) = ((2 * l + 1 : Nat) : Int) by omega]
              refine h_cv (i := 390) (j := 188) (b := 1826) (M' := mt_188) (xs := [.inl ((2 * l + 1 : Nat) : Int)]) (rest := []) rfl rfl rfl rfl rfl rfl (Nat.le_of_ble_eq_true rfl) (Nat.le_of_ble_eq_true rfl) (by omega) (m_keepSide (by omega) (s := 2 * l + 1) (by omega : 2 * (H789.1 1826 19) ≤ ((2 * l + 1 : Nat) : Int) ∧ 2 * l + 1 ≤ 31) (by omega : (H789.1 1826 35) = 0 → 0 ≤ (0 : Int) ∧ (0 : Int) ≤ 40)) ?_
              rintro _ H797 ⟨rfl, hx797f, hx797g, hx797z, hx797b, hx797c⟩
              refine h_rng (fun hrg798 => ?_)
              have hf799 : fr [30, 31, 32, 33, 35, 36, 19, 39, 40, 41, 43, 44, 47] [1841, 1842, 1843, 1844, 1845, 1846, 1847, 1849, 1850, 1851, 1852, 1853, 1854] H H797 := fr_t (fr_o (fr_o (fr_o hf791 (by decide)) (by decide)) (by decide)) hx797f (by decide) (by decide)
              have ha800 : agp H H797 := agp_tr (agp_o (agp_o (agp_o ha792 (by decide)) (by decide)) (by decide)) hx797g
              replace hx797c : hid _ := hx797c
              refine h_run 0 (pc' := 189) (l' := [(0, .inr (.inr 1826)), (1, .inl (l : Int)), (2, .inl (-1)), (3, .inl (-1))]) (st' := []) rfl ?_
              have hx797n : GB Y m c0 H797 False := Or.inr ⟨(by omega : (H797.1 1826 35) ≠ 0), BD_fr (BD_fr (GB_b hx789n (by omega)) (fr_o (fr_o (fr_o (fr_rf [40, 41, 43] [] H789) (by decide)) (by decide)) (by decide)) (by decide) (by decide)) hx797f (by decide) (by decide)⟩
              refine h_run 1 (pc' := 190) (l' := [(0, .inr (.inr 1826)), (1, .inl (l : Int)), (2, .inl (-1)), (3, .inl (-1))]) (st' := [.inr (.inr 1826)]) rfl ?_
              have g801 : -2147483648 ≤ (H797.1 1826 35) ∧ (H797.1 1826 35) ≤ 2147483647 := hrg798.1 1826 13 35 _ .int rfl rfl
              have e802 : (H797.1 1826 35) = (H789.1 1826 35) := hx797f.2.2 35 (by decide)
              refine h_cv (i := 293) (j := 158) (b := 1826) (M' := mt_158) (xs := []) (rest := []) rfl rfl rfl rfl rfl rfl (Nat.le_of_ble_eq_true rfl) (Nat.le_of_ble_eq_true rfl) (by omega) (m_good0 (by omega) (by omega : (H797.1 1826 35) ≠ 0)) ?_
              rintro _ _ ⟨rfl, rfl⟩
              refine h_run 0 (pc' := 193) (l' := [(0, .inr (.inr 1826)), (1, .inl (l : Int)), (2, .inl (-1)), (3, .inl (-1))]) (st' := [.inl 0]) rfl ?_
              refine h_zeq (off := 83) (t := 276) rfl rfl (by decide) (fun _ => ?_) (fun c => absurd c (by decide))
              refine h_ret rfl rfl ?_
              have g803 : -2147483648 ≤ (H797.1 1826 30) ∧ (H797.1 1826 30) ≤ 2147483647 := hrg798.1 1826 13 30 _ .int rfl rfl
              have e804 : (H797.1 1826 30) = (H789.1 1826 30) := hx797f.2.2 30 (by decide)
              have e805 : (H789.1 1826 30) = (H505.1 1826 30) := hx789f.2.2 30 (by decide)
              have g806 : -2147483648 ≤ (H797.1 1826 32) ∧ (H797.1 1826 32) ≤ 2147483647 := hrg798.1 1826 13 32 _ .int rfl rfl
              have e807 : (H797.1 1826 32) = (H789.1 1826 32) := hx797f.2.2 32 (by decide)
              have e808 : (H789.1 1826 32) = (H505.1 1826 32) := hx789f.2.2 32 (by decide)
              have g809 : -2147483648 ≤ (H797.1 1826 31) ∧ (H797.1 1826 31) ≤ 2147483647 := hrg798.1 1826 13 31 _ .int rfl rfl
              have e810 : (H797.1 1826 31) = (H789.1 1826 31) := hx797f.2.2 31 (by decide)
              have e811 : (H789.1 1826 31) = (H505.1 1826 31) := hx789f.2.2 31 (by decide)
              have g812 : -2147483648 ≤ (H797.1 1826 29) ∧ (H797.1 1826 29) ≤ 2147483647 := hrg798.1 1826 13 29 _ .int rfl rfl
              have e813 : (H797.1 1826 29) = (H789.1 1826 29) := hx797f.2.2 29 (by decide)
              have e814 : (H789.1 1826 29) = (H505.1 1826 29) := hx789f.2.2 29 (by decide)
              have e815 : (H505.1 1826 29) = (H495.1 1826 29) := hx505f.2.2 29 (by decide)
              have g816 : -2147483648 ≤ (H797.1 1826 1) ∧ (H797.1 1826 1) ≤ 2147483647 := hrg798.1 1826 13 1 _ .int rfl rfl
              have e817 : (H797.1 1826 1) = (H789.1 1826 1) := hx797f.2.2 1 (by decide)
              have e818 : (H789.1 1826 1) = (H505.1 1826 1) := hx789f.2.2 1 (by decide)
              have e819 : (H505.1 1826 1) = (H495.1 1826 1) := hx505f.2.2 1 (by decide)
              have e820 : (H495.1 1826 1) = (H39.1 1826 1) := hx495f.2.2 1 (by decide)
              have e821 : (H39.1 1826 1) = (H.1 1826 1) := hx39f.2.2 1 (by decide)
              have g822 : -2147483648 ≤ (H797.1 1826 3) ∧ (H797.1 1826 3) ≤ 2147483647 := hrg798.1 1826 13 3 _ .int rfl rfl
              have e823 : (H797.1 1826 3) = (H789.1 1826 3) := hx797f.2.2 3 (by decide)
              have e824 : (H789.1 1826 3) = (H505.1 1826 3) := hx789f.2.2 3 (by decide)
              have e825 : (H505.1 1826 3) = (H495.1 1826 3) := hx505f.2.2 3 (by decide)
              have e826 : (H495.1 1826 3) = (H39.1 1826 3) := hx495f.2.2 3 (by decide)
              have e827 : (H39.1 1826 3) = (H.1 1826 3) := hx39f.2.2 3 (by decide)
              have g828 : -2147483648 ≤ (H797.1 1826 8) ∧ (H797.1 1826 8) ≤ 2147483647 := hrg798.1 1826 13 8 _ .int rfl rfl
              have e829 : (H797.1 1826 8) = (H789.1 1826 8) := hx797f.2.2 8 (by decide)
              have e830 : (H789.1 1826 8) = (H505.1 1826 8) := hx789f.2.2 8 (by decide)
              have e831 : (H505.1 1826 8) = (H495.1 1826 8) := hx505f.2.2 8 (by decide)
              have e832 : (H495.1 1826 8) = (H39.1 1826 8) := hx495f.2.2 8 (by decide)
              have e833 : (H39.1 1826 8) = (H.1 1826 8) := hx39f.2.2 8 (by decide)
              have g834 : -2147483648 ≤ (H797.1 1826 13) ∧ (H797.1 1826 13) ≤ 2147483647 := hrg798.1 1826 13 13 _ .int rfl rfl
              have e835 : (H797.1 1826 13) = (H789.1 1826 13) := hx797f.2.2 13 (by decide)
              have e836 : (H789.1 1826 13) = (H505.1 1826 13) := hx789f.2.2 13 (by decide)
              have e837 : (H505.1 1826 13) = (H495.1 1826 13) := hx505f.2.2 13 (by decide)
              have e838 : (H495.1 1826 13) = (H39.1 1826 13) := hx495f.2.2 13 (by decide)
              have e839 : (H39.1 1826 13) = (H.1 1826 13) := hx39f.2.2 13 (by decide)
              have g840 : -2147483648 ≤ (H797.1 1826 19) ∧ (H797.1 1826 19) ≤ 2147483647 := hrg798.1 1826 13 19 _ .int rfl rfl
              have e841 : (H797.1 1826 19) = (H789.1 1826 19) := hx797f.2.2 19 (by decide)
              have g842 : -2147483648 ≤ (H797.1 1826 39) ∧ (H797.1 1826 39) ≤ 2147483647 := hrg798.1 1826 13 39 _ .int rfl rfl
              have e843 : (H797.1 1826 39) = (H789.1 1826 39) := hx797f.2.2 39 (by decide)
              have e844 : (H789.1 1826 39) = 0 := hx789f.2.2 39 (by decide)
              exact ⟨rfl, (Or.inr ⟨(by omega : (H797.1 1826 35) ≠ 0), GB_b hx797n (by omega)⟩), hf799, (by omega : (H.1 1826 30) ≤ (H797.1 1826 30) ∧ (H797.1 1826 30) ≤ (H.1 1826 29)), (by omega : 0 ≤ (H797.1 1826 35) ∧ (H797.1 1826 35) ≤ 5), (by omega : (H.1 1826 35) ≠ 0 → (H797.1 1826 35) ≠ 0), (by omega : 0 ≤ (H797.1 1826 32) ∧ (H797.1 1826 32) ≤ 1000), ha800, (fun (q : (H797.1 1826 35) = 0) => absurd q (by omega))⟩
          · skip
            clear hx495g
            refine h_run 2 (pc' := 106) (l' := [(0, .inr (.inr 1826)), (1, .inl (l : Int))]) (st' := [.inl 58, .inr (.inr 1826)]) rfl ?_
            refine h_cv (i := 313) (j := 166) (b := 1826) (M' := mt_166) (xs := [.inl 58]) (rest := []) rfl rfl rfl rfl rfl rfl (Nat.le_of_ble_eq_true rfl) (Nat.le_of_ble_eq_true rfl) (by omega) (n_want0 (by omega) (by omega : (H495.1 1826 35) ≠ 0)) ?_
            rintro _ _ ⟨rfl, rfl⟩
            refine h_run 0 (pc' := 109) (l' := [(0, .inr (.inr 1826)), (1, .inl (l : Int))]) (st' := []) rfl ?_
            refine h_run 1 (pc' := 110) (l' := [(0, .inr (.inr 1826)), (1, .inl (l : Int))]) (st' := [.inr (.inr 1826)]) rfl ?_
            refine h_cv (i := 379) (j := 185) (b := 1826) (M' := mt_185) (xs := []) (rest := []) rfl rfl rfl rfl rfl rfl (Nat.le_of_ble_eq_true rfl) (Nat.le_of_ble_eq_true rfl) (by omega) (m_beginTerm (by omega)) ?_
            rintro _ _ ⟨rfl, rfl⟩
            refine h_run 0 (pc' := 113) (l' := [(0, .inr (.inr 1826)), (1, .inl (l : Int))]) (st' := []) rfl ?_
            refine h_run 2 (pc' := 115) (l' := [(0, .inr (.inr 1826)), (1, .inl (l : Int))]) (st' := [.inl 2, .inr (.inr 1826)]) rfl ?_
            refine h_puti (i := 367) (ci := 13) (k := 44) (a := 1826) (x := 2) rfl rfl rfl rfl rfl rfl (by decide) (by decide) ?_
            refine h_run 1 (pc' := 119) (l' := [(0, .inr (.inr 1826)), (1, .inl (l : Int))]) (st' := [.inr (.inr 1826)]) rfl ?_
            refine h_cv (i := 293) (j := 158) (b := 1826) (M' := mt_158) (xs := []) (rest := []) rfl rfl rfl rfl rfl rfl (Nat.le_of_ble_eq_true rfl) (Nat.le_of_ble_eq_true rfl) (by omega) (m_good0 (by omega) (by omega : (H495.1 1826 35) ≠ 0)) ?_
            rintro _ _ ⟨rfl, rfl⟩
            refine h_run 0 (pc' := 122) (l' := [(0, .inr (.inr 1826)), (1, .inl (l : Int))]) (st' := [.inl 0]) rfl ?_
            refine h_zeq (off := 11) (t := 133) rfl rfl (by decide) (fun _ => ?_) (fun c => absurd c (by decide))
            refine h_run 1 (pc' := 134) (l' := [(0, .inr (.inr 1826)), (1, .inl (l : Int))]) (st' := [.inl (-1)]) rfl ?_
            refine h_run 1 (pc' := 135) (l' := [(0, .inr (.inr 1826)), (1, .inl (l : Int)), (2, .inl (-1))]) (st' := []) rfl ?_
            skip
            refine h_run 4 (pc' := 139) (l' := [(0, .inr (.inr 1826)), (1, .inl (l : Int)), (2, .inl (-1))]) (st' := [.inl (2 * (l : Int)), .inr (.inr 1826)]) rfl ?_
            have g845 : -2147483648 ≤ (H495.1 1826 19) ∧ (H495.1 1826 19) ≤ 2147483647 := hrg496.1 1826 13 19 _ .int rfl rfl
            have e846 : (H495.1 1826 19) = (H39.1 1826 19) := hx495f.2.2 19 (by decide)
            rw [show (2 * (l : Int)) = ((2 * l : Nat) : Int) by omega]
            refine h_cv (i := 390) (j := 188) (b := 1826) (M' := mt_188) (xs := [.inl ((2 * l : Nat) : Int)]) (rest := []) rfl rfl rfl rfl rfl rfl (Nat.le_of_ble_eq_true rfl) (Nat.le_of_ble_eq_true rfl) (by omega) (m_keepSide (by omega) (s := 2 * l) (by omega : 2 * (H495.1 1826 19) ≤ ((2 * l : Nat) : Int) ∧ 2 * l ≤ 31) (by omega : (H495.1 1826 35) = 0 → 0 ≤ (0 : Int) ∧ (0 : Int) ≤ 40)) ?_
            rintro _ H847 ⟨rfl, hx847f, hx847g, hx847z, hx847b, hx847c⟩
            refine h_rng (fun hrg848 => ?_)
            have hf849 : fr [30, 31, 32, 33, 35, 36, 19, 39, 40, 41, 43, 44, 47] [1841, 1842, 1843, 1844, 1845, 1846, 1847, 1849, 1850, 1851, 1852, 1853, 1854] H H847 := fr_t (fr_o (fr_o (fr_o (fr_o (fr_o hf497 (by decide)) (by decide)) (by decide)) (by decide)) (by decide)) hx847f (by decide) (by decide)
            have ha850 : agp H H847 := agp_tr (agp_o (agp_o (agp_o (agp_o (agp_o ha498 (by decide)) (by decide)) (by decide)) (by decide)) (by decide)) hx847g
            replace hx847c : hid _ := hx847c
            refine h_run 0 (pc' := 142) (l' := [(0, .inr (.inr 1826)), (1, .inl (l : Int)), (2, .inl (-1))]) (st' := []) rfl ?_
            have hx847n : GB Y m c0 H847 False := Or.inr ⟨(by omega : (H847.1 1826 35) ≠ 0), BD_fr (BD_fr (GB_b hx495n (by omega)) (fr_o (fr_o (fr_o (fr_o (fr_o (fr_rf [39, 40, 41, 43, 44] [] H495) (by decide)) (by decide)) (by decide)) (by decide)) (by decide)) (by decide) (by decide)) hx847f (by decide) (by decide)⟩
            refine h_run 2 (pc' := 145) (l' := [(0, .inr (.inr 1826)), (1, .inl (l : Int)), (2, .inl (-1))]) (st' := [.inl 61, .inr (.inr 1826)]) rfl ?_
            have g851 : -2147483648 ≤ (H847.1 1826 35) ∧ (H847.1 1826 35) ≤ 2147483647 := hrg848.1 1826 13 35 _ .int rfl rfl
            have e852 : (H847.1 1826 35) = (H495.1 1826 35) := hx847f.2.2 35 (by decide)
            refine h_cv (i := 313) (j := 166) (b := 1826) (M' := mt_166) (xs := [.inl 61]) (rest := []) rfl rfl rfl rfl rfl rfl (Nat.le_of_ble_eq_true rfl) (Nat.le_of_ble_eq_true rfl) (by omega) (n_want0 (by omega) (by omega : (H847.1 1826 35) ≠ 0)) ?_
            rintro _ _ ⟨rfl, rfl⟩
            refine h_run 0 (pc' := 148) (l' := [(0, .inr (.inr 1826)), (1, .inl (l : Int)), (2, .inl (-1))]) (st' := []) rfl ?_
            refine h_run 2 (pc' := 150) (l' := [(0, .inr (.inr 1826)), (1, .inl (l : Int)), (2, .inl (-1))]) (st' := [.inl 0, .inr (.inr 1826)]) rfl ?_
            refine h_puti (i := 300) (ci := 13) (k := 40) (a := 1826) (x := 0) rfl rfl rfl rfl rfl rfl (by decide) (by decide) ?_
            refine h_run 2 (pc' := 155) (l' := [(0, .inr (.inr 1826)), (1, .inl (l : Int)), (2, .inl (-1))]) (st' := [.inl 0, .inr (.inr 1826)]) rfl ?_
            refine h_puti (i := 335) (ci := 13) (k := 41) (a := 1826) (x := 0) rfl rfl rfl rfl rfl rfl (by decide) (by decide) ?_
            refine h_run 2 (pc' := 160) (l' := [(0, .inr (.inr 1826)), (1, .inl (l : Int)), (2, .inl (-1))]) (st' := [.inl 0, .inr (.inr 1826)]) rfl ?_
            refine h_puti (i := 303) (ci := 13) (k := 43) (a := 1826) (x := 0) rfl rfl rfl rfl rfl rfl (by decide) (by decide) ?_
            refine h_run 1 (pc' := 164) (l' := [(0, .inr (.inr 1826)), (1, .inl (l : Int)), (2, .inl (-1))]) (st' := [.inr (.inr 1826)]) rfl ?_
            refine h_cv (i := 293) (j := 158) (b := 1826) (M' := mt_158) (xs := []) (rest := []) rfl rfl rfl rfl rfl rfl (Nat.le_of_ble_eq_true rfl) (Nat.le_of_ble_eq_true rfl) (by omega) (m_good0 (by omega) (by omega : (H847.1 1826 35) ≠ 0)) ?_
            rintro _ _ ⟨rfl, rfl⟩
            refine h_run 0 (pc' := 167) (l' := [(0, .inr (.inr 1826)), (1, .inl (l : Int)), (2, .inl (-1))]) (st' := [.inl 0]) rfl ?_
            refine h_zeq (off := 11) (t := 178) rfl rfl (by decide) (fun _ => ?_) (fun c => absurd c (by decide))
            refine h_run 1 (pc' := 179) (l' := [(0, .inr (.inr 1826)), (1, .inl (l : Int)), (2, .inl (-1))]) (st' := [.inl (-1)]) rfl ?_
            refine h_run 7 (pc' := 186) (l' := [(0, .inr (.inr 1826)), (1, .inl (l : Int)), (2, .inl (-1)), (3, .inl (-1))]) (st' := [.inl ((2 * (l : Int)) + 1), .inr (.inr 1826)]) rfl ?_
            have g853 : -2147483648 ≤ (H847.1 1826 19) ∧ (H847.1 1826 19) ≤ 2147483647 := hrg848.1 1826 13 19 _ .int rfl rfl
            have e854 : (H847.1 1826 19) = (H495.1 1826 19) := hx847f.2.2 19 (by decide)
            rw [show ((2 * (l : Int)) + 1) = ((2 * l + 1 : Nat) : Int) by omega]
            refine h_cv (i := 390) (j := 188) (b := 1826) (M' := mt_188) (xs := [.inl ((2 * l + 1 : Nat) : Int)]) (rest := []) rfl rfl rfl rfl rfl rfl (Nat.le_of_ble_eq_true rfl) (Nat.le_of_ble_eq_true rfl) (by omega) (m_keepSide (by omega) (s := 2 * l + 1) (by omega : 2 * (H847.1 1826 19) ≤ ((2 * l + 1 : Nat) : Int) ∧ 2 * l + 1 ≤ 31) (by omega : (H847.1 1826 35) = 0 → 0 ≤ (0 : Int) ∧ (0 : Int) ≤ 40)) ?_
            rintro _ H855 ⟨rfl, hx855f, hx855g, hx855z, hx855b, hx855c⟩
            refine h_rng (fun hrg856 => ?_)
            have hf857 : fr [30, 31, 32, 33, 35, 36, 19, 39, 40, 41, 43, 44, 47] [1841, 1842, 1843, 1844, 1845, 1846, 1847, 1849, 1850, 1851, 1852, 1853, 1854] H H855 := fr_t (fr_o (fr_o (fr_o hf849 (by decide)) (by decide)) (by decide)) hx855f (by decide) (by decide)
            have ha858 : agp H H855 := agp_tr (agp_o (agp_o (agp_o ha850 (by decide)) (by decide)) (by decide)) hx855g
            replace hx855c : hid _ := hx855c
            refine h_run 0 (pc' := 189) (l' := [(0, .inr (.inr 1826)), (1, .inl (l : Int)), (2, .inl (-1)), (3, .inl (-1))]) (st' := []) rfl ?_
            have hx855n : GB Y m c0 H855 False := Or.inr ⟨(by omega : (H855.1 1826 35) ≠ 0), BD_fr (BD_fr (GB_b hx847n (by omega)) (fr_o (fr_o (fr_o (fr_rf [40, 41, 43] [] H847) (by decide)) (by decide)) (by decide)) (by decide) (by decide)) hx855f (by decide) (by decide)⟩
            refine h_run 1 (pc' := 190) (l' := [(0, .inr (.inr 1826)), (1, .inl (l : Int)), (2, .inl (-1)), (3, .inl (-1))]) (st' := [.inr (.inr 1826)]) rfl ?_
            have g859 : -2147483648 ≤ (H855.1 1826 35) ∧ (H855.1 1826 35) ≤ 2147483647 := hrg856.1 1826 13 35 _ .int rfl rfl
            have e860 : (H855.1 1826 35) = (H847.1 1826 35) := hx855f.2.2 35 (by decide)
            refine h_cv (i := 293) (j := 158) (b := 1826) (M' := mt_158) (xs := []) (rest := []) rfl rfl rfl rfl rfl rfl (Nat.le_of_ble_eq_true rfl) (Nat.le_of_ble_eq_true rfl) (by omega) (m_good0 (by omega) (by omega : (H855.1 1826 35) ≠ 0)) ?_
            rintro _ _ ⟨rfl, rfl⟩
            refine h_run 0 (pc' := 193) (l' := [(0, .inr (.inr 1826)), (1, .inl (l : Int)), (2, .inl (-1)), (3, .inl (-1))]) (st' := [.inl 0]) rfl ?_
            refine h_zeq (off := 83) (t := 276) rfl rfl (by decide) (fun _ => ?_) (fun c => absurd c (by decide))
            refine h_ret rfl rfl ?_
            have g861 : -2147483648 ≤ (H855.1 1826 30) ∧ (H855.1 1826 30) ≤ 2147483647 := hrg856.1 1826 13 30 _ .int rfl rfl
            have e862 : (H855.1 1826 30) = (H847.1 1826 30) := hx855f.2.2 30 (by decide)
            have e863 : (H847.1 1826 30) = (H495.1 1826 30) := hx847f.2.2 30 (by decide)
            have g864 : -2147483648 ≤ (H855.1 1826 32) ∧ (H855.1 1826 32) ≤ 2147483647 := hrg856.1 1826 13 32 _ .int rfl rfl
            have e865 : (H855.1 1826 32) = (H847.1 1826 32) := hx855f.2.2 32 (by decide)
            have e866 : (H847.1 1826 32) = (H495.1 1826 32) := hx847f.2.2 32 (by decide)
            have g867 : -2147483648 ≤ (H855.1 1826 31) ∧ (H855.1 1826 31) ≤ 2147483647 := hrg856.1 1826 13 31 _ .int rfl rfl
            have e868 : (H855.1 1826 31) = (H847.1 1826 31) := hx855f.2.2 31 (by decide)
            have e869 : (H847.1 1826 31) = (H495.1 1826 31) := hx847f.2.2 31 (by decide)
            have g870 : -2147483648 ≤ (H855.1 1826 29) ∧ (H855.1 1826 29) ≤ 2147483647 := hrg856.1 1826 13 29 _ .int rfl rfl
            have e871 : (H855.1 1826 29) = (H847.1 1826 29) := hx855f.2.2 29 (by decide)
            have e872 : (H847.1 1826 29) = (H495.1 1826 29) := hx847f.2.2 29 (by decide)
            have e873 : (H495.1 1826 29) = (H39.1 1826 29) := hx495f.2.2 29 (by decide)
            have g874 : -2147483648 ≤ (H855.1 1826 1) ∧ (H855.1 1826 1) ≤ 2147483647 := hrg856.1 1826 13 1 _ .int rfl rfl
            have e875 : (H855.1 1826 1) = (H847.1 1826 1) := hx855f.2.2 1 (by decide)
            have e876 : (H847.1 1826 1) = (H495.1 1826 1) := hx847f.2.2 1 (by decide)
            have e877 : (H495.1 1826 1) = (H39.1 1826 1) := hx495f.2.2 1 (by decide)
            have e878 : (H39.1 1826 1) = (H.1 1826 1) := hx39f.2.2 1 (by decide)
            have g879 : -2147483648 ≤ (H855.1 1826 3) ∧ (H855.1 1826 3) ≤ 2147483647 := hrg856.1 1826 13 3 _ .int rfl rfl
            have e880 : (H855.1 1826 3) = (H847.1 1826 3) := hx855f.2.2 3 (by decide)
            have e881 : (H847.1 1826 3) = (H495.1 1826 3) := hx847f.2.2 3 (by decide)
            have e882 : (H495.1 1826 3) = (H39.1 1826 3) := hx495f.2.2 3 (by decide)
            have e883 : (H39.1 1826 3) = (H.1 1826 3) := hx39f.2.2 3 (by decide)
            have g884 : -2147483648 ≤ (H855.1 1826 8) ∧ (H855.1 1826 8) ≤ 2147483647 := hrg856.1 1826 13 8 _ .int rfl rfl
            have e885 : (H855.1 1826 8) = (H847.1 1826 8) := hx855f.2.2 8 (by decide)
            have e886 : (H847.1 1826 8) = (H495.1 1826 8) := hx847f.2.2 8 (by decide)
            have e887 : (H495.1 1826 8) = (H39.1 1826 8) := hx495f.2.2 8 (by decide)
            have e888 : (H39.1 1826 8) = (H.1 1826 8) := hx39f.2.2 8 (by decide)
            have g889 : -2147483648 ≤ (H855.1 1826 13) ∧ (H855.1 1826 13) ≤ 2147483647 := hrg856.1 1826 13 13 _ .int rfl rfl
            have e890 : (H855.1 1826 13) = (H847.1 1826 13) := hx855f.2.2 13 (by decide)
            have e891 : (H847.1 1826 13) = (H495.1 1826 13) := hx847f.2.2 13 (by decide)
            have e892 : (H495.1 1826 13) = (H39.1 1826 13) := hx495f.2.2 13 (by decide)
            have e893 : (H39.1 1826 13) = (H.1 1826 13) := hx39f.2.2 13 (by decide)
            have g894 : -2147483648 ≤ (H855.1 1826 19) ∧ (H855.1 1826 19) ≤ 2147483647 := hrg856.1 1826 13 19 _ .int rfl rfl
            have e895 : (H855.1 1826 19) = (H847.1 1826 19) := hx855f.2.2 19 (by decide)
            have g896 : -2147483648 ≤ (H855.1 1826 39) ∧ (H855.1 1826 39) ≤ 2147483647 := hrg856.1 1826 13 39 _ .int rfl rfl
            have e897 : (H855.1 1826 39) = (H847.1 1826 39) := hx855f.2.2 39 (by decide)
            have e898 : (H847.1 1826 39) = 0 := hx847f.2.2 39 (by decide)
            exact ⟨rfl, (Or.inr ⟨(by omega : (H855.1 1826 35) ≠ 0), GB_b hx855n (by omega)⟩), hf857, (by omega : (H.1 1826 30) ≤ (H855.1 1826 30) ∧ (H855.1 1826 30) ≤ (H.1 1826 29)), (by omega : 0 ≤ (H855.1 1826 35) ∧ (H855.1 1826 35) ≤ 5), (by omega : (H.1 1826 35) ≠ 0 → (H855.1 1826 35) ≠ 0), (by omega : 0 ≤ (H855.1 1826 32) ∧ (H855.1 1826 32) ≤ 1000), ha858, (fun (q : (H855.1 1826 35) = 0) => absurd q (by omega))⟩
        · refine h_run 2 (pc' := 73) (l' := [(0, .inr (.inr 1826))]) (st' := [.inl 5, .inr (.inr 1826)]) rfl ?_
          refine h_cv (i := 278) (j := 159) (b := 1826) (M' := mt_159) (xs := [.inl 5]) (rest := []) rfl rfl rfl rfl rfl rfl (Nat.le_of_ble_eq_true rfl) (Nat.le_of_ble_eq_true rfl) (by omega) (m_bad0 (by omega) (by omega) (by omega : (H39.1 1826 35) = 0)) ?_
          rintro _ _ ⟨rfl, rfl⟩
          refine h_run 0 (pc' := 76) (l' := [(0, .inr (.inr 1826))]) (st' := []) rfl ?_
          refine h_run 1 (pc' := 77) (l' := [(0, .inr (.inr 1826))]) (st' := [.inr (.inr 1826)]) rfl ?_
          refine h_cv (i := 293) (j := 158) (b := 1826) (M' := mt_158) (xs := []) (rest := []) rfl rfl rfl rfl rfl rfl (Nat.le_of_ble_eq_true rfl) (Nat.le_of_ble_eq_true rfl) (by omega) (m_good0 (by omega) (by omega : (5 : Int) ≠ 0)) ?_
          rintro _ _ ⟨rfl, rfl⟩
          refine h_run 0 (pc' := 80) (l' := [(0, .inr (.inr 1826))]) (st' := [.inl 0]) rfl ?_
          refine h_zne (off := 4) (t := 84) rfl rfl (by decide) (fun c => absurd c (by decide)) (fun _ => ?_)
          refine h_ret rfl rfl ?_
          have g899 : -2147483648 ≤ (H39.1 1826 30) ∧ (H39.1 1826 30) ≤ 2147483647 := hrg40.1 1826 13 30 _ .int rfl rfl
          have g900 : -2147483648 ≤ (H39.1 1826 32) ∧ (H39.1 1826 32) ≤ 2147483647 := hrg40.1 1826 13 32 _ .int rfl rfl
          have g901 : -2147483648 ≤ (H39.1 1826 29) ∧ (H39.1 1826 29) ≤ 2147483647 := hrg40.1 1826 13 29 _ .int rfl rfl
          have e902 : (H39.1 1826 29) = (H.1 1826 29) := hx39f.2.2 29 (by decide)
          have g903 : -2147483648 ≤ (H39.1 1826 1) ∧ (H39.1 1826 1) ≤ 2147483647 := hrg40.1 1826 13 1 _ .int rfl rfl
          have e904 : (H39.1 1826 1) = (H.1 1826 1) := hx39f.2.2 1 (by decide)
          have g905 : -2147483648 ≤ (H39.1 1826 3) ∧ (H39.1 1826 3) ≤ 2147483647 := hrg40.1 1826 13 3 _ .int rfl rfl
          have e906 : (H39.1 1826 3) = (H.1 1826 3) := hx39f.2.2 3 (by decide)
          have g907 : -2147483648 ≤ (H39.1 1826 8) ∧ (H39.1 1826 8) ≤ 2147483647 := hrg40.1 1826 13 8 _ .int rfl rfl
          have e908 : (H39.1 1826 8) = (H.1 1826 8) := hx39f.2.2 8 (by decide)
          have g909 : -2147483648 ≤ (H39.1 1826 13) ∧ (H39.1 1826 13) ≤ 2147483647 := hrg40.1 1826 13 13 _ .int rfl rfl
          have e910 : (H39.1 1826 13) = (H.1 1826 13) := hx39f.2.2 13 (by decide)
          have g911 : -2147483648 ≤ (H39.1 1826 39) ∧ (H39.1 1826 39) ≤ 2147483647 := hrg40.1 1826 13 39 _ .int rfl rfl
          have e912 : (H39.1 1826 39) = (H.1 1826 39) := hx39f.2.2 39 (by decide)
          exact ⟨rfl, (Or.inr ⟨(by omega : (5 : Int) ≠ 0), (BD_mk hR1 (fr_o (fr_o (fr_rf [35, 36] [] H39) (by decide)) (by decide)) (by decide) (by decide) (by decide : (5 : Int) ≠ 0) rfl rfl (rch_st hq (by show stDec Y nn K X = _; unfold stDec miss; (repeat (first | rw [if_pos (by omega)] | rw [if_neg (by omega)])); try rfl)))⟩), (fr_o (fr_o hf41 (by decide)) (by decide)), (by omega : (H.1 1826 30) ≤ (H39.1 1826 30) ∧ (H39.1 1826 30) ≤ (H.1 1826 29)), (by omega : 0 ≤ (5 : Int) ∧ (5 : Int) ≤ 5), (by omega : (H.1 1826 35) ≠ 0 → (5 : Int) ≠ 0), (by omega : 0 ≤ (H39.1 1826 32) ∧ (H39.1 1826 32) ≤ 1000), (agp_o (agp_o ha42 (by decide)) (by decide)), (fun (q : (5 : Int) = 0) => absurd q (by omega))⟩
    · refine h_run 2 (pc' := 21) (l' := [(0, .inr (.inr 1826))]) (st' := [.inl 2, .inr (.inr 1826)]) rfl ?_
      refine h_cv (i := 278) (j := 159) (b := 1826) (M' := mt_159) (xs := [.inl 2]) (rest := []) rfl rfl rfl rfl rfl rfl (Nat.le_of_ble_eq_true rfl) (Nat.le_of_ble_eq_true rfl) (by omega) (m_bad0 (by omega) (by omega) (by omega : (H39.1 1826 35) = 0)) ?_
      rintro _ _ ⟨rfl, rfl⟩
      refine h_run 0 (pc' := 24) (l' := [(0, .inr (.inr 1826))]) (st' := []) rfl ?_
      refine h_run 1 (pc' := 25) (l' := [(0, .inr (.inr 1826))]) (st' := [.inr (.inr 1826)]) rfl ?_
      refine h_cv (i := 293) (j := 158) (b := 1826) (M' := mt_158) (xs := []) (rest := []) rfl rfl rfl rfl rfl rfl (Nat.le_of_ble_eq_true rfl) (Nat.le_of_ble_eq_true rfl) (by omega) (m_good0 (by omega) (by omega : (2 : Int) ≠ 0)) ?_
      rintro _ _ ⟨rfl, rfl⟩
      refine h_run 0 (pc' := 28) (l' := [(0, .inr (.inr 1826))]) (st' := [.inl 0]) rfl ?_
      refine h_zeq (off := 27) (t := 55) rfl rfl (by decide) (fun _ => ?_) (fun c => absurd c (by decide))
      refine h_run 1 (pc' := 56) (l' := [(0, .inr (.inr 1826))]) (st' := [.inr (.inr 1826)]) rfl ?_
      refine h_cv (i := 293) (j := 158) (b := 1826) (M' := mt_158) (xs := []) (rest := []) rfl rfl rfl rfl rfl rfl (Nat.le_of_ble_eq_true rfl) (Nat.le_of_ble_eq_true rfl) (by omega) (m_good0 (by omega) (by omega : (2 : Int) ≠ 0)) ?_
      rintro _ _ ⟨rfl, rfl⟩
      refine h_run 0 (pc' := 59) (l' := [(0, .inr (.inr 1826))]) (st' := [.inl 0]) rfl ?_
      refine h_zeq (off := 17) (t := 76) rfl rfl (by decide) (fun _ => ?_) (fun c => absurd c (by decide))
      refine h_run 1 (pc' := 77) (l' := [(0, .inr (.inr 1826))]) (st' := [.inr (.inr 1826)]) rfl ?_
      refine h_cv (i := 293) (j := 158) (b := 1826) (M' := mt_158) (xs := []) (rest := []) rfl rfl rfl rfl rfl rfl (Nat.le_of_ble_eq_true rfl) (Nat.le_of_ble_eq_true rfl) (by omega) (m_good0 (by omega) (by omega : (2 : Int) ≠ 0)) ?_
      rintro _ _ ⟨rfl, rfl⟩
      refine h_run 0 (pc' := 80) (l' := [(0, .inr (.inr 1826))]) (st' := [.inl 0]) rfl ?_
      refine h_zne (off := 4) (t := 84) rfl rfl (by decide) (fun c => absurd c (by decide)) (fun _ => ?_)
      refine h_ret rfl rfl ?_
      have g913 : -2147483648 ≤ (H39.1 1826 30) ∧ (H39.1 1826 30) ≤ 2147483647 := hrg40.1 1826 13 30 _ .int rfl rfl
      have g914 : -2147483648 ≤ (H39.1 1826 32) ∧ (H39.1 1826 32) ≤ 2147483647 := hrg40.1 1826 13 32 _ .int rfl rfl
      have g915 : -2147483648 ≤ (H39.1 1826 29) ∧ (H39.1 1826 29) ≤ 2147483647 := hrg40.1 1826 13 29 _ .int rfl rfl
      have e916 : (H39.1 1826 29) = (H.1 1826 29) := hx39f.2.2 29 (by decide)
      have g917 : -2147483648 ≤ (H39.1 1826 1) ∧ (H39.1 1826 1) ≤ 2147483647 := hrg40.1 1826 13 1 _ .int rfl rfl
      have e918 : (H39.1 1826 1) = (H.1 1826 1) := hx39f.2.2 1 (by decide)
      have g919 : -2147483648 ≤ (H39.1 1826 3) ∧ (H39.1 1826 3) ≤ 2147483647 := hrg40.1 1826 13 3 _ .int rfl rfl
      have e920 : (H39.1 1826 3) = (H.1 1826 3) := hx39f.2.2 3 (by decide)
      have g921 : -2147483648 ≤ (H39.1 1826 8) ∧ (H39.1 1826 8) ≤ 2147483647 := hrg40.1 1826 13 8 _ .int rfl rfl
      have e922 : (H39.1 1826 8) = (H.1 1826 8) := hx39f.2.2 8 (by decide)
      have g923 : -2147483648 ≤ (H39.1 1826 13) ∧ (H39.1 1826 13) ≤ 2147483647 := hrg40.1 1826 13 13 _ .int rfl rfl
      have e924 : (H39.1 1826 13) = (H.1 1826 13) := hx39f.2.2 13 (by decide)
      have g925 : -2147483648 ≤ (H39.1 1826 19) ∧ (H39.1 1826 19) ≤ 2147483647 := hrg40.1 1826 13 19 _ .int rfl rfl
      have e926 : (H39.1 1826 19) = (H.1 1826 19) := hx39f.2.2 19 (by decide)
      have g927 : -2147483648 ≤ (H39.1 1826 39) ∧ (H39.1 1826 39) ≤ 2147483647 := hrg40.1 1826 13 39 _ .int rfl rfl
      have e928 : (H39.1 1826 39) = (H.1 1826 39) := hx39f.2.2 39 (by decide)
      exact ⟨rfl, (Or.inr ⟨(by omega : (2 : Int) ≠ 0), (BD_mk hR1 (fr_o (fr_o (fr_rf [35, 36] [] H39) (by decide)) (by decide)) (by decide) (by decide) (by decide : (2 : Int) ≠ 0) rfl rfl (rch_st hq (by show stDec Y nn K X = _; unfold stDec miss; (repeat (first | rw [if_pos (by omega)] | rw [if_neg (by omega)])); try rfl)))⟩), (fr_o (fr_o hf41 (by decide)) (by decide)), (by omega : (H.1 1826 30) ≤ (H39.1 1826 30) ∧ (H39.1 1826 30) ≤ (H.1 1826 29)), (by omega : 0 ≤ (2 : Int) ∧ (2 : Int) ≤ 5), (by omega : (H.1 1826 35) ≠ 0 → (2 : Int) ≠ 0), (by omega : 0 ≤ (H39.1 1826 32) ∧ (H39.1 1826 32) ≤ 1000), (agp_o (agp_o ha42 (by decide)) (by decide)), (fun (q : (2 : Int) = 0) => absurd q (by omega))⟩
  · have b44x : (H39.1 1826 35) ≠ 0 := b44
    clear hx39g
    refine h_run 0 (pc' := 8) (l' := [(0, .inr (.inr 1826))]) (st' := [.inl 0]) rfl ?_
    refine h_zeq (off := 16) (t := 24) rfl rfl (by decide) (fun _ => ?_) (fun c => absurd c (by decide))
    refine h_run 1 (pc' := 25) (l' := [(0, .inr (.inr 1826))]) (st' := [.inr (.inr 1826)]) rfl ?_
    refine h_cv (i := 293) (j := 158) (b := 1826) (M' := mt_158) (xs := []) (rest := []) rfl rfl rfl rfl rfl rfl (Nat.le_of_ble_eq_true rfl) (Nat.le_of_ble_eq_true rfl) (by omega) (m_good0 (by omega) (by omega : (H39.1 1826 35) ≠ 0)) ?_
    rintro _ _ ⟨rfl, rfl⟩
    refine h_run 0 (pc' := 28) (l' := [(0, .inr (.inr 1826))]) (st' := [.inl 0]) rfl ?_
    refine h_zeq (off := 27) (t := 55) rfl rfl (by decide) (fun _ => ?_) (fun c => absurd c (by decide))
    refine h_run 1 (pc' := 56) (l' := [(0, .inr (.inr 1826))]) (st' := [.inr (.inr 1826)]) rfl ?_
    refine h_cv (i := 293) (j := 158) (b := 1826) (M' := mt_158) (xs := []) (rest := []) rfl rfl rfl rfl rfl rfl (Nat.le_of_ble_eq_true rfl) (Nat.le_of_ble_eq_true rfl) (by omega) (m_good0 (by omega) (by omega : (H39.1 1826 35) ≠ 0)) ?_
    rintro _ _ ⟨rfl, rfl⟩
    refine h_run 0 (pc' := 59) (l' := [(0, .inr (.inr 1826))]) (st' := [.inl 0]) rfl ?_
    refine h_zeq (off := 17) (t := 76) rfl rfl (by decide) (fun _ => ?_) (fun c => absurd c (by decide))
    refine h_run 1 (pc' := 77) (l' := [(0, .inr (.inr 1826))]) (st' := [.inr (.inr 1826)]) rfl ?_
    refine h_cv (i := 293) (j := 158) (b := 1826) (M' := mt_158) (xs := []) (rest := []) rfl rfl rfl rfl rfl rfl (Nat.le_of_ble_eq_true rfl) (Nat.le_of_ble_eq_true rfl) (by omega) (m_good0 (by omega) (by omega : (H39.1 1826 35) ≠ 0)) ?_
    rintro _ _ ⟨rfl, rfl⟩
    refine h_run 0 (pc' := 80) (l' := [(0, .inr (.inr 1826))]) (st' := [.inl 0]) rfl ?_
    refine h_zne (off := 4) (t := 84) rfl rfl (by decide) (fun c => absurd c (by decide)) (fun _ => ?_)
    refine h_ret rfl rfl ?_
    have g929 : -2147483648 ≤ (H39.1 1826 30) ∧ (H39.1 1826 30) ≤ 2147483647 := hrg40.1 1826 13 30 _ .int rfl rfl
    have g930 : -2147483648 ≤ (H39.1 1826 32) ∧ (H39.1 1826 32) ≤ 2147483647 := hrg40.1 1826 13 32 _ .int rfl rfl
    have g931 : -2147483648 ≤ (H39.1 1826 31) ∧ (H39.1 1826 31) ≤ 2147483647 := hrg40.1 1826 13 31 _ .int rfl rfl
    have g932 : -2147483648 ≤ (H39.1 1826 29) ∧ (H39.1 1826 29) ≤ 2147483647 := hrg40.1 1826 13 29 _ .int rfl rfl
    have e933 : (H39.1 1826 29) = (H.1 1826 29) := hx39f.2.2 29 (by decide)
    have g934 : -2147483648 ≤ (H39.1 1826 1) ∧ (H39.1 1826 1) ≤ 2147483647 := hrg40.1 1826 13 1 _ .int rfl rfl
    have e935 : (H39.1 1826 1) = (H.1 1826 1) := hx39f.2.2 1 (by decide)
    have g936 : -2147483648 ≤ (H39.1 1826 3) ∧ (H39.1 1826 3) ≤ 2147483647 := hrg40.1 1826 13 3 _ .int rfl rfl
    have e937 : (H39.1 1826 3) = (H.1 1826 3) := hx39f.2.2 3 (by decide)
    have g938 : -2147483648 ≤ (H39.1 1826 8) ∧ (H39.1 1826 8) ≤ 2147483647 := hrg40.1 1826 13 8 _ .int rfl rfl
    have e939 : (H39.1 1826 8) = (H.1 1826 8) := hx39f.2.2 8 (by decide)
    have g940 : -2147483648 ≤ (H39.1 1826 13) ∧ (H39.1 1826 13) ≤ 2147483647 := hrg40.1 1826 13 13 _ .int rfl rfl
    have e941 : (H39.1 1826 13) = (H.1 1826 13) := hx39f.2.2 13 (by decide)
    have g942 : -2147483648 ≤ (H39.1 1826 19) ∧ (H39.1 1826 19) ≤ 2147483647 := hrg40.1 1826 13 19 _ .int rfl rfl
    have e943 : (H39.1 1826 19) = (H.1 1826 19) := hx39f.2.2 19 (by decide)
    have g944 : -2147483648 ≤ (H39.1 1826 39) ∧ (H39.1 1826 39) ≤ 2147483647 := hrg40.1 1826 13 39 _ .int rfl rfl
    have e945 : (H39.1 1826 39) = (H.1 1826 39) := hx39f.2.2 39 (by decide)
    exact ⟨rfl, (Or.inr ⟨(by omega : (H39.1 1826 35) ≠ 0), GB_b hx39n (by omega)⟩), hf41, (by omega : (H.1 1826 30) ≤ (H39.1 1826 30) ∧ (H39.1 1826 30) ≤ (H.1 1826 29)), (by omega : 0 ≤ (H39.1 1826 35) ∧ (H39.1 1826 35) ≤ 5), (by omega : (H.1 1826 35) ≠ 0 → (H39.1 1826 35) ≠ 0), (by omega : 0 ≤ (H39.1 1826 32) ∧ (H39.1 1826 32) ≤ 1000), ha42, (fun (q : (H39.1 1826 35) = 0) => absurd q (by omega))⟩
