/-! the reference's reading against the machine: laws -/
def xl (X : rx) (l : Nat) (x : Int) : rx := adv (xu (xu (xu (xu X 12 l x) 0 1 0) 0 2 0) 0 8 1)
theorem xl_s (X : rx) (l : Nat) (x : Int) : xl X l x 0 0 = X 0 0 + 1 ∧ xl X l x 0 1 = 0 ∧ xl X l x 0 2 = 0 ∧ xl X l x 0 8 = 1 ∧ xl X l x 12 = up (X 12) l x ∧ (∀ j, 3 ≤ j → j ≤ 7 → xl X l x 0 j = X 0 j) ∧ ∀ c, 1 ≤ c → c ≤ 9 → xl X l x c = X c := by
  unfold xl adv
  refine ⟨?_, ?_, ?_, ?_, ?_, fun j h1 h2 => ?_, fun c h1 h2 => ?_⟩
  · rw [xu_1, xu_0 _ _ (by omega), xu_0 _ _ (by omega), xu_0 _ _ (by omega), xu_0 _ _ (by omega)]
  · rw [xu_0 _ _ (by omega), xu_0 _ _ (by omega), xu_0 _ _ (by omega), xu_1]
  · rw [xu_0 _ _ (by omega), xu_0 _ _ (by omega), xu_1]
  · rw [xu_0 _ _ (by omega), xu_1]
  · rw [xu_ne _ _ _ (by decide), xu_ne _ _ _ (by decide), xu_ne _ _ _ (by decide), xu_ne _ _ _ (by decide), xu_eq]
  · rw [xu_0 _ _ (by omega), xu_0 _ _ (by omega), xu_0 _ _ (by omega), xu_0 _ _ (by omega), xu_0 _ _ (by omega)]
  · rw [xu_ne _ _ _ (by omega), xu_ne _ _ _ (by omega), xu_ne _ _ _ (by omega), xu_ne _ _ _ (by omega), xu_ne _ _ _ (by omega)]
/-- a law's name is told; it counts later -/
theorem TA_ln {m x : Int} {H : hp} {X : rx} {l : Nat} (h : TA m H X) (hl : (H.1 1826 19) = l) : TA m (zu H 1841 (up (H.1 1841) l x)) (xl X l x) := by
  have f : fr [] [1841] H (zu H 1841 (up (H.1 1841) l x)) := fr_a (fr_rf _ _ _) (by decide)
  obtain ⟨a1, a2, a3, a4, a5⟩ := h
  obtain ⟨-, -, -, -, e12, e0, e⟩ := xl_s X l x
  refine ⟨A1_cg a1 f (by decide) (by decide) (e0 _ (by decide) (by decide)) (e _ (by decide) (by decide)), A2_cg a2 f (by decide) (by decide) (e0 _ (by decide) (by decide)) (fun c c1 c2 => e c (by omega) (by omega)), A3_cg a3 f (by decide) (by decide) (e0 _ (by decide) (by decide)) (e _ (by decide) (by decide)) (e _ (by decide) (by decide)) (e _ (by decide) (by decide)), ⟨⟨?_, ?_⟩, fun k hk => ?_⟩, TF_cg a5 f (by decide) (fun k _ => congrFun (e 7 (by decide) (by decide)) k)⟩
  · rw [e0 6 (by decide) (by decide)]
    exact a4.1.1
  · rw [e0 7 (by decide) (by decide)]
    exact a4.1.2
  · rw [e0 7 (by decide) (by decide)] at hk
    have := a4.1.2
    rw [e12]
    show up (H.1 1841) l x k = _
    rw [up_ne _ _ (by omega), up_ne _ _ (by omega)]
    exact a4.2 k hk
theorem VR_law {K : hp} {X : rx} {l : Nat} {x : Int} (h1 : (K.1 1826 40) = 0) (h2 : (K.1 1826 44) = 2) (h3 : (K.1 1826 39) = 0) : VR K (adv (xl X l x)) := by
  obtain ⟨-, y1, y2, y8, -⟩ := xl_s X l x
  obtain ⟨x1, x2, x8, -⟩ := adv_s (xl X l x)
  exact ⟨⟨by omega, by omega, by omega⟩, fun _ => ⟨⟨by omega, by omega⟩, fun v hv => absurd hv (by omega)⟩⟩
theorem FI_g {t r : Int} {X : rx} (h : FI t X r) (ht : t = -1) (h8 : X 0 8 = 1) (h2 : X 0 2 ≠ 0) : 0 ≤ r ∧ thd (adv X) = r := by
  rcases h h8 ht with ⟨a, -⟩ | ⟨a, b, c, d⟩
  · exact absurd a h2
  · refine ⟨a, ?_⟩
    rw [thd_cg (sT_adv X) (by rw [(adv_s X).2.2.2.2.2]) c]
    exact b.symm
theorem tm_1 {ar : Int → Int} {ok : Int → Prop} {a : Nat → Int} {k i : Nat} (h : tm ar ok a k i 1) : k ≠ 0 := by
  intro e
  subst e
  have h : (1 : Nat) = 0 := h
  omega
theorem TT_nm {H : hp} (h : TT H 0) (g : ∃ k : Nat, (H.1 1826 43) = k ∧ k ≤ 40 ∧ tm (ma (H.1 1833) (H.1 1830)) (m_sg (H.1 1826 3) (H.1 1826 8) (H.1 1826 39)) (H.1 1851) k 0 1) : (H.1 1826 40) ≠ 0 := by
  obtain ⟨n, m, k, -, ⟨b1, b2, b3⟩, -⟩ := h
  obtain ⟨k2, g1, g2, g3⟩ := g
  have := tm_1 g3
  omega

/-! tellLaw -/
set_option maxRecDepth 100000 in
theorem n_tellLaw_cut {zC : Nat → Option zsh} {d : Nat} (hd : 8 ≤ d) {H : hp}  {Y : yx} {m : Int} {c0 : cf} {K : List tq} {X : rx} {nn : Int} (h0 : 0 ≤ (H.1 1826 30) ∧ (H.1 1826 30) ≤ (H.1 1826 29) ∧ (H.1 1826 29) ≤ 1000) (hw : 0 ≤ (H.1 1826 35) ∧ (H.1 1826 35) ≤ 5) (hst : 0 ≤ (H.1 1826 32) ∧ (H.1 1826 32) ≤ 1000) (hP : PWc H) (hw0 : (H.1 1826 35) = 0) (hR : RK Y m H X) (hmf : (H.1 1826 8) = m) (hq : rch Y c0 ((6, nn, 0, 0) :: K, X)) (htk : tk Y (xi X) = 7) : ∀ w : Nat, (∀ (H1 : hp) (l : Nat) (i : Nat) (k0 : Nat) (k1 : Nat) (v : Nat), (fr [30, 31, 32, 33, 35, 36, 19, 39, 40, 41, 43, 44, 47] [1841, 1842, 1843, 1844, 1845, 1846, 1847, 1849, 1850, 1851, 1852, 1853, 1854] H H1) → ((H.1 1826 30) ≤ (H1.1 1826 30) ∧ (H1.1 1826 30) ≤ (H.1 1826 29)) → (0 ≤ (H1.1 1826 35) ∧ (H1.1 1826 35) ≤ 5) → (0 ≤ (H1.1 1826 32) ∧ (H1.1 1826 32) ≤ 1000) → (agp H H1) → ((H1.1 1826 35) = 0) → ((l : Int) = (H.1 1826 19) ∧ (H.1 1826 19) ≤ 15) → ((H1.1 1826 1) = (H.1 1826 1) ∧ (H1.1 1826 3) = (H.1 1826 3) ∧ (H1.1 1826 8) = (H.1 1826 8) ∧ (H1.1 1826 13) = (H.1 1826 13) ∧ (H1.1 1826 19) = (H.1 1826 19)) → (LSd H1 (2 * l) k0 v) → (LSd H1 (2 * l + 1) k1 v) → ((H1.1 1845) l = v) → ((H1.1 1826 39) = v ∧ v ≤ 6) → (∀ x : Nat, (x : Int) < (H1.1 1826 39) → 0 ≤ (H1.1 1850) x ∧ (H1.1 1850) x < (H1.1 1826 1)) → (i ≤ v) → (∀ x, x < i → (H1.1 1846) (6 * l + x) = (H1.1 1850) x) → (∃ X7 : rx, rch Y c0 (((15, 0, 0, 0) :: ((1, 59, 0, 0) :: (6, nn + 1, 0, 0) :: K)), X7) ∧ RK Y m H1 X7 ∧ (H1.1 1841) l = X7 12 l) → (v - i) < w → hG (zs zC) d mt_187 225 [(0, .inr (.inr 1826)), (1, .inl (l : Int)), (4, .inl (i : Int))] [] H1 (fun r H2 => r = none ∧ GB Y m c0 H2 (∃ X2 : rx, rch Y c0 (((1, 59, 0, 0) :: (6, nn + 1, 0, 0) :: K), X2) ∧ RK Y m H2 X2) ∧ fr [30, 31, 32, 33, 35, 36, 19, 39, 40, 41, 43, 44, 47] [1841, 1842, 1843, 1844, 1845, 1846, 1847, 1849, 1850, 1851, 1852, 1853, 1854] H H2 ∧ ((H.1 1826 30) ≤ (H2.1 1826 30) ∧ (H2.1 1826 30) ≤ (H.1 1826 29)) ∧ (0 ≤ (H2.1 1826 35) ∧ (H2.1 1826 35) ≤ 5) ∧ ((H.1 1826 35) ≠ 0 → (H2.1 1826 35) ≠ 0) ∧ (0 ≤ (H2.1 1826 32) ∧ (H2.1 1826 32) ≤ 1000) ∧ agp H H2 ∧ ((H2.1 1826 35) = 0 → PWc H2))) := by
  intro w
  induction w with
  | zero => exact fun _ _ _ _ _ _ _ _ _ _ _ _ _ _ _ _ _ _ _ _ _ _ h => absurd h (Nat.not_lt_zero _)
  | succ w ih =>
    intro H1 l i k0 k1 v hf ha hk hst1 hag hgd hr hcn hl0 hl1 hlv hv hvt9 hi hcp hLG hw
    refine h_rng (fun hrg1 => ?_)
    obtain ⟨⟨pb1, pb2, pb3, pb4, pb5⟩, pw1, pw2, pw3, pw4⟩ := (id hP : PW H (H.1 1826 1) (H.1 1826 3) (H.1 1826 8) (H.1 1826 13) (H.1 1826 19))
    obtain ⟨X7, hq7, hR7, hln⟩ := hLG
    refine h_run 3 (pc' := 231) (l' := [(0, .inr (.inr 1826)), (1, .inl (l : Int)), (4, .inl (i : Int))]) (st' := [.inl (H1.1 1826 39), .inl (i : Int)]) rfl ?_
    have g2 : -2147483648 ≤ (H1.1 1826 39) ∧ (H1.1 1826 39) ≤ 2147483647 := hrg1.1 1826 13 39 _ .int rfl rfl
    refine h_ige (off := 28) (t := 259) rfl rfl (by omega) (by omega) (fun c3 => ?_) (fun c3 => ?_)
    · refine h_run 4 (pc' := 265) (l' := [(0, .inr (.inr 1826)), (1, .inl (l : Int)), (4, .inl (i : Int))]) (st' := [.inl 0, .inl (l : Int), .inr (.inr 1847)]) rfl ?_
      refine h_ist (c := 1847) (j := l) (i := (l : Int)) (x := 0) rfl rfl (by decide) (by decide) rfl (by omega) (by decide) ?_
      refine h_run 3 (pc' := 271) (l' := [(0, .inr (.inr 1826)), (1, .inl (l : Int)), (4, .inl (i : Int))]) (st' := [.inl (H1.1 1826 19), .inr (.inr 1826)]) rfl ?_
      have g4 : -2147483648 ≤ (H1.1 1826 19) ∧ (H1.1 1826 19) ≤ 2147483647 := hrg1.1 1826 13 19 _ .int rfl rfl
      refine h_run 2 (pc' := 273) (l' := [(0, .inr (.inr 1826)), (1, .inl (l : Int)), (4, .inl (i : Int))]) (st' := [.inl ((H1.1 1826 19) + 1), .inr (.inr 1826)]) rfl ?_
      refine h_puti (i := 387) (ci := 13) (k := 19) (a := 1826) (x := ((H1.1 1826 19) + 1)) rfl rfl rfl rfl rfl rfl (by decide) (by omega) ?_
      refine h_ret rfl rfl ?_
      have g5 : -2147483648 ≤ (H1.1 1826 30) ∧ (H1.1 1826 30) ≤ 2147483647 := hrg1.1 1826 13 30 _ .int rfl rfl
      have g6 : -2147483648 ≤ (H1.1 1826 35) ∧ (H1.1 1826 35) ≤ 2147483647 := hrg1.1 1826 13 35 _ .int rfl rfl
      have g7 : -2147483648 ≤ (H1.1 1826 32) ∧ (H1.1 1826 32) ≤ 2147483647 := hrg1.1 1826 13 32 _ .int rfl rfl
      have g8 : -2147483648 ≤ (H1.1 1826 31) ∧ (H1.1 1826 31) ≤ 2147483647 := hrg1.1 1826 13 31 _ .int rfl rfl
      have g9 : -2147483648 ≤ (H1.1 1826 29) ∧ (H1.1 1826 29) ≤ 2147483647 := hrg1.1 1826 13 29 _ .int rfl rfl
      have e10 : (H1.1 1826 29) = (H.1 1826 29) := hf.2.2 29 (by decide)
      have g11 : -2147483648 ≤ (H1.1 1826 1) ∧ (H1.1 1826 1) ≤ 2147483647 := hrg1.1 1826 13 1 _ .int rfl rfl
      have e12 : (H1.1 1826 1) = (H.1 1826 1) := hf.2.2 1 (by decide)
      have g13 : -2147483648 ≤ (H1.1 1826 3) ∧ (H1.1 1826 3) ≤ 2147483647 := hrg1.1 1826 13 3 _ .int rfl rfl
      have e14 : (H1.1 1826 3) = (H.1 1826 3) := hf.2.2 3 (by decide)
      have g15 : -2147483648 ≤ (H1.1 1826 8) ∧ (H1.1 1826 8) ≤ 2147483647 := hrg1.1 1826 13 8 _ .int rfl rfl
      have e16 : (H1.1 1826 8) = (H.1 1826 8) := hf.2.2 8 (by decide)
      have g17 : -2147483648 ≤ (H1.1 1826 13) ∧ (H1.1 1826 13) ≤ 2147483647 := hrg1.1 1826 13 13 _ .int rfl rfl
      have e18 : (H1.1 1826 13) = (H.1 1826 13) := hf.2.2 13 (by decide)
      exact ⟨rfl, (Or.inl ⟨(by omega : (H1.1 1826 35) = 0), _, rch_st hq7 rfl, RK_law (l := l) hR7 (fr_o (fr_a (fr_rf [19] [1847] H1) (by decide)) (by decide)) (by decide) (by decide) rfl (by omega) hln⟩), (fr_o (fr_a hf (by decide)) (by decide)), (by omega : (H.1 1826 30) ≤ (H1.1 1826 30) ∧ (H1.1 1826 30) ≤ (H.1 1826 29)), (by omega : 0 ≤ (H1.1 1826 35) ∧ (H1.1 1826 35) ≤ 5), (by omega : (H.1 1826 35) ≠ 0 → (H1.1 1826 35) ≠ 0), (by omega : 0 ≤ (H1.1 1826 32) ∧ (H1.1 1826 32) ≤ 1000), (agp_n19 (agp_a hag (by decide)) (by omega : (H.1 1826 19) ≤ ((H1.1 1826 19) + 1))), (fun _ => PW_law (l := l) (k0 := k0) (k1 := k1) (v := v) hP (agp_n19 (agp_a hag (by decide)) (by omega : (H.1 1826 19) ≤ ((H1.1 1826 19) + 1))) ⟨hcn.1, hcn.2.1, hcn.2.2.1, hcn.2.2.2.1⟩ ⟨by omega, by omega, (by omega : ((H1.1 1826 19) + 1) = (H.1 1826 19) + 1)⟩ hl0 hl1 ⟨hlv, by omega⟩ (fun x hx => by show 0 ≤ (H1.1 1846) (6 * l + x) ∧ (H1.1 1846) (6 * l + x) < (H1.1 1826 1); rw [hcp x (by omega)]; exact hvt9 x (by omega)))⟩
    · refine h_run 10 (pc' := 251) (l' := [(0, .inr (.inr 1826)), (1, .inl (l : Int)), (4, .inl (i : Int))]) (st' := [.inl (i : Int), .inr (.inr 1850), .inl ((6 * (l : Int)) + (i : Int)), .inr (.inr 1846)]) rfl ?_
      refine h_ild (c := 1850) (j := i) (i := (i : Int)) rfl rfl (by decide) rfl (by omega) ?_
      have g19 : -2147483648 ≤ (H1.1 1850 i) ∧ (H1.1 1850 i) ≤ 2147483647 := hrg1.2 1850 i 48 .int rfl (by omega)
      refine h_run 0 (pc' := 252) (l' := [(0, .inr (.inr 1826)), (1, .inl (l : Int)), (4, .inl (i : Int))]) (st' := [.inl (H1.1 1850 i), .inl ((6 * (l : Int)) + (i : Int)), .inr (.inr 1846)]) rfl ?_
      refine h_ist (c := 1846) (j := ((6 * l) + i)) (i := ((6 * (l : Int)) + (i : Int))) (x := (H1.1 1850 i)) rfl rfl (by decide) (by decide) (by omega) (by omega) (by omega) ?_
      refine h_run 2 (pc' := 225) (l' := [(0, .inr (.inr 1826)), (1, .inl (l : Int)), (4, .inl ((i : Int) + 1))]) (st' := []) rfl ?_
      have g20 : -2147483648 ≤ (H1.1 1826 30) ∧ (H1.1 1826 30) ≤ 2147483647 := hrg1.1 1826 13 30 _ .int rfl rfl
      have g21 : -2147483648 ≤ (H1.1 1826 35) ∧ (H1.1 1826 35) ≤ 2147483647 := hrg1.1 1826 13 35 _ .int rfl rfl
      have g22 : -2147483648 ≤ (H1.1 1826 32) ∧ (H1.1 1826 32) ≤ 2147483647 := hrg1.1 1826 13 32 _ .int rfl rfl
      have g23 : -2147483648 ≤ (H1.1 1826 31) ∧ (H1.1 1826 31) ≤ 2147483647 := hrg1.1 1826 13 31 _ .int rfl rfl
      have g24 : -2147483648 ≤ (H1.1 1826 29) ∧ (H1.1 1826 29) ≤ 2147483647 := hrg1.1 1826 13 29 _ .int rfl rfl
      have e25 : (H1.1 1826 29) = (H.1 1826 29) := hf.2.2 29 (by decide)
      have g26 : -2147483648 ≤ (H1.1 1826 1) ∧ (H1.1 1826 1) ≤ 2147483647 := hrg1.1 1826 13 1 _ .int rfl rfl
      have e27 : (H1.1 1826 1) = (H.1 1826 1) := hf.2.2 1 (by decide)
      have g28 : -2147483648 ≤ (H1.1 1826 3) ∧ (H1.1 1826 3) ≤ 2147483647 := hrg1.1 1826 13 3 _ .int rfl rfl
      have e29 : (H1.1 1826 3) = (H.1 1826 3) := hf.2.2 3 (by decide)
      have g30 : -2147483648 ≤ (H1.1 1826 8) ∧ (H1.1 1826 8) ≤ 2147483647 := hrg1.1 1826 13 8 _ .int rfl rfl
      have e31 : (H1.1 1826 8) = (H.1 1826 8) := hf.2.2 8 (by decide)
      have g32 : -2147483648 ≤ (H1.1 1826 13) ∧ (H1.1 1826 13) ≤ 2147483647 := hrg1.1 1826 13 13 _ .int rfl rfl
      have e33 : (H1.1 1826 13) = (H.1 1826 13) := hf.2.2 13 (by decide)
      have g34 : -2147483648 ≤ (H1.1 1826 19) ∧ (H1.1 1826 19) ≤ 2147483647 := hrg1.1 1826 13 19 _ .int rfl rfl
      rw [show ((i : Int) + 1) = (((i + 1) : Nat) : Int) by omega]
      exact ih _ (l) (i + 1) (k0) (k1) (v) (fr_a hf (by decide)) (by omega : (H.1 1826 30) ≤ (H1.1 1826 30) ∧ (H1.1 1826 30) ≤ (H.1 1826 29)) (by omega : 0 ≤ (H1.1 1826 35) ∧ (H1.1 1826 35) ≤ 5) (by omega : 0 ≤ (H1.1 1826 32) ∧ (H1.1 1826 32) ≤ 1000) (agp_1846 hag (by omega : 6 * (H.1 1826 19) ≤ ((((6 * l) + i) : Nat) : Int))) (by omega : (H1.1 1826 35) = 0) (by omega : ((l) : Int) = (H.1 1826 19) ∧ (H.1 1826 19) ≤ 15) (by omega : (H1.1 1826 1) = (H.1 1826 1) ∧ (H1.1 1826 3) = (H.1 1826 3) ∧ (H1.1 1826 8) = (H.1 1826 8) ∧ (H1.1 1826 13) = (H.1 1826 13) ∧ (H1.1 1826 19) = (H.1 1826 19)) hl0 hl1 hlv (by omega : (H1.1 1826 39) = (v) ∧ (v) ≤ 6) hvt9 (by omega) (cp_up hcp : ∀ x, x < i + 1 → up (H1.1 1846) (6 * l + i) ((H1.1 1850) i) (6 * l + x) = (H1.1 1850) x) ⟨X7, hq7, RK_fr hR7 (fr_a (fr_rf [] [1846] H1) (by decide)) (by decide) (by decide), hln⟩ (by omega : ((v) - (i + 1)) < w)
set_option maxRecDepth 100000 in
theorem n_tellLaw {zC : Nat → Option zsh} {d : Nat} (hd : 8 ≤ d) {H : hp}  {Y : yx} {m : Int} {c0 : cf} {K : List tq} {X : rx} {nn : Int} (h0 : 0 ≤ (H.1 1826 30) ∧ (H.1 1826 30) ≤ (H.1 1826 29) ∧ (H.1 1826 29) ≤ 1000) (hw : 0 ≤ (H.1 1826 35) ∧ (H.1 1826 35) ≤ 5) (hst : 0 ≤ (H.1 1826 32) ∧ (H.1 1826 32) ≤ 1000) (hP : PWc H) (hw0 : (H.1 1826 35) = 0) (hR : RK Y m H X) (hmf : (H.1 1826 8) = m) (hq : rch Y c0 ((6, nn, 0, 0) :: K, X)) (htk : tk Y (xi X) = 7) : hG (zs zC) d mt_187 0 (zargs 0 [.inr (.inr 1826)]) [] H (fun r H2 => r = none ∧ GB Y m c0 H2 (∃ X2 : rx, rch Y c0 (((1, 59, 0, 0) :: (6, nn + 1, 0, 0) :: K), X2) ∧ RK Y m H2 X2) ∧ fr [30, 31, 32, 33, 35, 36, 19, 39, 40, 41, 43, 44, 47] [1841, 1842, 1843, 1844, 1845, 1846, 1847, 1849, 1850, 1851, 1852, 1853, 1854] H H2 ∧ ((H.1 1826 30) ≤ (H2.1 1826 30) ∧ (H2.1 1826 30) ≤ (H.1 1826 29)) ∧ (0 ≤ (H2.1 1826 35) ∧ (H2.1 1826 35) ≤ 5) ∧ ((H.1 1826 35) ≠ 0 → (H2.1 1826 35) ≠ 0) ∧ (0 ≤ (H2.1 1826 32) ∧ (H2.1 1826 32) ≤ 1000) ∧ agp H H2 ∧ ((H2.1 1826 35) = 0 → PWc H2)) := by
  refine h_rng (fun hrg0 => ?_)
  refine h_run 0 (pc' := 0) (l' := [(0, .inr (.inr 1826))]) (st' := []) rfl ?_
  obtain ⟨⟨pb1, pb2, pb3, pb4, pb5⟩, pw1, pw2, pw3, pw4⟩ := (id hP : PW H (H.1 1826 1) (H.1 1826 3) (H.1 1826 8) (H.1 1826 13) (H.1 1826 19))
  have hx7 := hR.2.2.2.2.2.2.2.1.1.2
  have ha7 : adv X 0 7 = X 0 7 := (sT_adv X).2.2 7 (by decide) (by decide)
  refine h_run 1 (pc' := 1) (l' := [(0, .inr (.inr 1826))]) (st' := [.inr (.inr 1826)]) rfl ?_
  have g35 : -2147483648 ≤ (H.1 1826 30) ∧ (H.1 1826 30) ≤ 2147483647 := hrg0.1 1826 13 30 _ .int rfl rfl
  have g36 : -2147483648 ≤ (H.1 1826 29) ∧ (H.1 1826 29) ≤ 2147483647 := hrg0.1 1826 13 29 _ .int rfl rfl
  have g37 : -2147483648 ≤ (H.1 1826 35) ∧ (H.1 1826 35) ≤ 2147483647 := hrg0.1 1826 13 35 _ .int rfl rfl
  have g38 : -2147483648 ≤ (H.1 1826 32) ∧ (H.1 1826 32) ≤ 2147483647 := hrg0.1 1826 13 32 _ .int rfl rfl
  refine h_cv (i := 297) (j := 165) (b := 1826) (M' := mt_165) (xs := []) (rest := []) rfl rfl rfl rfl rfl rfl (Nat.le_of_ble_eq_true rfl) (Nat.le_of_ble_eq_true rfl) (by omega) (n_nx2 (by omega) (by omega : 0 ≤ (H.1 1826 30) ∧ (H.1 1826 30) ≤ (H.1 1826 29) ∧ (H.1 1826 29) ≤ 1000) (by omega : 0 ≤ (H.1 1826 35) ∧ (H.1 1826 35) ≤ 5) (by omega : 0 ≤ (H.1 1826 32) ∧ (H.1 1826 32) ≤ 1000) (by omega : (H.1 1826 35) = 0) (X := (adv X)) (RN_adv hR (fr_rf [] [] _) (by decide) (by decide)) (fun q9 => (rch_st hq (by show stDec Y nn K X = _; unfold stDec miss; (repeat (first | rw [if_pos (by omega)] | rw [if_neg (by omega)])); try (first | rfl | (exfalso; omega)))))) ?_
  rintro _ H39 ⟨rfl, hx39n, hx39f, hx39a, hx39b, hx39c, -, hx39e, hx39g⟩
  refine h_rng (fun hrg40 => ?_)
  have hf41 : fr [30, 31, 32, 33, 35, 36, 19, 39, 40, 41, 43, 44, 47] [1841, 1842, 1843, 1844, 1845, 1846, 1847, 1849, 1850, 1851, 1852, 1853, 1854] H H39 := fr_t (fr_rf _ _ _) hx39f (by decide) (by decide)
  have ha42 : agp H H39 := agp_tr (agp_rf _) (agp_fr hx39f (by decide) (by decide))
  replace hx39a : (H.1 1826 30) ≤ (H39.1 1826 30) := hx39a
  replace hx39b : (H39.1 1826 30) ≤ (H.1 1826 29) := hx39b
  replace hx39g : (H39.1 1826 35) = 0 → ((H39.1 1826 31) = 0 ∨ (H.1 1826 30) < (H39.1 1826 30)) := hx39g
  refine h_run 0 (pc' := 4) (l' := [(0, .inr (.inr 1826))]) (st' := []) rfl ?_
  refine h_run 1 (pc' := 5) (l' := [(0, .inr (.inr 1826))]) (st' := [.inr (.inr 1826)]) rfl ?_
  have g43 : -2147483648 ≤ (H39.1 1826 35) ∧ (H39.1 1826 35) ≤ 2147483647 := hrg40.1 1826 13 35 _ .int rfl rfl
  refine h_cv (i := 293) (j := 158) (b := 1826) (M' := mt_158) (xs := []) (rest := []) rfl rfl rfl rfl rfl rfl (Nat.le_of_ble_eq_true rfl) (Nat.le_of_ble_eq_true rfl) (by omega) (m_good (by omega)) ?_
  rintro _ _ ⟨⟨rfl, b44⟩ | ⟨rfl, b44⟩, rfl⟩
  · have b44x : (H39.1 1826 35) = 0 := b44
    replace hx39g := hx39g b44x
    refine h_run 0 (pc' := 8) (l' := [(0, .inr (.inr 1826))]) (st' := [.inl 1]) rfl ?_
    refine h_zeq (off := 16) (t := 24) rfl rfl (by decide) (fun c => absurd c (by decide)) (fun _ => ?_)
    have hR1 := GB_g hx39n (by omega)
    have htk1 := RK_t hR1
    have hy7 := hR1.2.2.2.2.2.2.2.1.1.2
    refine h_run 2 (pc' := 15) (l' := [(0, .inr (.inr 1826))]) (st' := [.inl (H39.1 1826 31)]) rfl ?_
    have g45 : -2147483648 ≤ (H39.1 1826 31) ∧ (H39.1 1826 31) ≤ 2147483647 := hrg40.1 1826 13 31 _ .int rfl rfl
    refine h_run 1 (pc' := 16) (l' := [(0, .inr (.inr 1826))]) (st' := [.inl 1, .inl (H39.1 1826 31)]) rfl ?_
    refine h_ieq (off := 8) (t := 24) rfl rfl (by omega) (by decide) (fun c46 => ?_) (fun c46 => ?_)
    · refine h_run 1 (pc' := 25) (l' := [(0, .inr (.inr 1826))]) (st' := [.inr (.inr 1826)]) rfl ?_
      refine h_cv (i := 293) (j := 158) (b := 1826) (M' := mt_158) (xs := []) (rest := []) rfl rfl rfl rfl rfl rfl (Nat.le_of_ble_eq_true rfl) (Nat.le_of_ble_eq_true rfl) (by omega) (m_good1 (by omega) (by omega : (H39.1 1826 35) = 0)) ?_
      rintro _ _ ⟨rfl, rfl⟩
      refine h_run 0 (pc' := 28) (l' := [(0, .inr (.inr 1826))]) (st' := [.inl 1]) rfl ?_
      refine h_zeq (off := 27) (t := 55) rfl rfl (by decide) (fun c => absurd c (by decide)) (fun _ => ?_)
      refine h_run 4 (pc' := 39) (l' := [(0, .inr (.inr 1826))]) (st' := [.inl (H39.1 1826 19), .inr (.inr 1841)]) rfl ?_
      have g47 : -2147483648 ≤ (H39.1 1826 19) ∧ (H39.1 1826 19) ≤ 2147483647 := hrg40.1 1826 13 19 _ .int rfl rfl
      have e48 : (H39.1 1826 19) = (H.1 1826 19) := hx39f.2.2 19 (by decide)
      refine h_run 2 (pc' := 43) (l' := [(0, .inr (.inr 1826))]) (st' := [.inr (.inl (H39.1 1826 33)), .inl (H39.1 1826 19), .inr (.inr 1841)]) rfl ?_
      have g49 : -9223372036854775808 ≤ (H39.1 1826 33) ∧ (H39.1 1826 33) ≤ 9223372036854775807 := hrg40.1 1826 13 33 _ .long rfl rfl
      refine h_cs (i := 309) (j := 167) (M' := mt_167) (xs := [.inr (.inl (H39.1 1826 33)), .inl (H39.1 1826 19), .inr (.inr 1841)]) (rest := []) rfl rfl rfl rfl rfl (Nat.le_of_ble_eq_true rfl) (Nat.le_of_ble_eq_true rfl) (by omega) (n_find (by omega) (m := 16) (z := lfd Y (adv X)) rfl (by omega : 0 ≤ (H39.1 1826 19) ∧ (H39.1 1826 19) ≤ ((16 : Nat) : Int) ∧ 16 ≤ 100) (by omega) (RK_lf hR1 (Or.inl (by omega)))) ?_
      rintro _ _ ⟨⟨k50, rfl, f51, f51x⟩ | ⟨rfl, f51⟩, rfl⟩
      · refine h_run 0 (pc' := 46) (l' := [(0, .inr (.inr 1826))]) (st' := [.inl (k50 : Int)]) rfl ?_
        refine h_run 1 (pc' := 47) (l' := [(0, .inr (.inr 1826))]) (st' := [.inl (-1), .inl (k50 : Int)]) rfl ?_
        refine h_ieq (off := 8) (t := 55) rfl rfl (by omega) (by decide) (fun c52 => ?_) (fun c52 => ?_)
        · exfalso
          omega
        · refine h_run 2 (pc' := 52) (l' := [(0, .inr (.inr 1826))]) (st' := [.inl 3, .inr (.inr 1826)]) rfl ?_
          refine h_cv (i := 278) (j := 159) (b := 1826) (M' := mt_159) (xs := [.inl 3]) (rest := []) rfl rfl rfl rfl rfl rfl (Nat.le_of_ble_eq_true rfl) (Nat.le_of_ble_eq_true rfl) (by omega) (m_bad0 (by omega) (by omega) (by omega : (H39.1 1826 35) = 0)) ?_
          rintro _ _ ⟨rfl, rfl⟩
          refine h_run 0 (pc' := 55) (l' := [(0, .inr (.inr 1826))]) (st' := []) rfl ?_
          refine h_run 1 (pc' := 56) (l' := [(0, .inr (.inr 1826))]) (st' := [.inr (.inr 1826)]) rfl ?_
          refine h_cv (i := 293) (j := 158) (b := 1826) (M' := mt_158) (xs := []) (rest := []) rfl rfl rfl rfl rfl rfl (Nat.le_of_ble_eq_true rfl) (Nat.le_of_ble_eq_true rfl) (by omega) (m_good0 (by omega) (by omega : (3 : Int) ≠ 0)) ?_
          rintro _ _ ⟨rfl, rfl⟩
          refine h_run 0 (pc' := 59) (l' := [(0, .inr (.inr 1826))]) (st' := [.inl 0]) rfl ?_
          refine h_zeq (off := 17) (t := 76) rfl rfl (by decide) (fun _ => ?_) (fun c => absurd c (by decide))
          refine h_run 1 (pc' := 77) (l' := [(0, .inr (.inr 1826))]) (st' := [.inr (.inr 1826)]) rfl ?_
          refine h_cv (i := 293) (j := 158) (b := 1826) (M' := mt_158) (xs := []) (rest := []) rfl rfl rfl rfl rfl rfl (Nat.le_of_ble_eq_true rfl) (Nat.le_of_ble_eq_true rfl) (by omega) (m_good0 (by omega) (by omega : (3 : Int) ≠ 0)) ?_
          rintro _ _ ⟨rfl, rfl⟩
          refine h_run 0 (pc' := 80) (l' := [(0, .inr (.inr 1826))]) (st' := [.inl 0]) rfl ?_
          refine h_zne (off := 4) (t := 84) rfl rfl (by decide) (fun c => absurd c (by decide)) (fun _ => ?_)
          refine h_ret rfl rfl ?_
          have g53 : -2147483648 ≤ (H39.1 1826 30) ∧ (H39.1 1826 30) ≤ 2147483647 := hrg40.1 1826 13 30 _ .int rfl rfl
          have g54 : -2147483648 ≤ (H39.1 1826 32) ∧ (H39.1 1826 32) ≤ 2147483647 := hrg40.1 1826 13 32 _ .int rfl rfl
          have g55 : -2147483648 ≤ (H39.1 1826 29) ∧ (H39.1 1826 29) ≤ 2147483647 := hrg40.1 1826 13 29 _ .int rfl rfl
          have e56 : (H39.1 1826 29) = (H.1 1826 29) := hx39f.2.2 29 (by decide)
          have g57 : -2147483648 ≤ (H39.1 1826 1) ∧ (H39.1 1826 1) ≤ 2147483647 := hrg40.1 1826 13 1 _ .int rfl rfl
          have e58 : (H39.1 1826 1) = (H.1 1826 1) := hx39f.2.2 1 (by decide)
          have g59 : -2147483648 ≤ (H39.1 1826 3) ∧ (H39.1 1826 3) ≤ 2147483647 := hrg40.1 1826 13 3 _ .int rfl rfl
          have e60 : (H39.1 1826 3) = (H.1 1826 3) := hx39f.2.2 3 (by decide)
          have g61 : -2147483648 ≤ (H39.1 1826 8) ∧ (H39.1 1826 8) ≤ 2147483647 := hrg40.1 1826 13 8 _ .int rfl rfl
          have e62 : (H39.1 1826 8) = (H.1 1826 8) := hx39f.2.2 8 (by decide)
          have g63 : -2147483648 ≤ (H39.1 1826 13) ∧ (H39.1 1826 13) ≤ 2147483647 := hrg40.1 1826 13 13 _ .int rfl rfl
          have e64 : (H39.1 1826 13) = (H.1 1826 13) := hx39f.2.2 13 (by decide)
          have g65 : -2147483648 ≤ (H39.1 1826 39) ∧ (H39.1 1826 39) ≤ 2147483647 := hrg40.1 1826 13 39 _ .int rfl rfl
          have e66 : (H39.1 1826 39) = (H.1 1826 39) := hx39f.2.2 39 (by decide)
          exact ⟨rfl, (Or.inr ⟨(by omega : (3 : Int) ≠ 0), (BD_mk hR1 (fr_o (fr_o (fr_rf [35, 36] [] H39) (by decide)) (by decide)) (by decide) (by decide) (by decide : (3 : Int) ≠ 0) rfl rfl (rch_st hq (by show stDec Y nn K X = _; unfold stDec miss; (repeat (first | rw [if_pos (by omega)] | rw [if_neg (by omega)])); try (first | rfl | (exfalso; omega)))))⟩), (fr_o (fr_o hf41 (by decide)) (by decide)), (by omega : (H.1 1826 30) ≤ (H39.1 1826 30) ∧ (H39.1 1826 30) ≤ (H.1 1826 29)), (by omega : 0 ≤ (3 : Int) ∧ (3 : Int) ≤ 5), (by omega : (H.1 1826 35) ≠ 0 → (3 : Int) ≠ 0), (by omega : 0 ≤ (H39.1 1826 32) ∧ (H39.1 1826 32) ≤ 1000), (agp_o (agp_o ha42 (by decide)) (by decide)), (fun (q : (3 : Int) = 0) => absurd q (by omega))⟩
      · refine h_run 0 (pc' := 46) (l' := [(0, .inr (.inr 1826))]) (st' := [.inl (-1)]) rfl ?_
        refine h_run 1 (pc' := 47) (l' := [(0, .inr (.inr 1826))]) (st' := [.inl (-1), .inl (-1)]) rfl ?_
        refine h_ieq (off := 8) (t := 55) rfl rfl (by decide) (by decide) (fun _ => ?_) (fun c => absurd c (by decide))
        refine h_run 1 (pc' := 56) (l' := [(0, .inr (.inr 1826))]) (st' := [.inr (.inr 1826)]) rfl ?_
        refine h_cv (i := 293) (j := 158) (b := 1826) (M' := mt_158) (xs := []) (rest := []) rfl rfl rfl rfl rfl rfl (Nat.le_of_ble_eq_true rfl) (Nat.le_of_ble_eq_true rfl) (by omega) (m_good1 (by omega) (by omega : (H39.1 1826 35) = 0)) ?_
        rintro _ _ ⟨rfl, rfl⟩
        refine h_run 0 (pc' := 59) (l' := [(0, .inr (.inr 1826))]) (st' := [.inl 1]) rfl ?_
        refine h_zeq (off := 17) (t := 76) rfl rfl (by decide) (fun c => absurd c (by decide)) (fun _ => ?_)
        refine h_run 2 (pc' := 66) (l' := [(0, .inr (.inr 1826))]) (st' := [.inl (H39.1 1826 19)]) rfl ?_
        refine h_run 1 (pc' := 68) (l' := [(0, .inr (.inr 1826))]) (st' := [.inl 16, .inl (H39.1 1826 19)]) rfl ?_
        refine h_ine (off := 8) (t := 76) rfl rfl (by omega) (by decide) (fun c67 => ?_) (fun c67 => ?_)
        · refine h_run 1 (pc' := 77) (l' := [(0, .inr (.inr 1826))]) (st' := [.inr (.inr 1826)]) rfl ?_
          refine h_cv (i := 293) (j := 158) (b := 1826) (M' := mt_158) (xs := []) (rest := []) rfl rfl rfl rfl rfl rfl (Nat.le_of_ble_eq_true rfl) (Nat.le_of_ble_eq_true rfl) (by omega) (m_good1 (by omega) (by omega : (H39.1 1826 35) = 0)) ?_
          rintro _ _ ⟨rfl, rfl⟩
          refine h_run 0 (pc' := 80) (l' := [(0, .inr (.inr 1826))]) (st' := [.inl 1]) rfl ?_
          refine h_zne (off := 4) (t := 84) rfl rfl (by decide) (fun _ => ?_) (fun c => absurd c (by decide))
          refine h_run 2 (pc' := 88) (l' := [(0, .inr (.inr 1826))]) (st' := [.inl (H39.1 1826 19)]) rfl ?_
          refine h_run 1 (pc' := 89) (l' := [(0, .inr (.inr 1826)), (1, .inl (H39.1 1826 19))]) (st' := []) rfl ?_
          obtain ⟨l, hl⟩ : ∃ k9 : Nat, (H39.1 1826 19) = (k9 : Int) := ⟨((H39.1 1826 19)).toNat, by omega⟩
          rw [show (H39.1 1826 19) = (l : Int) from hl]
          refine h_run 5 (pc' := 98) (l' := [(0, .inr (.inr 1826)), (1, .inl (l : Int))]) (st' := [.inr (.inl (H39.1 1826 33)), .inl (l : Int), .inr (.inr 1841)]) rfl ?_
          refine h_lst (c := 1841) (j := l) (i := (l : Int)) (x := (H39.1 1826 33)) rfl rfl (by decide) (by decide) rfl (by omega) (by first | omega | exact z_long _) ?_
          have hq3 : rch Y c0 ((1, 58, 0, 0) :: (2, -2, 0, 0) :: ((1, 61, 0, 0) :: (14, 0, 0, 0) :: ((15, 0, 0, 0) :: ((1, 59, 0, 0) :: (6, nn + 1, 0, 0) :: K))), (xl (adv X) l (tn Y (xi (adv X))))) := by rw [show l = (X 0 7).toNat by omega]; exact (rch_st hq (by show stDec Y nn K X = _; unfold stDec miss; (repeat (first | rw [if_pos (by omega)] | rw [if_neg (by omega)])); try (first | rfl | (exfalso; omega))))
          refine h_run 1 (pc' := 100) (l' := [(0, .inr (.inr 1826)), (1, .inl (l : Int))]) (st' := [.inr (.inr 1826)]) rfl ?_
          have g68 : -2147483648 ≤ (H39.1 1826 30) ∧ (H39.1 1826 30) ≤ 2147483647 := hrg40.1 1826 13 30 _ .int rfl rfl
          have g69 : -2147483648 ≤ (H39.1 1826 29) ∧ (H39.1 1826 29) ≤ 2147483647 := hrg40.1 1826 13 29 _ .int rfl rfl
          have e70 : (H39.1 1826 29) = (H.1 1826 29) := hx39f.2.2 29 (by decide)
          have g71 : -2147483648 ≤ (H39.1 1826 32) ∧ (H39.1 1826 32) ≤ 2147483647 := hrg40.1 1826 13 32 _ .int rfl rfl
          refine h_cv (i := 297) (j := 165) (b := 1826) (M' := mt_165) (xs := []) (rest := []) rfl rfl rfl rfl rfl rfl (Nat.le_of_ble_eq_true rfl) (Nat.le_of_ble_eq_true rfl) (by omega) (n_nx (by omega) (by omega : 0 ≤ (H39.1 1826 30) ∧ (H39.1 1826 30) ≤ (H39.1 1826 29) ∧ (H39.1 1826 29) ≤ 1000) (by omega : 0 ≤ (H39.1 1826 35) ∧ (H39.1 1826 35) ≤ 5) (by omega : 0 ≤ (H39.1 1826 32) ∧ (H39.1 1826 32) ≤ 1000) (by omega : (H39.1 1826 35) = 0) (X := (xl (adv X) l (tn Y (xi (adv X))))) (RN_mk hR1 (fr_a (fr_rf [] [1841] H39) (by decide)) (by decide) (by decide) (xl_s _ _ _).1 (by rw [← RK_n hR1 (Or.inl (by omega))]; exact TA_ln hR1.2.2.2.2 (by omega))) hq3 (lk_1 (by decide))) ?_
          rintro _ H72 ⟨rfl, hx72n, hx72f, hx72a, hx72b, hx72c, -, hx72e, hx72g⟩
          refine h_rng (fun hrg73 => ?_)
          have hf74 : fr [30, 31, 32, 33, 35, 36, 19, 39, 40, 41, 43, 44, 47] [1841, 1842, 1843, 1844, 1845, 1846, 1847, 1849, 1850, 1851, 1852, 1853, 1854] H H72 := fr_t (fr_a hf41 (by decide)) hx72f (by decide) (by decide)
          have ha75 : agp H H72 := agp_tr (agp_a ha42 (by decide)) (agp_fr hx72f (by decide) (by decide))
          replace hx72a : (H39.1 1826 30) ≤ (H72.1 1826 30) := hx72a
          replace hx72b : (H72.1 1826 30) ≤ (H39.1 1826 29) := hx72b
          replace hx72g : (H72.1 1826 35) = 0 → ((H72.1 1826 31) = 0 ∨ (H39.1 1826 30) < (H72.1 1826 30)) := hx72g
          refine h_run 0 (pc' := 103) (l' := [(0, .inr (.inr 1826)), (1, .inl (l : Int))]) (st' := []) rfl ?_
          have g76 : -2147483648 ≤ (H72.1 1826 35) ∧ (H72.1 1826 35) ≤ 2147483647 := hrg73.1 1826 13 35 _ .int rfl rfl
          by_cases b77 : (H72.1 1826 35) = 0
          · skip
            replace hx72g := hx72g b77
            refine h_run 2 (pc' := 106) (l' := [(0, .inr (.inr 1826)), (1, .inl (l : Int))]) (st' := [.inl 58, .inr (.inr 1826)]) rfl ?_
            have g78 : -2147483648 ≤ (H72.1 1826 30) ∧ (H72.1 1826 30) ≤ 2147483647 := hrg73.1 1826 13 30 _ .int rfl rfl
            have g79 : -2147483648 ≤ (H72.1 1826 29) ∧ (H72.1 1826 29) ≤ 2147483647 := hrg73.1 1826 13 29 _ .int rfl rfl
            have e80 : (H72.1 1826 29) = (H39.1 1826 29) := hx72f.2.2 29 (by decide)
            have g81 : -2147483648 ≤ (H72.1 1826 31) ∧ (H72.1 1826 31) ≤ 2147483647 := hrg73.1 1826 13 31 _ .int rfl rfl
            have g83 : -2147483648 ≤ (H72.1 1826 32) ∧ (H72.1 1826 32) ≤ 2147483647 := hrg73.1 1826 13 32 _ .int rfl rfl
            refine h_cv (i := 313) (j := 166) (b := 1826) (M' := mt_166) (xs := [.inl 58]) (rest := []) rfl rfl rfl rfl rfl rfl (Nat.le_of_ble_eq_true rfl) (Nat.le_of_ble_eq_true rfl) (by omega) (n_want (by omega) (by omega : 0 ≤ (H72.1 1826 30) ∧ (H72.1 1826 30) ≤ (H72.1 1826 29) ∧ (H72.1 1826 29) ≤ 1000) (by omega : 0 ≤ (H72.1 1826 35) ∧ (H72.1 1826 35) ≤ 5) (by omega : 0 ≤ (H72.1 1826 32) ∧ (H72.1 1826 32) ≤ 1000) (by omega) (by omega : (H72.1 1826 35) = 0) (GB_g hx72n (by omega)) hq3 (lk_n (by decide))) ?_
            rintro _ H82 ⟨rfl, hx82n, hx82f, hx82a, hx82b, hx82c, -, hx82e, hx82g⟩
            refine h_rng (fun hrg84 => ?_)
            have hf85 : fr [30, 31, 32, 33, 35, 36, 19, 39, 40, 41, 43, 44, 47] [1841, 1842, 1843, 1844, 1845, 1846, 1847, 1849, 1850, 1851, 1852, 1853, 1854] H H82 := fr_t hf74 hx82f (by decide) (by decide)
            have ha86 : agp H H82 := agp_tr ha75 (agp_fr hx82f (by decide) (by decide))
            replace hx82a : (H72.1 1826 30) ≤ (H82.1 1826 30) := hx82a
            replace hx82b : (H82.1 1826 30) ≤ (H72.1 1826 29) := hx82b
            replace hx82g : (H82.1 1826 35) = 0 → (H72.1 1826 31) = (58 : Int) ∧ ((H82.1 1826 31) = 0 ∨ (H72.1 1826 30) < (H82.1 1826 30)) := hx82g
            refine h_run 0 (pc' := 109) (l' := [(0, .inr (.inr 1826)), (1, .inl (l : Int))]) (st' := []) rfl ?_
            have g87 : -2147483648 ≤ (H82.1 1826 35) ∧ (H82.1 1826 35) ≤ 2147483647 := hrg84.1 1826 13 35 _ .int rfl rfl
            by_cases b88 : (H82.1 1826 35) = 0
            · skip
              replace hx82g := hx82g b88
              refine h_run 1 (pc' := 110) (l' := [(0, .inr (.inr 1826)), (1, .inl (l : Int))]) (st' := [.inr (.inr 1826)]) rfl ?_
              refine h_cv (i := 379) (j := 185) (b := 1826) (M' := mt_185) (xs := []) (rest := []) rfl rfl rfl rfl rfl rfl (Nat.le_of_ble_eq_true rfl) (Nat.le_of_ble_eq_true rfl) (by omega) (m_beginTerm (by omega)) ?_
              rintro _ _ ⟨rfl, rfl⟩
              refine h_run 0 (pc' := 113) (l' := [(0, .inr (.inr 1826)), (1, .inl (l : Int))]) (st' := []) rfl ?_
              refine h_run 2 (pc' := 115) (l' := [(0, .inr (.inr 1826)), (1, .inl (l : Int))]) (st' := [.inl 2, .inr (.inr 1826)]) rfl ?_
              refine h_puti (i := 367) (ci := 13) (k := 44) (a := 1826) (x := 2) rfl rfl rfl rfl rfl rfl (by decide) (by decide) ?_
              refine h_run 1 (pc' := 119) (l' := [(0, .inr (.inr 1826)), (1, .inl (l : Int))]) (st' := [.inr (.inr 1826)]) rfl ?_
              refine h_cv (i := 293) (j := 158) (b := 1826) (M' := mt_158) (xs := []) (rest := []) rfl rfl rfl rfl rfl rfl (Nat.le_of_ble_eq_true rfl) (Nat.le_of_ble_eq_true rfl) (by omega) (m_good1 (by omega) (by omega : (H82.1 1826 35) = 0)) ?_
              rintro _ _ ⟨rfl, rfl⟩
              refine h_run 0 (pc' := 122) (l' := [(0, .inr (.inr 1826)), (1, .inl (l : Int))]) (st' := [.inl 1]) rfl ?_
              refine h_zeq (off := 11) (t := 133) rfl rfl (by decide) (fun c => absurd c (by decide)) (fun _ => ?_)
              refine h_run 2 (pc' := 127) (l' := [(0, .inr (.inr 1826)), (1, .inl (l : Int))]) (st' := [.inl (-1), .inr (.inr 1826)]) rfl ?_
              have g89 : -2147483648 ≤ (H82.1 1826 30) ∧ (H82.1 1826 30) ≤ 2147483647 := hrg84.1 1826 13 30 _ .int rfl rfl
              have g90 : -2147483648 ≤ (H82.1 1826 29) ∧ (H82.1 1826 29) ≤ 2147483647 := hrg84.1 1826 13 29 _ .int rfl rfl
              have e91 : (H82.1 1826 29) = (H72.1 1826 29) := hx82f.2.2 29 (by decide)
              have g92 : -2147483648 ≤ (H82.1 1826 1) ∧ (H82.1 1826 1) ≤ 2147483647 := hrg84.1 1826 13 1 _ .int rfl rfl
              have e93 : (H82.1 1826 1) = (H72.1 1826 1) := hx82f.2.2 1 (by decide)
              have e94 : (H72.1 1826 1) = (H39.1 1826 1) := hx72f.2.2 1 (by decide)
              have e95 : (H39.1 1826 1) = (H.1 1826 1) := hx39f.2.2 1 (by decide)
              have g96 : -2147483648 ≤ (H82.1 1826 8) ∧ (H82.1 1826 8) ≤ 2147483647 := hrg84.1 1826 13 8 _ .int rfl rfl
              have e97 : (H82.1 1826 8) = (H72.1 1826 8) := hx82f.2.2 8 (by decide)
              have e98 : (H72.1 1826 8) = (H39.1 1826 8) := hx72f.2.2 8 (by decide)
              have e99 : (H39.1 1826 8) = (H.1 1826 8) := hx39f.2.2 8 (by decide)
              have g101 : -2147483648 ≤ (H82.1 1826 3) ∧ (H82.1 1826 3) ≤ 2147483647 := hrg84.1 1826 13 3 _ .int rfl rfl
              have e102 : (H82.1 1826 3) = (H72.1 1826 3) := hx82f.2.2 3 (by decide)
              have e103 : (H72.1 1826 3) = (H39.1 1826 3) := hx72f.2.2 3 (by decide)
              have e104 : (H39.1 1826 3) = (H.1 1826 3) := hx39f.2.2 3 (by decide)
              have g105 : -2147483648 ≤ (H82.1 1826 13) ∧ (H82.1 1826 13) ≤ 2147483647 := hrg84.1 1826 13 13 _ .int rfl rfl
              have e106 : (H82.1 1826 13) = (H72.1 1826 13) := hx82f.2.2 13 (by decide)
              have e107 : (H72.1 1826 13) = (H39.1 1826 13) := hx72f.2.2 13 (by decide)
              have e108 : (H39.1 1826 13) = (H.1 1826 13) := hx39f.2.2 13 (by decide)
              have g109 : -2147483648 ≤ (H82.1 1826 19) ∧ (H82.1 1826 19) ≤ 2147483647 := hrg84.1 1826 13 19 _ .int rfl rfl
              have e110 : (H82.1 1826 19) = (H72.1 1826 19) := hx82f.2.2 19 (by decide)
              have e111 : (H72.1 1826 19) = (H39.1 1826 19) := hx72f.2.2 19 (by decide)
              have g112 : -2147483648 ≤ (H82.1 1826 32) ∧ (H82.1 1826 32) ≤ 2147483647 := hrg84.1 1826 13 32 _ .int rfl rfl
              obtain ⟨X4, hq4, hR4, hX4⟩ := GB_g hx82n (by omega)
              refine h_cv (i := 385) (j := 180) (b := 1826) (M' := mt_180) (xs := [.inl (-1)]) (rest := []) rfl rfl rfl rfl rfl rfl (Nat.le_of_ble_eq_true rfl) (Nat.le_of_ble_eq_true rfl) (by omega) (n_term (by omega) (by omega : 0 ≤ (H82.1 1826 30) ∧ (H82.1 1826 30) ≤ (H82.1 1826 29) ∧ (H82.1 1826 29) ≤ 1000) (by omega : 0 ≤ (H82.1 1826 35) ∧ (H82.1 1826 35) ≤ 5) (by omega : 0 ≤ (H82.1 1826 32) ∧ (H82.1 1826 32) ≤ 1000) (PWc_agp hP (agp_o (agp_o (agp_o (agp_o (agp_o ha86 (by decide)) (by decide)) (by decide)) (by decide)) (by decide)) ⟨(by omega : (H82.1 1826 1) = (H.1 1826 1)), (by omega : (H82.1 1826 3) = (H.1 1826 3)), (by omega : (H82.1 1826 8) = (H.1 1826 8)), (by omega : (H82.1 1826 13) = (H.1 1826 13)), (by omega : (H82.1 1826 19) = (H.1 1826 19))⟩) (by omega : 1 ≤ (2 : Int) ∧ (2 : Int) ≤ 3) (by omega : -1 ≤ (-1 : Int) ∧ (-1 : Int) < (H82.1 1826 1)) (by omega : 0 ≤ (0 : Int) ∧ (0 : Int) ≤ 10) (fun _ => ⟨rfl, rfl, rfl, (by omega : 0 ≤ (0 : Int) ∧ (0 : Int) ≤ 39 ∧ ((2 : Int) = 2 → (0 : Int) ≤ 6)), fun _ v hv => absurd (id hv : (v : Int) < 0) (by omega)⟩) (by omega : (H82.1 1826 35) = 0) (RK_fr hR4 (fr_o (fr_o (fr_o (fr_o (fr_o (fr_rf [39, 40, 41, 43, 44] [] H82) (by decide)) (by decide)) (by decide)) (by decide)) (by decide)) (by decide) (by decide)) (by rw [hX4]; exact VR_law rfl rfl rfl) (by omega : (H82.1 1826 8) = m) (e := -2) (by omega : ((2 : Int) = 2 ∧ (-2 : Int) = -2) ∨ ((2 : Int) ≠ 2 ∧ (-2 : Int) = -1)) hq4 (lk_1 (by decide)) (by omega : (2 : Int) = 1 → 0 ≤ (-1 : Int))) ?_
              rintro _ H100 ⟨⟨hx100r, rfl, hx100x, hx100y, hx100n⟩, hx100f, hx100a, hx100c, -, hx100e, hx100v, hx100p⟩
              refine h_rng (fun hrg113 => ?_)
              have hf114 : fr [30, 31, 32, 33, 35, 36, 19, 39, 40, 41, 43, 44, 47] [1841, 1842, 1843, 1844, 1845, 1846, 1847, 1849, 1850, 1851, 1852, 1853, 1854] H H100 := fr_t (fr_o (fr_o (fr_o (fr_o (fr_o hf85 (by decide)) (by decide)) (by decide)) (by decide)) (by decide)) hx100f (by decide) (by decide)
              have ha115 : agp H H100 := agp_tr (agp_o (agp_o (agp_o (agp_o (agp_o ha86 (by decide)) (by decide)) (by decide)) (by decide)) (by decide)) (agp_fr hx100f (by decide) (by decide))
              replace hx100y : hx100r < (H82.1 1826 1) := hx100y
              replace hx100a : (H82.1 1826 30) ≤ (H100.1 1826 30) ∧ (H100.1 1826 30) ≤ (H82.1 1826 29) := hx100a
              replace hx100v : ((2 : Int) ≠ 2 → (H100.1 1826 39) = (0 : Int)) ∧ (0 : Int) ≤ (H100.1 1826 39) := hx100v
              have hx100k : (H100.1 1826 35) = 0 → 0 ≤ (H100.1 1826 43) ∧ (H100.1 1826 43) ≤ 40 := fun q9 => by obtain ⟨⟨k9, h9, h8, -⟩, -⟩ := hx100p q9; omega
              have hx100w : (H100.1 1826 35) = 0 → 0 ≤ (H100.1 1826 39) ∧ (H100.1 1826 39) ≤ 39 ∧ ((H100.1 1826 44) = 2 → (H100.1 1826 39) ≤ 6) := fun q9 => (TT_vars (hx100p q9).2).1
              refine h_run 0 (pc' := 130) (l' := [(0, .inr (.inr 1826)), (1, .inl (l : Int))]) (st' := [.inl hx100r]) rfl ?_
              refine h_run 1 (pc' := 134) (l' := [(0, .inr (.inr 1826)), (1, .inl (l : Int))]) (st' := [.inl hx100r]) rfl ?_
              have g116 : -2147483648 ≤ (H100.1 1826 35) ∧ (H100.1 1826 35) ≤ 2147483647 := hrg113.1 1826 13 35 _ .int rfl rfl
              by_cases b117 : (H100.1 1826 35) = 0
              · skip
                replace hx100k := hx100k b117
                replace hx100w := hx100w b117
                refine h_run 1 (pc' := 135) (l' := [(0, .inr (.inr 1826)), (1, .inl (l : Int)), (2, .inl hx100r)]) (st' := []) rfl ?_
                obtain ⟨X5, hq5, hR5, hV5, hF5, hs5⟩ := GB_g hx100n (by omega)
                have hnm5 := TT_nm (hx100p (by omega)).2 (hx100p (by omega)).1
                have hv51 := hV5.1
                have hth5 := FI_g hF5 rfl (by omega) (by omega)
                refine h_run 4 (pc' := 139) (l' := [(0, .inr (.inr 1826)), (1, .inl (l : Int)), (2, .inl hx100r)]) (st' := [.inl (2 * (l : Int)), .inr (.inr 1826)]) rfl ?_
                have g118 : -2147483648 ≤ (H100.1 1826 43) ∧ (H100.1 1826 43) ≤ 2147483647 := hrg113.1 1826 13 43 _ .int rfl rfl
                have g119 : -2147483648 ≤ (H100.1 1826 19) ∧ (H100.1 1826 19) ≤ 2147483647 := hrg113.1 1826 13 19 _ .int rfl rfl
                have e120 : (H100.1 1826 19) = (H82.1 1826 19) := hx100f.2.2 19 (by decide)
                rw [show (2 * (l : Int)) = ((2 * l : Nat) : Int) by omega]
                refine h_cv (i := 390) (j := 188) (b := 1826) (M' := mt_188) (xs := [.inl ((2 * l : Nat) : Int)]) (rest := []) rfl rfl rfl rfl rfl rfl (Nat.le_of_ble_eq_true rfl) (Nat.le_of_ble_eq_true rfl) (by omega) (m_keepSide (by omega) (s := 2 * l) (by omega : 2 * (H100.1 1826 19) ≤ ((2 * l : Nat) : Int) ∧ 2 * l ≤ 31) (by omega : (H100.1 1826 35) = 0 → 0 ≤ (H100.1 1826 43) ∧ (H100.1 1826 43) ≤ 40)) ?_
                rintro _ H121 ⟨rfl, hx121f, hx121g, hx121z, hx121b, hx121c⟩
                refine h_rng (fun hrg122 => ?_)
                have hf123 : fr [30, 31, 32, 33, 35, 36, 19, 39, 40, 41, 43, 44, 47] [1841, 1842, 1843, 1844, 1845, 1846, 1847, 1849, 1850, 1851, 1852, 1853, 1854] H H121 := fr_t hf114 hx121f (by decide) (by decide)
                have ha124 : agp H H121 := agp_tr ha115 hx121g
                replace hx121c : hid _ := hx121c
                refine h_run 0 (pc' := 142) (l' := [(0, .inr (.inr 1826)), (1, .inl (l : Int)), (2, .inl hx100r)]) (st' := []) rfl ?_
                replace hR5 := RK_fr hR5 hx121f (by decide) (by decide)
                replace hV5 := VR_eq (K := H121) hV5 (hx121f.2.2 40 (by decide)) (hx121f.2.2 44 (by decide)) (hx121f.2.2 39 (by decide)) (hx121f.2.1 1849 (by decide) (by decide)) (hx121f.2.1 1850 (by decide) (by decide))
                refine h_run 2 (pc' := 145) (l' := [(0, .inr (.inr 1826)), (1, .inl (l : Int)), (2, .inl hx100r)]) (st' := [.inl 61, .inr (.inr 1826)]) rfl ?_
                have g125 : -2147483648 ≤ (H121.1 1826 35) ∧ (H121.1 1826 35) ≤ 2147483647 := hrg122.1 1826 13 35 _ .int rfl rfl
                have e126 : (H121.1 1826 35) = (H100.1 1826 35) := hx121f.2.2 35 (by decide)
                have g127 : -2147483648 ≤ (H121.1 1826 30) ∧ (H121.1 1826 30) ≤ 2147483647 := hrg122.1 1826 13 30 _ .int rfl rfl
                have e128 : (H121.1 1826 30) = (H100.1 1826 30) := hx121f.2.2 30 (by decide)
                have g129 : -2147483648 ≤ (H121.1 1826 29) ∧ (H121.1 1826 29) ≤ 2147483647 := hrg122.1 1826 13 29 _ .int rfl rfl
                have e130 : (H121.1 1826 29) = (H100.1 1826 29) := hx121f.2.2 29 (by decide)
                have e131 : (H100.1 1826 29) = (H82.1 1826 29) := hx100f.2.2 29 (by decide)
                have g132 : -2147483648 ≤ (H121.1 1826 31) ∧ (H121.1 1826 31) ≤ 2147483647 := hrg122.1 1826 13 31 _ .int rfl rfl
                have e133 : (H121.1 1826 31) = (H100.1 1826 31) := hx121f.2.2 31 (by decide)
                have g135 : -2147483648 ≤ (H121.1 1826 32) ∧ (H121.1 1826 32) ≤ 2147483647 := hrg122.1 1826 13 32 _ .int rfl rfl
                have e136 : (H121.1 1826 32) = (H100.1 1826 32) := hx121f.2.2 32 (by decide)
                refine h_cv (i := 313) (j := 166) (b := 1826) (M' := mt_166) (xs := [.inl 61]) (rest := []) rfl rfl rfl rfl rfl rfl (Nat.le_of_ble_eq_true rfl) (Nat.le_of_ble_eq_true rfl) (by omega) (n_want (by omega) (by omega : 0 ≤ (H121.1 1826 30) ∧ (H121.1 1826 30) ≤ (H121.1 1826 29) ∧ (H121.1 1826 29) ≤ 1000) (by omega : 0 ≤ (H121.1 1826 35) ∧ (H121.1 1826 35) ≤ 5) (by omega : 0 ≤ (H121.1 1826 32) ∧ (H121.1 1826 32) ≤ 1000) (by omega) (by omega : (H121.1 1826 35) = 0) hR5 hq5 (lk_c (lk_c (lk_1 (by decide)) (by decide : (15 : Nat) ≠ 0) (fun q => absurd q (by decide : (15 : Nat) ≠ 1))) (by decide : (14 : Nat) ≠ 0) (fun q => absurd q (by decide : (14 : Nat) ≠ 1)))) ?_
                rintro _ H134 ⟨rfl, hx134n, hx134f, hx134a, hx134b, hx134c, -, hx134e, hx134g⟩
                refine h_rng (fun hrg137 => ?_)
                have hf138 : fr [30, 31, 32, 33, 35, 36, 19, 39, 40, 41, 43, 44, 47] [1841, 1842, 1843, 1844, 1845, 1846, 1847, 1849, 1850, 1851, 1852, 1853, 1854] H H134 := fr_t hf123 hx134f (by decide) (by decide)
                have ha139 : agp H H134 := agp_tr ha124 (agp_fr hx134f (by decide) (by decide))
                replace hx134a : (H121.1 1826 30) ≤ (H134.1 1826 30) := hx134a
                replace hx134b : (H134.1 1826 30) ≤ (H121.1 1826 29) := hx134b
                replace hx134g : (H134.1 1826 35) = 0 → (H121.1 1826 31) = (61 : Int) ∧ ((H134.1 1826 31) = 0 ∨ (H121.1 1826 30) < (H134.1 1826 30)) := hx134g
                refine h_run 0 (pc' := 148) (l' := [(0, .inr (.inr 1826)), (1, .inl (l : Int)), (2, .inl hx100r)]) (st' := []) rfl ?_
                have g140 : -2147483648 ≤ (H134.1 1826 35) ∧ (H134.1 1826 35) ≤ 2147483647 := hrg137.1 1826 13 35 _ .int rfl rfl
                by_cases b141 : (H134.1 1826 35) = 0
                · skip
                  replace hx134g := hx134g b141
                  refine h_run 2 (pc' := 150) (l' := [(0, .inr (.inr 1826)), (1, .inl (l : Int)), (2, .inl hx100r)]) (st' := [.inl 0, .inr (.inr 1826)]) rfl ?_
                  refine h_puti (i := 300) (ci := 13) (k := 40) (a := 1826) (x := 0) rfl rfl rfl rfl rfl rfl (by decide) (by decide) ?_
                  refine h_run 2 (pc' := 155) (l' := [(0, .inr (.inr 1826)), (1, .inl (l : Int)), (2, .inl hx100r)]) (st' := [.inl 0, .inr (.inr 1826)]) rfl ?_
                  refine h_puti (i := 335) (ci := 13) (k := 41) (a := 1826) (x := 0) rfl rfl rfl rfl rfl rfl (by decide) (by decide) ?_
                  refine h_run 2 (pc' := 160) (l' := [(0, .inr (.inr 1826)), (1, .inl (l : Int)), (2, .inl hx100r)]) (st' := [.inl 0, .inr (.inr 1826)]) rfl ?_
                  refine h_puti (i := 303) (ci := 13) (k := 43) (a := 1826) (x := 0) rfl rfl rfl rfl rfl rfl (by decide) (by decide) ?_
                  refine h_run 1 (pc' := 164) (l' := [(0, .inr (.inr 1826)), (1, .inl (l : Int)), (2, .inl hx100r)]) (st' := [.inr (.inr 1826)]) rfl ?_
                  refine h_cv (i := 293) (j := 158) (b := 1826) (M' := mt_158) (xs := []) (rest := []) rfl rfl rfl rfl rfl rfl (Nat.le_of_ble_eq_true rfl) (Nat.le_of_ble_eq_true rfl) (by omega) (m_good1 (by omega) (by omega : (H134.1 1826 35) = 0)) ?_
                  rintro _ _ ⟨rfl, rfl⟩
                  refine h_run 0 (pc' := 167) (l' := [(0, .inr (.inr 1826)), (1, .inl (l : Int)), (2, .inl hx100r)]) (st' := [.inl 1]) rfl ?_
                  refine h_zeq (off := 11) (t := 178) rfl rfl (by decide) (fun c => absurd c (by decide)) (fun _ => ?_)
                  have g142 : -2147483648 ≤ (H134.1 1826 44) ∧ (H134.1 1826 44) ≤ 2147483647 := hrg137.1 1826 13 44 _ .int rfl rfl
                  have e143 : (H134.1 1826 44) = (H121.1 1826 44) := hx134f.2.2 44 (by decide)
                  have e144 : (H121.1 1826 44) = (H100.1 1826 44) := hx121f.2.2 44 (by decide)
                  have e145 : (H100.1 1826 44) = 2 := hx100f.2.2 44 (by decide)
                  have g146 : -2147483648 ≤ (H134.1 1826 39) ∧ (H134.1 1826 39) ≤ 2147483647 := hrg137.1 1826 13 39 _ .int rfl rfl
                  have e147 : (H134.1 1826 39) = (H121.1 1826 39) := hx134f.2.2 39 (by decide)
                  have e148 : (H121.1 1826 39) = (H100.1 1826 39) := hx121f.2.2 39 (by decide)
                  have g149 : -2147483648 ≤ (H134.1 1826 1) ∧ (H134.1 1826 1) ≤ 2147483647 := hrg137.1 1826 13 1 _ .int rfl rfl
                  have e150 : (H134.1 1826 1) = (H121.1 1826 1) := hx134f.2.2 1 (by decide)
                  have e151 : (H121.1 1826 1) = (H100.1 1826 1) := hx121f.2.2 1 (by decide)
                  have e152 : (H100.1 1826 1) = (H82.1 1826 1) := hx100f.2.2 1 (by decide)
                  have hvt8 : ∀ v : Nat, (v : Int) < (H134.1 1826 39) → 0 ≤ (H134.1 1850) v ∧ (H134.1 1850) v < (H134.1 1826 1) := fun v hv => by rw [show (H134.1 1850) = (H100.1 1850) from (hx134f.2.1 1850 (by decide) (by decide)).trans (hx121f.2.1 1850 (by decide) (by decide)), show (H134.1 1826 1) = (H100.1 1826 1) from (hx134f.2.2 1 (by decide)).trans (hx121f.2.2 1 (by decide))]; exact (TT_vars (hx100p (by omega)).2).2 (by omega) v (by omega)
                  refine h_run 2 (pc' := 172) (l' := [(0, .inr (.inr 1826)), (1, .inl (l : Int)), (2, .inl hx100r)]) (st' := [.inl hx100r, .inr (.inr 1826)]) rfl ?_
                  have g153 : -2147483648 ≤ (H134.1 1826 30) ∧ (H134.1 1826 30) ≤ 2147483647 := hrg137.1 1826 13 30 _ .int rfl rfl
                  have g154 : -2147483648 ≤ (H134.1 1826 29) ∧ (H134.1 1826 29) ≤ 2147483647 := hrg137.1 1826 13 29 _ .int rfl rfl
                  have e155 : (H134.1 1826 29) = (H121.1 1826 29) := hx134f.2.2 29 (by decide)
                  have g156 : -2147483648 ≤ (H134.1 1826 8) ∧ (H134.1 1826 8) ≤ 2147483647 := hrg137.1 1826 13 8 _ .int rfl rfl
                  have e157 : (H134.1 1826 8) = (H121.1 1826 8) := hx134f.2.2 8 (by decide)
                  have e158 : (H121.1 1826 8) = (H100.1 1826 8) := hx121f.2.2 8 (by decide)
                  have e159 : (H100.1 1826 8) = (H82.1 1826 8) := hx100f.2.2 8 (by decide)
                  have g161 : -2147483648 ≤ (H134.1 1826 3) ∧ (H134.1 1826 3) ≤ 2147483647 := hrg137.1 1826 13 3 _ .int rfl rfl
                  have e162 : (H134.1 1826 3) = (H121.1 1826 3) := hx134f.2.2 3 (by decide)
                  have e163 : (H121.1 1826 3) = (H100.1 1826 3) := hx121f.2.2 3 (by decide)
                  have e164 : (H100.1 1826 3) = (H82.1 1826 3) := hx100f.2.2 3 (by decide)
                  have g165 : -2147483648 ≤ (H134.1 1826 13) ∧ (H134.1 1826 13) ≤ 2147483647 := hrg137.1 1826 13 13 _ .int rfl rfl
                  have e166 : (H134.1 1826 13) = (H121.1 1826 13) := hx134f.2.2 13 (by decide)
                  have e167 : (H121.1 1826 13) = (H100.1 1826 13) := hx121f.2.2 13 (by decide)
                  have e168 : (H100.1 1826 13) = (H82.1 1826 13) := hx100f.2.2 13 (by decide)
                  have g169 : -2147483648 ≤ (H134.1 1826 19) ∧ (H134.1 1826 19) ≤ 2147483647 := hrg137.1 1826 13 19 _ .int rfl rfl
                  have e170 : (H134.1 1826 19) = (H121.1 1826 19) := hx134f.2.2 19 (by decide)
                  have e171 : (H121.1 1826 19) = (H100.1 1826 19) := hx121f.2.2 19 (by decide)
                  have g172 : -2147483648 ≤ (H134.1 1826 32) ∧ (H134.1 1826 32) ≤ 2147483647 := hrg137.1 1826 13 32 _ .int rfl rfl
                  obtain ⟨X6, hq6, hR6, hX6⟩ := GB_g hx134n (by omega)
                  have hV6 : VR H134 X6 := by rw [hX6]; exact VR_adv hV5 (hx134f.2.2 40 (by decide)) (hx134f.2.2 44 (by decide)) (hx134f.2.2 39 (by decide)) (hx134f.2.1 1849 (by decide) (by decide)) (hx134f.2.1 1850 (by decide) (by decide))
                  have hme6 := me_or (-2) hx100r
                  have hth6 : thd X6 = hx100r := by rw [hX6]; exact hth5.2
                  refine h_cv (i := 385) (j := 180) (b := 1826) (M' := mt_180) (xs := [.inl hx100r]) (rest := []) rfl rfl rfl rfl rfl rfl (Nat.le_of_ble_eq_true rfl) (Nat.le_of_ble_eq_true rfl) (by omega) (n_term (by omega) (by omega : 0 ≤ (H134.1 1826 30) ∧ (H134.1 1826 30) ≤ (H134.1 1826 29) ∧ (H134.1 1826 29) ≤ 1000) (by omega : 0 ≤ (H134.1 1826 35) ∧ (H134.1 1826 35) ≤ 5) (by omega : 0 ≤ (H134.1 1826 32) ∧ (H134.1 1826 32) ≤ 1000) (PWc_agp hP (agp_o (agp_o (agp_o ha139 (by decide)) (by decide)) (by decide)) ⟨(by omega : (H134.1 1826 1) = (H.1 1826 1)), (by omega : (H134.1 1826 3) = (H.1 1826 3)), (by omega : (H134.1 1826 8) = (H.1 1826 8)), (by omega : (H134.1 1826 13) = (H.1 1826 13)), (by omega : (H134.1 1826 19) = (H.1 1826 19))⟩) (by omega : 1 ≤ (H134.1 1826 44) ∧ (H134.1 1826 44) ≤ 3) (by omega : -1 ≤ hx100r ∧ hx100r < (H134.1 1826 1)) (by omega : 0 ≤ (0 : Int) ∧ (0 : Int) ≤ 10) (fun _ => ⟨rfl, rfl, rfl, (by omega : 0 ≤ (H134.1 1826 39) ∧ (H134.1 1826 39) ≤ 39 ∧ ((H134.1 1826 44) = 2 → (H134.1 1826 39) ≤ 6)), fun _ => hvt8⟩) (by omega : (H134.1 1826 35) = 0) (RK_fr (RK_sT hR6 (x02 X6).2.2.2.2.2.2 (x02 X6).1) (fr_o (fr_o (fr_o (fr_rf [40, 41, 43] [] H134) (by decide)) (by decide)) (by decide)) (by decide) (by decide)) (VR_VR hV6 rfl rfl rfl rfl rfl) (by omega : (H134.1 1826 8) = m) (e := -2) (by omega : ((H134.1 1826 44) = 2 ∧ (-2 : Int) = -2) ∨ ((H134.1 1826 44) ≠ 2 ∧ (-2 : Int) = -1)) (by rw [show me (-2) hx100r = thd X6 from (by omega)]; exact rch_st hq6 rfl) (lk_c (lk_1 (by decide)) (by decide : (15 : Nat) ≠ 0) (fun q => absurd q (by decide : (15 : Nat) ≠ 1))) (by omega : (H134.1 1826 44) = 1 → 0 ≤ hx100r)) ?_
                  rintro _ H160 ⟨⟨hx160r, rfl, hx160x, hx160y, hx160n⟩, hx160f, hx160a, hx160c, -, hx160e, hx160v, hx160p⟩
                  refine h_rng (fun hrg173 => ?_)
                  have hf174 : fr [30, 31, 32, 33, 35, 36, 19, 39, 40, 41, 43, 44, 47] [1841, 1842, 1843, 1844, 1845, 1846, 1847, 1849, 1850, 1851, 1852, 1853, 1854] H H160 := fr_t (fr_o (fr_o (fr_o hf138 (by decide)) (by decide)) (by decide)) hx160f (by decide) (by decide)
                  have ha175 : agp H H160 := agp_tr (agp_o (agp_o (agp_o ha139 (by decide)) (by decide)) (by decide)) (agp_fr hx160f (by decide) (by decide))
                  replace hx160y : hx160r < (H134.1 1826 1) := hx160y
                  replace hx160a : (H134.1 1826 30) ≤ (H160.1 1826 30) ∧ (H160.1 1826 30) ≤ (H134.1 1826 29) := hx160a
                  replace hx160v : ((H134.1 1826 44) ≠ 2 → (H160.1 1826 39) = (H134.1 1826 39)) ∧ (H134.1 1826 39) ≤ (H160.1 1826 39) := hx160v
                  have hx160k : (H160.1 1826 35) = 0 → 0 ≤ (H160.1 1826 43) ∧ (H160.1 1826 43) ≤ 40 := fun q9 => by obtain ⟨⟨k9, h9, h8, -⟩, -⟩ := hx160p q9; omega
                  have hx160w : (H160.1 1826 35) = 0 → 0 ≤ (H160.1 1826 39) ∧ (H160.1 1826 39) ≤ 39 ∧ ((H160.1 1826 44) = 2 → (H160.1 1826 39) ≤ 6) := fun q9 => (TT_vars (hx160p q9).2).1
                  refine h_run 0 (pc' := 175) (l' := [(0, .inr (.inr 1826)), (1, .inl (l : Int)), (2, .inl hx100r)]) (st' := [.inl hx160r]) rfl ?_
                  refine h_run 1 (pc' := 179) (l' := [(0, .inr (.inr 1826)), (1, .inl (l : Int)), (2, .inl hx100r)]) (st' := [.inl hx160r]) rfl ?_
                  have g176 : -2147483648 ≤ (H160.1 1826 35) ∧ (H160.1 1826 35) ≤ 2147483647 := hrg173.1 1826 13 35 _ .int rfl rfl
                  by_cases b177 : (H160.1 1826 35) = 0
                  · skip
                    replace hx160k := hx160k b177
                    replace hx160w := hx160w b177
                    refine h_run 7 (pc' := 186) (l' := [(0, .inr (.inr 1826)), (1, .inl (l : Int)), (2, .inl hx100r), (3, .inl hx160r)]) (st' := [.inl ((2 * (l : Int)) + 1), .inr (.inr 1826)]) rfl ?_
                    have g178 : -2147483648 ≤ (H160.1 1826 43) ∧ (H160.1 1826 43) ≤ 2147483647 := hrg173.1 1826 13 43 _ .int rfl rfl
                    have g179 : -2147483648 ≤ (H160.1 1826 19) ∧ (H160.1 1826 19) ≤ 2147483647 := hrg173.1 1826 13 19 _ .int rfl rfl
                    have e180 : (H160.1 1826 19) = (H134.1 1826 19) := hx160f.2.2 19 (by decide)
                    rw [show ((2 * (l : Int)) + 1) = ((2 * l + 1 : Nat) : Int) by omega]
                    refine h_cv (i := 390) (j := 188) (b := 1826) (M' := mt_188) (xs := [.inl ((2 * l + 1 : Nat) : Int)]) (rest := []) rfl rfl rfl rfl rfl rfl (Nat.le_of_ble_eq_true rfl) (Nat.le_of_ble_eq_true rfl) (by omega) (m_keepSide (by omega) (s := 2 * l + 1) (by omega : 2 * (H160.1 1826 19) ≤ ((2 * l + 1 : Nat) : Int) ∧ 2 * l + 1 ≤ 31) (by omega : (H160.1 1826 35) = 0 → 0 ≤ (H160.1 1826 43) ∧ (H160.1 1826 43) ≤ 40)) ?_
                    rintro _ H181 ⟨rfl, hx181f, hx181g, hx181z, hx181b, hx181c⟩
                    refine h_rng (fun hrg182 => ?_)
                    have hf183 : fr [30, 31, 32, 33, 35, 36, 19, 39, 40, 41, 43, 44, 47] [1841, 1842, 1843, 1844, 1845, 1846, 1847, 1849, 1850, 1851, 1852, 1853, 1854] H H181 := fr_t hf174 hx181f (by decide) (by decide)
                    have ha184 : agp H H181 := agp_tr ha175 hx181g
                    replace hx181c : hid _ := hx181c
                    refine h_run 0 (pc' := 189) (l' := [(0, .inr (.inr 1826)), (1, .inl (l : Int)), (2, .inl hx100r), (3, .inl hx160r)]) (st' := []) rfl ?_
                    obtain ⟨X7, hq7, hR7, hV7, hF7, hs7⟩ := GB_g hx160n (by omega)
                    replace hR7 := RK_fr hR7 hx181f (by decide) (by decide)
                    have hx12 : X7 12 = up (adv X 12) l (tn Y (xi (adv X))) := by rw [hs7.2.1, (x02 X6).2.2.2.2.2.2.2.1, hX6, (sT_adv X5).2.1, hs5.2.1, hX4, (sT_adv _).2.1, (xl_s _ _ _).2.2.2.2.1]
                    have hln : (H181.1 1841) l = X7 12 l := by rw [hx12, up_eq, ← RK_n hR1 (Or.inl (by omega)), show (H181.1 1841) = _ from (((((((hx181f.2.1 1841 (by decide) (by decide)).trans (hx160f.2.1 1841 (by decide) (by decide))).trans (hx134f.2.1 1841 (by decide) (by decide))).trans (hx121f.2.1 1841 (by decide) (by decide))).trans (hx100f.2.1 1841 (by decide) (by decide))).trans (hx82f.2.1 1841 (by decide) (by decide))).trans (hx72f.2.1 1841 (by decide) (by decide)))]; exact up_eq _ _ _
                    refine h_run 1 (pc' := 190) (l' := [(0, .inr (.inr 1826)), (1, .inl (l : Int)), (2, .inl hx100r), (3, .inl hx160r)]) (st' := [.inr (.inr 1826)]) rfl ?_
                    have g185 : -2147483648 ≤ (H181.1 1826 35) ∧ (H181.1 1826 35) ≤ 2147483647 := hrg182.1 1826 13 35 _ .int rfl rfl
                    have e186 : (H181.1 1826 35) = (H160.1 1826 35) := hx181f.2.2 35 (by decide)
                    refine h_cv (i := 293) (j := 158) (b := 1826) (M' := mt_158) (xs := []) (rest := []) rfl rfl rfl rfl rfl rfl (Nat.le_of_ble_eq_true rfl) (Nat.le_of_ble_eq_true rfl) (by omega) (m_good1 (by omega) (by omega : (H181.1 1826 35) = 0)) ?_
                    rintro _ _ ⟨rfl, rfl⟩
                    refine h_run 0 (pc' := 193) (l' := [(0, .inr (.inr 1826)), (1, .inl (l : Int)), (2, .inl hx100r), (3, .inl hx160r)]) (st' := [.inl 1]) rfl ?_
                    refine h_zeq (off := 83) (t := 276) rfl rfl (by decide) (fun c => absurd c (by decide)) (fun _ => ?_)
                    have g187 : -2147483648 ≤ (H181.1 1826 44) ∧ (H181.1 1826 44) ≤ 2147483647 := hrg182.1 1826 13 44 _ .int rfl rfl
                    have e188 : (H181.1 1826 44) = (H160.1 1826 44) := hx181f.2.2 44 (by decide)
                    have e189 : (H160.1 1826 44) = (H134.1 1826 44) := hx160f.2.2 44 (by decide)
                    have g190 : -2147483648 ≤ (H181.1 1826 39) ∧ (H181.1 1826 39) ≤ 2147483647 := hrg182.1 1826 13 39 _ .int rfl rfl
                    have e191 : (H181.1 1826 39) = (H160.1 1826 39) := hx181f.2.2 39 (by decide)
                    have g192 : -2147483648 ≤ (H181.1 1826 1) ∧ (H181.1 1826 1) ≤ 2147483647 := hrg182.1 1826 13 1 _ .int rfl rfl
                    have e193 : (H181.1 1826 1) = (H160.1 1826 1) := hx181f.2.2 1 (by decide)
                    have e194 : (H160.1 1826 1) = (H134.1 1826 1) := hx160f.2.2 1 (by decide)
                    have g195 : -2147483648 ≤ (H181.1 1826 19) ∧ (H181.1 1826 19) ≤ 2147483647 := hrg182.1 1826 13 19 _ .int rfl rfl
                    have e196 : (H181.1 1826 19) = (H160.1 1826 19) := hx181f.2.2 19 (by decide)
                    have gk2 : (H160.1 1826 35) = 0 := by omega
                    have gk1 : (H100.1 1826 35) = 0 := by omega
                    obtain ⟨⟨k0, p1, p2, p3⟩, pT1⟩ := hx100p gk1
                    obtain ⟨⟨k1, q1, q2, q3⟩, qT2⟩ := hx160p gk2
                    have hs0 := LS_fr (LS_keep hx121f hx121z (hx121c gk1) p1 p2 p3) hx134f (by decide) (by decide)
                    have hs1 := LS_keep2 (LS_fr (id hs0 : LSd (zu (zu (zu H134 1826 (up (H134.1 1826) 40 0)) 1826 (up ((zu H134 1826 (up (H134.1 1826) 40 0)).1 1826) 41 0)) 1826 (up ((zu (zu H134 1826 (up (H134.1 1826) 40 0)) 1826 (up ((zu H134 1826 (up (H134.1 1826) 40 0)).1 1826) 41 0)).1 1826) 43 0)) _ _ _) hx160f (by decide) (by decide)) hx181f hx181z hx181b (by omega)
                    have hs2 := LS_keep hx181f hx181z (hx181c gk2) q1 q2 q3
                    have hvt := (TT_vars qT2).2 (by omega)
                    have hv9 : (H160.1 1826 39) = (((H181.1 1826 39)).toNat : Int) := by omega
                    have hs3 : LSd H181 (2 * l) k0 (((H181.1 1826 39)).toNat : Int) := LS_mono hs1 (by omega)
                    rw [hv9] at hs2
                    have hvt9 : ∀ x : Nat, (x : Int) < (H181.1 1826 39) → 0 ≤ (H181.1 1850) x ∧ (H181.1 1850) x < (H181.1 1826 1) := fun x hx => by rw [show (H181.1 1850) = (H160.1 1850) from (hx181f.2.1 1850 (by decide) (by decide)), show (H181.1 1826 1) = (H160.1 1826 1) from (hx181f.2.2 1 (by decide))]; exact hvt x (by omega)
                    refine h_run 5 (pc' := 203) (l' := [(0, .inr (.inr 1826)), (1, .inl (l : Int)), (2, .inl hx100r), (3, .inl hx160r)]) (st' := [.inl (-1), .inl hx100r, .inl (l : Int), .inr (.inr 1844)]) rfl ?_
                    refine h_ieq (off := 7) (t := 210) rfl rfl (by omega) (by decide) (fun c197 => ?_) (fun c197 => ?_)
                    · refine h_run 1 (pc' := 211) (l' := [(0, .inr (.inr 1826)), (1, .inl (l : Int)), (2, .inl hx100r), (3, .inl hx160r)]) (st' := [.inl hx160r, .inl (l : Int), .inr (.inr 1844)]) rfl ?_
                      refine h_ist (c := 1844) (j := l) (i := (l : Int)) (x := hx160r) rfl rfl (by decide) (by decide) rfl (by omega) (by omega) ?_
                      refine h_run 5 (pc' := 221) (l' := [(0, .inr (.inr 1826)), (1, .inl (l : Int)), (2, .inl hx100r), (3, .inl hx160r)]) (st' := [.inl (H181.1 1826 39), .inl (l : Int), .inr (.inr 1845)]) rfl ?_
                      refine h_ist (c := 1845) (j := l) (i := (l : Int)) (x := (H181.1 1826 39)) rfl rfl (by decide) (by decide) rfl (by omega) (by omega) ?_
                      refine h_run 2 (pc' := 225) (l' := [(0, .inr (.inr 1826)), (1, .inl (l : Int)), (2, .inl hx100r), (3, .inl hx160r), (4, .inl 0)]) (st' := []) rfl ?_
                      have g198 : -2147483648 ≤ (H181.1 1826 30) ∧ (H181.1 1826 30) ≤ 2147483647 := hrg182.1 1826 13 30 _ .int rfl rfl
                      have e199 : (H181.1 1826 30) = (H160.1 1826 30) := hx181f.2.2 30 (by decide)
                      have g200 : -2147483648 ≤ (H181.1 1826 32) ∧ (H181.1 1826 32) ≤ 2147483647 := hrg182.1 1826 13 32 _ .int rfl rfl
                      have e201 : (H181.1 1826 32) = (H160.1 1826 32) := hx181f.2.2 32 (by decide)
                      have g202 : -2147483648 ≤ (H181.1 1826 31) ∧ (H181.1 1826 31) ≤ 2147483647 := hrg182.1 1826 13 31 _ .int rfl rfl
                      have e203 : (H181.1 1826 31) = (H160.1 1826 31) := hx181f.2.2 31 (by decide)
                      have g204 : -2147483648 ≤ (H181.1 1826 29) ∧ (H181.1 1826 29) ≤ 2147483647 := hrg182.1 1826 13 29 _ .int rfl rfl
                      have e205 : (H181.1 1826 29) = (H160.1 1826 29) := hx181f.2.2 29 (by decide)
                      have e206 : (H160.1 1826 29) = (H134.1 1826 29) := hx160f.2.2 29 (by decide)
                      have g207 : -2147483648 ≤ (H181.1 1826 3) ∧ (H181.1 1826 3) ≤ 2147483647 := hrg182.1 1826 13 3 _ .int rfl rfl
                      have e208 : (H181.1 1826 3) = (H160.1 1826 3) := hx181f.2.2 3 (by decide)
                      have e209 : (H160.1 1826 3) = (H134.1 1826 3) := hx160f.2.2 3 (by decide)
                      have g210 : -2147483648 ≤ (H181.1 1826 8) ∧ (H181.1 1826 8) ≤ 2147483647 := hrg182.1 1826 13 8 _ .int rfl rfl
                      have e211 : (H181.1 1826 8) = (H160.1 1826 8) := hx181f.2.2 8 (by decide)
                      have e212 : (H160.1 1826 8) = (H134.1 1826 8) := hx160f.2.2 8 (by decide)
                      have g213 : -2147483648 ≤ (H181.1 1826 13) ∧ (H181.1 1826 13) ≤ 2147483647 := hrg182.1 1826 13 13 _ .int rfl rfl
                      have e214 : (H181.1 1826 13) = (H160.1 1826 13) := hx181f.2.2 13 (by decide)
                      have e215 : (H160.1 1826 13) = (H134.1 1826 13) := hx160f.2.2 13 (by decide)
                      refine h_loc [0, 1, 4] rfl ?_
                      exact (n_tellLaw_cut hd h0 hw hst hP hw0 hR hmf hq htk _) _ (l) 0 (k0) (k1) (((H181.1 1826 39)).toNat) (fr_a (fr_a hf183 (by decide)) (by decide)) (by omega : (H.1 1826 30) ≤ (H181.1 1826 30) ∧ (H181.1 1826 30) ≤ (H.1 1826 29)) (by omega : 0 ≤ (H181.1 1826 35) ∧ (H181.1 1826 35) ≤ 5) (by omega : 0 ≤ (H181.1 1826 32) ∧ (H181.1 1826 32) ≤ 1000) (agp_1845 (agp_a ha184 (by decide)) (by omega : (H.1 1826 19) ≤ ((l : Nat) : Int))) (by omega : (H181.1 1826 35) = 0) (by omega : ((l) : Int) = (H.1 1826 19) ∧ (H.1 1826 19) ≤ 15) (by omega : (H181.1 1826 1) = (H.1 1826 1) ∧ (H181.1 1826 3) = (H.1 1826 3) ∧ (H181.1 1826 8) = (H.1 1826 8) ∧ (H181.1 1826 13) = (H.1 1826 13) ∧ (H181.1 1826 19) = (H.1 1826 19)) hs3 hs2 (show up (H181.1 1845) l ((H181.1 1826 39)) l = _ by rw [up_eq]; omega) (by omega : (H181.1 1826 39) = (((H181.1 1826 39)).toNat) ∧ (((H181.1 1826 39)).toNat) ≤ 6) hvt9 (by omega) (fun x hx => absurd hx (Nat.not_lt_zero _)) ⟨X7, hq7, RK_fr hR7 (fr_a (fr_a (fr_rf [] [1844, 1845] H181) (by decide)) (by decide)) (by decide) (by decide), hln⟩ (Nat.lt_succ_self _)
                    · refine h_run 2 (pc' := 211) (l' := [(0, .inr (.inr 1826)), (1, .inl (l : Int)), (2, .inl hx100r), (3, .inl hx160r)]) (st' := [.inl hx100r, .inl (l : Int), .inr (.inr 1844)]) rfl ?_
                      refine h_ist (c := 1844) (j := l) (i := (l : Int)) (x := hx100r) rfl rfl (by decide) (by decide) rfl (by omega) (by omega) ?_
                      refine h_run 5 (pc' := 221) (l' := [(0, .inr (.inr 1826)), (1, .inl (l : Int)), (2, .inl hx100r), (3, .inl hx160r)]) (st' := [.inl (H181.1 1826 39), .inl (l : Int), .inr (.inr 1845)]) rfl ?_
                      refine h_ist (c := 1845) (j := l) (i := (l : Int)) (x := (H181.1 1826 39)) rfl rfl (by decide) (by decide) rfl (by omega) (by omega) ?_
                      refine h_run 2 (pc' := 225) (l' := [(0, .inr (.inr 1826)), (1, .inl (l : Int)), (2, .inl hx100r), (3, .inl hx160r), (4, .inl 0)]) (st' := []) rfl ?_
                      have g216 : -2147483648 ≤ (H181.1 1826 30) ∧ (H181.1 1826 30) ≤ 2147483647 := hrg182.1 1826 13 30 _ .int rfl rfl
                      have e217 : (H181.1 1826 30) = (H160.1 1826 30) := hx181f.2.2 30 (by decide)
                      have g218 : -2147483648 ≤ (H181.1 1826 32) ∧ (H181.1 1826 32) ≤ 2147483647 := hrg182.1 1826 13 32 _ .int rfl rfl
                      have e219 : (H181.1 1826 32) = (H160.1 1826 32) := hx181f.2.2 32 (by decide)
                      have g220 : -2147483648 ≤ (H181.1 1826 31) ∧ (H181.1 1826 31) ≤ 2147483647 := hrg182.1 1826 13 31 _ .int rfl rfl
                      have e221 : (H181.1 1826 31) = (H160.1 1826 31) := hx181f.2.2 31 (by decide)
                      have g222 : -2147483648 ≤ (H181.1 1826 29) ∧ (H181.1 1826 29) ≤ 2147483647 := hrg182.1 1826 13 29 _ .int rfl rfl
                      have e223 : (H181.1 1826 29) = (H160.1 1826 29) := hx181f.2.2 29 (by decide)
                      have e224 : (H160.1 1826 29) = (H134.1 1826 29) := hx160f.2.2 29 (by decide)
                      have g225 : -2147483648 ≤ (H181.1 1826 3) ∧ (H181.1 1826 3) ≤ 2147483647 := hrg182.1 1826 13 3 _ .int rfl rfl
                      have e226 : (H181.1 1826 3) = (H160.1 1826 3) := hx181f.2.2 3 (by decide)
                      have e227 : (H160.1 1826 3) = (H134.1 1826 3) := hx160f.2.2 3 (by decide)
                      have g228 : -2147483648 ≤ (H181.1 1826 8) ∧ (H181.1 1826 8) ≤ 2147483647 := hrg182.1 1826 13 8 _ .int rfl rfl
                      have e229 : (H181.1 1826 8) = (H160.1 1826 8) := hx181f.2.2 8 (by decide)
                      have e230 : (H160.1 1826 8) = (H134.1 1826 8) := hx160f.2.2 8 (by decide)
                      have g231 : -2147483648 ≤ (H181.1 1826 13) ∧ (H181.1 1826 13) ≤ 2147483647 := hrg182.1 1826 13 13 _ .int rfl rfl
                      have e232 : (H181.1 1826 13) = (H160.1 1826 13) := hx181f.2.2 13 (by decide)
                      have e233 : (H160.1 1826 13) = (H134.1 1826 13) := hx160f.2.2 13 (by decide)
                      refine h_loc [0, 1, 4] rfl ?_
                      exact (n_tellLaw_cut hd h0 hw hst hP hw0 hR hmf hq htk _) _ (l) 0 (k0) (k1) (((H181.1 1826 39)).toNat) (fr_a (fr_a hf183 (by decide)) (by decide)) (by omega : (H.1 1826 30) ≤ (H181.1 1826 30) ∧ (H181.1 1826 30) ≤ (H.1 1826 29)) (by omega : 0 ≤ (H181.1 1826 35) ∧ (H181.1 1826 35) ≤ 5) (by omega : 0 ≤ (H181.1 1826 32) ∧ (H181.1 1826 32) ≤ 1000) (agp_1845 (agp_a ha184 (by decide)) (by omega : (H.1 1826 19) ≤ ((l : Nat) : Int))) (by omega : (H181.1 1826 35) = 0) (by omega : ((l) : Int) = (H.1 1826 19) ∧ (H.1 1826 19) ≤ 15) (by omega : (H181.1 1826 1) = (H.1 1826 1) ∧ (H181.1 1826 3) = (H.1 1826 3) ∧ (H181.1 1826 8) = (H.1 1826 8) ∧ (H181.1 1826 13) = (H.1 1826 13) ∧ (H181.1 1826 19) = (H.1 1826 19)) hs3 hs2 (show up (H181.1 1845) l ((H181.1 1826 39)) l = _ by rw [up_eq]; omega) (by omega : (H181.1 1826 39) = (((H181.1 1826 39)).toNat) ∧ (((H181.1 1826 39)).toNat) ≤ 6) hvt9 (by omega) (fun x hx => absurd hx (Nat.not_lt_zero _)) ⟨X7, hq7, RK_fr hR7 (fr_a (fr_a (fr_rf [] [1844, 1845] H181) (by decide)) (by decide)) (by decide) (by decide), hln⟩ (Nat.lt_succ_self _)
                  · skip
                    clear hx160k
                    clear hx160w
                    refine h_run 7 (pc' := 186) (l' := [(0, .inr (.inr 1826)), (1, .inl (l : Int)), (2, .inl hx100r), (3, .inl hx160r)]) (st' := [.inl ((2 * (l : Int)) + 1), .inr (.inr 1826)]) rfl ?_
                    have g234 : -2147483648 ≤ (H160.1 1826 43) ∧ (H160.1 1826 43) ≤ 2147483647 := hrg173.1 1826 13 43 _ .int rfl rfl
                    have g235 : -2147483648 ≤ (H160.1 1826 19) ∧ (H160.1 1826 19) ≤ 2147483647 := hrg173.1 1826 13 19 _ .int rfl rfl
                    have e236 : (H160.1 1826 19) = (H134.1 1826 19) := hx160f.2.2 19 (by decide)
                    rw [show ((2 * (l : Int)) + 1) = ((2 * l + 1 : Nat) : Int) by omega]
                    refine h_cv (i := 390) (j := 188) (b := 1826) (M' := mt_188) (xs := [.inl ((2 * l + 1 : Nat) : Int)]) (rest := []) rfl rfl rfl rfl rfl rfl (Nat.le_of_ble_eq_true rfl) (Nat.le_of_ble_eq_true rfl) (by omega) (m_keepSide (by omega) (s := 2 * l + 1) (by omega : 2 * (H160.1 1826 19) ≤ ((2 * l + 1 : Nat) : Int) ∧ 2 * l + 1 ≤ 31) (by omega : (H160.1 1826 35) = 0 → 0 ≤ (H160.1 1826 43) ∧ (H160.1 1826 43) ≤ 40)) ?_
                    rintro _ H237 ⟨rfl, hx237f, hx237g, hx237z, hx237b, hx237c⟩
                    refine h_rng (fun hrg238 => ?_)
                    have hf239 : fr [30, 31, 32, 33, 35, 36, 19, 39, 40, 41, 43, 44, 47] [1841, 1842, 1843, 1844, 1845, 1846, 1847, 1849, 1850, 1851, 1852, 1853, 1854] H H237 := fr_t hf174 hx237f (by decide) (by decide)
                    have ha240 : agp H H237 := agp_tr ha175 hx237g
                    replace hx237c : hid _ := hx237c
                    refine h_run 0 (pc' := 189) (l' := [(0, .inr (.inr 1826)), (1, .inl (l : Int)), (2, .inl hx100r), (3, .inl hx160r)]) (st' := []) rfl ?_
                    have hx237n : GB Y m c0 H237 False := Or.inr ⟨(by omega : (H237.1 1826 35) ≠ 0), BD_fr (BD_fr (GB_b hx160n (by omega)) (fr_rf [] [] H160) (by decide) (by decide)) hx237f (by decide) (by decide)⟩
                    refine h_run 1 (pc' := 190) (l' := [(0, .inr (.inr 1826)), (1, .inl (l : Int)), (2, .inl hx100r), (3, .inl hx160r)]) (st' := [.inr (.inr 1826)]) rfl ?_
                    have g241 : -2147483648 ≤ (H237.1 1826 35) ∧ (H237.1 1826 35) ≤ 2147483647 := hrg238.1 1826 13 35 _ .int rfl rfl
                    have e242 : (H237.1 1826 35) = (H160.1 1826 35) := hx237f.2.2 35 (by decide)
                    refine h_cv (i := 293) (j := 158) (b := 1826) (M' := mt_158) (xs := []) (rest := []) rfl rfl rfl rfl rfl rfl (Nat.le_of_ble_eq_true rfl) (Nat.le_of_ble_eq_true rfl) (by omega) (m_good0 (by omega) (by omega : (H237.1 1826 35) ≠ 0)) ?_
                    rintro _ _ ⟨rfl, rfl⟩
                    refine h_run 0 (pc' := 193) (l' := [(0, .inr (.inr 1826)), (1, .inl (l : Int)), (2, .inl hx100r), (3, .inl hx160r)]) (st' := [.inl 0]) rfl ?_
                    refine h_zeq (off := 83) (t := 276) rfl rfl (by decide) (fun _ => ?_) (fun c => absurd c (by decide))
                    refine h_ret rfl rfl ?_
                    have g243 : -2147483648 ≤ (H237.1 1826 30) ∧ (H237.1 1826 30) ≤ 2147483647 := hrg238.1 1826 13 30 _ .int rfl rfl
                    have e244 : (H237.1 1826 30) = (H160.1 1826 30) := hx237f.2.2 30 (by decide)
                    have g245 : -2147483648 ≤ (H237.1 1826 32) ∧ (H237.1 1826 32) ≤ 2147483647 := hrg238.1 1826 13 32 _ .int rfl rfl
                    have e246 : (H237.1 1826 32) = (H160.1 1826 32) := hx237f.2.2 32 (by decide)
                    have g247 : -2147483648 ≤ (H237.1 1826 31) ∧ (H237.1 1826 31) ≤ 2147483647 := hrg238.1 1826 13 31 _ .int rfl rfl
                    have e248 : (H237.1 1826 31) = (H160.1 1826 31) := hx237f.2.2 31 (by decide)
                    have g249 : -2147483648 ≤ (H237.1 1826 29) ∧ (H237.1 1826 29) ≤ 2147483647 := hrg238.1 1826 13 29 _ .int rfl rfl
                    have e250 : (H237.1 1826 29) = (H160.1 1826 29) := hx237f.2.2 29 (by decide)
                    have e251 : (H160.1 1826 29) = (H134.1 1826 29) := hx160f.2.2 29 (by decide)
                    have g252 : -2147483648 ≤ (H237.1 1826 1) ∧ (H237.1 1826 1) ≤ 2147483647 := hrg238.1 1826 13 1 _ .int rfl rfl
                    have e253 : (H237.1 1826 1) = (H160.1 1826 1) := hx237f.2.2 1 (by decide)
                    have e254 : (H160.1 1826 1) = (H134.1 1826 1) := hx160f.2.2 1 (by decide)
                    have g255 : -2147483648 ≤ (H237.1 1826 3) ∧ (H237.1 1826 3) ≤ 2147483647 := hrg238.1 1826 13 3 _ .int rfl rfl
                    have e256 : (H237.1 1826 3) = (H160.1 1826 3) := hx237f.2.2 3 (by decide)
                    have e257 : (H160.1 1826 3) = (H134.1 1826 3) := hx160f.2.2 3 (by decide)
                    have g258 : -2147483648 ≤ (H237.1 1826 8) ∧ (H237.1 1826 8) ≤ 2147483647 := hrg238.1 1826 13 8 _ .int rfl rfl
                    have e259 : (H237.1 1826 8) = (H160.1 1826 8) := hx237f.2.2 8 (by decide)
                    have e260 : (H160.1 1826 8) = (H134.1 1826 8) := hx160f.2.2 8 (by decide)
                    have g261 : -2147483648 ≤ (H237.1 1826 13) ∧ (H237.1 1826 13) ≤ 2147483647 := hrg238.1 1826 13 13 _ .int rfl rfl
                    have e262 : (H237.1 1826 13) = (H160.1 1826 13) := hx237f.2.2 13 (by decide)
                    have e263 : (H160.1 1826 13) = (H134.1 1826 13) := hx160f.2.2 13 (by decide)
                    have g264 : -2147483648 ≤ (H237.1 1826 19) ∧ (H237.1 1826 19) ≤ 2147483647 := hrg238.1 1826 13 19 _ .int rfl rfl
                    have e265 : (H237.1 1826 19) = (H160.1 1826 19) := hx237f.2.2 19 (by decide)
                    have g266 : -2147483648 ≤ (H237.1 1826 39) ∧ (H237.1 1826 39) ≤ 2147483647 := hrg238.1 1826 13 39 _ .int rfl rfl
                    have e267 : (H237.1 1826 39) = (H160.1 1826 39) := hx237f.2.2 39 (by decide)
                    exact ⟨rfl, (Or.inr ⟨(by omega : (H237.1 1826 35) ≠ 0), GB_b hx237n (by omega)⟩), hf239, (by omega : (H.1 1826 30) ≤ (H237.1 1826 30) ∧ (H237.1 1826 30) ≤ (H.1 1826 29)), (by omega : 0 ≤ (H237.1 1826 35) ∧ (H237.1 1826 35) ≤ 5), (by omega : (H.1 1826 35) ≠ 0 → (H237.1 1826 35) ≠ 0), (by omega : 0 ≤ (H237.1 1826 32) ∧ (H237.1 1826 32) ≤ 1000), ha240, (fun (q : (H237.1 1826 35) = 0) => absurd q (by omega))⟩
                · skip
                  clear hx134g
                  refine h_run 2 (pc' := 150) (l' := [(0, .inr (.inr 1826)), (1, .inl (l : Int)), (2, .inl hx100r)]) (st' := [.inl 0, .inr (.inr 1826)]) rfl ?_
                  refine h_puti (i := 300) (ci := 13) (k := 40) (a := 1826) (x := 0) rfl rfl rfl rfl rfl rfl (by decide) (by decide) ?_
                  refine h_run 2 (pc' := 155) (l' := [(0, .inr (.inr 1826)), (1, .inl (l : Int)), (2, .inl hx100r)]) (st' := [.inl 0, .inr (.inr 1826)]) rfl ?_
                  refine h_puti (i := 335) (ci := 13) (k := 41) (a := 1826) (x := 0) rfl rfl rfl rfl rfl rfl (by decide) (by decide) ?_
                  refine h_run 2 (pc' := 160) (l' := [(0, .inr (.inr 1826)), (1, .inl (l : Int)), (2, .inl hx100r)]) (st' := [.inl 0, .inr (.inr 1826)]) rfl ?_
                  refine h_puti (i := 303) (ci := 13) (k := 43) (a := 1826) (x := 0) rfl rfl rfl rfl rfl rfl (by decide) (by decide) ?_
                  refine h_run 1 (pc' := 164) (l' := [(0, .inr (.inr 1826)), (1, .inl (l : Int)), (2, .inl hx100r)]) (st' := [.inr (.inr 1826)]) rfl ?_
                  refine h_cv (i := 293) (j := 158) (b := 1826) (M' := mt_158) (xs := []) (rest := []) rfl rfl rfl rfl rfl rfl (Nat.le_of_ble_eq_true rfl) (Nat.le_of_ble_eq_true rfl) (by omega) (m_good0 (by omega) (by omega : (H134.1 1826 35) ≠ 0)) ?_
                  rintro _ _ ⟨rfl, rfl⟩
                  refine h_run 0 (pc' := 167) (l' := [(0, .inr (.inr 1826)), (1, .inl (l : Int)), (2, .inl hx100r)]) (st' := [.inl 0]) rfl ?_
                  refine h_zeq (off := 11) (t := 178) rfl rfl (by decide) (fun _ => ?_) (fun c => absurd c (by decide))
                  refine h_run 1 (pc' := 179) (l' := [(0, .inr (.inr 1826)), (1, .inl (l : Int)), (2, .inl hx100r)]) (st' := [.inl (-1)]) rfl ?_
                  refine h_run 7 (pc' := 186) (l' := [(0, .inr (.inr 1826)), (1, .inl (l : Int)), (2, .inl hx100r), (3, .inl (-1))]) (st' := [.inl ((2 * (l : Int)) + 1), .inr (.inr 1826)]) rfl ?_
                  have g268 : -2147483648 ≤ (H134.1 1826 19) ∧ (H134.1 1826 19) ≤ 2147483647 := hrg137.1 1826 13 19 _ .int rfl rfl
                  have e269 : (H134.1 1826 19) = (H121.1 1826 19) := hx134f.2.2 19 (by decide)
                  have e270 : (H121.1 1826 19) = (H100.1 1826 19) := hx121f.2.2 19 (by decide)
                  rw [show ((2 * (l : Int)) + 1) = ((2 * l + 1 : Nat) : Int) by omega]
                  refine h_cv (i := 390) (j := 188) (b := 1826) (M' := mt_188) (xs := [.inl ((2 * l + 1 : Nat) : Int)]) (rest := []) rfl rfl rfl rfl rfl rfl (Nat.le_of_ble_eq_true rfl) (Nat.le_of_ble_eq_true rfl) (by omega) (m_keepSide (by omega) (s := 2 * l + 1) (by omega : 2 * (H134.1 1826 19) ≤ ((2 * l + 1 : Nat) : Int) ∧ 2 * l + 1 ≤ 31) (by omega : (H134.1 1826 35) = 0 → 0 ≤ (0 : Int) ∧ (0 : Int) ≤ 40)) ?_
                  rintro _ H271 ⟨rfl, hx271f, hx271g, hx271z, hx271b, hx271c⟩
                  refine h_rng (fun hrg272 => ?_)
                  have hf273 : fr [30, 31, 32, 33, 35, 36, 19, 39, 40, 41, 43, 44, 47] [1841, 1842, 1843, 1844, 1845, 1846, 1847, 1849, 1850, 1851, 1852, 1853, 1854] H H271 := fr_t (fr_o (fr_o (fr_o hf138 (by decide)) (by decide)) (by decide)) hx271f (by decide) (by decide)
                  have ha274 : agp H H271 := agp_tr (agp_o (agp_o (agp_o ha139 (by decide)) (by decide)) (by decide)) hx271g
                  replace hx271c : hid _ := hx271c
                  refine h_run 0 (pc' := 189) (l' := [(0, .inr (.inr 1826)), (1, .inl (l : Int)), (2, .inl hx100r), (3, .inl (-1))]) (st' := []) rfl ?_
                  have hx271n : GB Y m c0 H271 False := Or.inr ⟨(by omega : (H271.1 1826 35) ≠ 0), BD_fr (BD_fr (GB_b hx134n (by omega)) (fr_o (fr_o (fr_o (fr_rf [40, 41, 43] [] H134) (by decide)) (by decide)) (by decide)) (by decide) (by decide)) hx271f (by decide) (by decide)⟩
                  refine h_run 1 (pc' := 190) (l' := [(0, .inr (.inr 1826)), (1, .inl (l : Int)), (2, .inl hx100r), (3, .inl (-1))]) (st' := [.inr (.inr 1826)]) rfl ?_
                  have g275 : -2147483648 ≤ (H271.1 1826 35) ∧ (H271.1 1826 35) ≤ 2147483647 := hrg272.1 1826 13 35 _ .int rfl rfl
                  have e276 : (H271.1 1826 35) = (H134.1 1826 35) := hx271f.2.2 35 (by decide)
                  refine h_cv (i := 293) (j := 158) (b := 1826) (M' := mt_158) (xs := []) (rest := []) rfl rfl rfl rfl rfl rfl (Nat.le_of_ble_eq_true rfl) (Nat.le_of_ble_eq_true rfl) (by omega) (m_good0 (by omega) (by omega : (H271.1 1826 35) ≠ 0)) ?_
                  rintro _ _ ⟨rfl, rfl⟩
                  refine h_run 0 (pc' := 193) (l' := [(0, .inr (.inr 1826)), (1, .inl (l : Int)), (2, .inl hx100r), (3, .inl (-1))]) (st' := [.inl 0]) rfl ?_
                  refine h_zeq (off := 83) (t := 276) rfl rfl (by decide) (fun _ => ?_) (fun c => absurd c (by decide))
                  refine h_ret rfl rfl ?_
                  have g277 : -2147483648 ≤ (H271.1 1826 30) ∧ (H271.1 1826 30) ≤ 2147483647 := hrg272.1 1826 13 30 _ .int rfl rfl
                  have e278 : (H271.1 1826 30) = (H134.1 1826 30) := hx271f.2.2 30 (by decide)
                  have g279 : -2147483648 ≤ (H271.1 1826 32) ∧ (H271.1 1826 32) ≤ 2147483647 := hrg272.1 1826 13 32 _ .int rfl rfl
                  have e280 : (H271.1 1826 32) = (H134.1 1826 32) := hx271f.2.2 32 (by decide)
                  have g281 : -2147483648 ≤ (H271.1 1826 31) ∧ (H271.1 1826 31) ≤ 2147483647 := hrg272.1 1826 13 31 _ .int rfl rfl
                  have e282 : (H271.1 1826 31) = (H134.1 1826 31) := hx271f.2.2 31 (by decide)
                  have g283 : -2147483648 ≤ (H271.1 1826 29) ∧ (H271.1 1826 29) ≤ 2147483647 := hrg272.1 1826 13 29 _ .int rfl rfl
                  have e284 : (H271.1 1826 29) = (H134.1 1826 29) := hx271f.2.2 29 (by decide)
                  have e285 : (H134.1 1826 29) = (H121.1 1826 29) := hx134f.2.2 29 (by decide)
                  have g286 : -2147483648 ≤ (H271.1 1826 1) ∧ (H271.1 1826 1) ≤ 2147483647 := hrg272.1 1826 13 1 _ .int rfl rfl
                  have e287 : (H271.1 1826 1) = (H134.1 1826 1) := hx271f.2.2 1 (by decide)
                  have e288 : (H134.1 1826 1) = (H121.1 1826 1) := hx134f.2.2 1 (by decide)
                  have e289 : (H121.1 1826 1) = (H100.1 1826 1) := hx121f.2.2 1 (by decide)
                  have e290 : (H100.1 1826 1) = (H82.1 1826 1) := hx100f.2.2 1 (by decide)
                  have g291 : -2147483648 ≤ (H271.1 1826 3) ∧ (H271.1 1826 3) ≤ 2147483647 := hrg272.1 1826 13 3 _ .int rfl rfl
                  have e292 : (H271.1 1826 3) = (H134.1 1826 3) := hx271f.2.2 3 (by decide)
                  have e293 : (H134.1 1826 3) = (H121.1 1826 3) := hx134f.2.2 3 (by decide)
                  have e294 : (H121.1 1826 3) = (H100.1 1826 3) := hx121f.2.2 3 (by decide)
                  have e295 : (H100.1 1826 3) = (H82.1 1826 3) := hx100f.2.2 3 (by decide)
                  have g296 : -2147483648 ≤ (H271.1 1826 8) ∧ (H271.1 1826 8) ≤ 2147483647 := hrg272.1 1826 13 8 _ .int rfl rfl
                  have e297 : (H271.1 1826 8) = (H134.1 1826 8) := hx271f.2.2 8 (by decide)
                  have e298 : (H134.1 1826 8) = (H121.1 1826 8) := hx134f.2.2 8 (by decide)
                  have e299 : (H121.1 1826 8) = (H100.1 1826 8) := hx121f.2.2 8 (by decide)
                  have e300 : (H100.1 1826 8) = (H82.1 1826 8) := hx100f.2.2 8 (by decide)
                  have g301 : -2147483648 ≤ (H271.1 1826 13) ∧ (H271.1 1826 13) ≤ 2147483647 := hrg272.1 1826 13 13 _ .int rfl rfl
                  have e302 : (H271.1 1826 13) = (H134.1 1826 13) := hx271f.2.2 13 (by decide)
                  have e303 : (H134.1 1826 13) = (H121.1 1826 13) := hx134f.2.2 13 (by decide)
                  have e304 : (H121.1 1826 13) = (H100.1 1826 13) := hx121f.2.2 13 (by decide)
                  have e305 : (H100.1 1826 13) = (H82.1 1826 13) := hx100f.2.2 13 (by decide)
                  have g306 : -2147483648 ≤ (H271.1 1826 19) ∧ (H271.1 1826 19) ≤ 2147483647 := hrg272.1 1826 13 19 _ .int rfl rfl
                  have e307 : (H271.1 1826 19) = (H134.1 1826 19) := hx271f.2.2 19 (by decide)
                  have g308 : -2147483648 ≤ (H271.1 1826 39) ∧ (H271.1 1826 39) ≤ 2147483647 := hrg272.1 1826 13 39 _ .int rfl rfl
                  have e309 : (H271.1 1826 39) = (H134.1 1826 39) := hx271f.2.2 39 (by decide)
                  have e310 : (H134.1 1826 39) = (H121.1 1826 39) := hx134f.2.2 39 (by decide)
                  have e311 : (H121.1 1826 39) = (H100.1 1826 39) := hx121f.2.2 39 (by decide)
                  exact ⟨rfl, (Or.inr ⟨(by omega : (H271.1 1826 35) ≠ 0), GB_b hx271n (by omega)⟩), hf273, (by omega : (H.1 1826 30) ≤ (H271.1 1826 30) ∧ (H271.1 1826 30) ≤ (H.1 1826 29)), (by omega : 0 ≤ (H271.1 1826 35) ∧ (H271.1 1826 35) ≤ 5), (by omega : (H.1 1826 35) ≠ 0 → (H271.1 1826 35) ≠ 0), (by omega : 0 ≤ (H271.1 1826 32) ∧ (H271.1 1826 32) ≤ 1000), ha274, (fun (q : (H271.1 1826 35) = 0) => absurd q (by omega))⟩
              · skip
                clear hx100k
                clear hx100w
                refine h_run 1 (pc' := 135) (l' := [(0, .inr (.inr 1826)), (1, .inl (l : Int)), (2, .inl hx100r)]) (st' := []) rfl ?_
                skip
                refine h_run 4 (pc' := 139) (l' := [(0, .inr (.inr 1826)), (1, .inl (l : Int)), (2, .inl hx100r)]) (st' := [.inl (2 * (l : Int)), .inr (.inr 1826)]) rfl ?_
                have g312 : -2147483648 ≤ (H100.1 1826 43) ∧ (H100.1 1826 43) ≤ 2147483647 := hrg113.1 1826 13 43 _ .int rfl rfl
                have g313 : -2147483648 ≤ (H100.1 1826 19) ∧ (H100.1 1826 19) ≤ 2147483647 := hrg113.1 1826 13 19 _ .int rfl rfl
                have e314 : (H100.1 1826 19) = (H82.1 1826 19) := hx100f.2.2 19 (by decide)
                rw [show (2 * (l : Int)) = ((2 * l : Nat) : Int) by omega]
                refine h_cv (i := 390) (j := 188) (b := 1826) (M' := mt_188) (xs := [.inl ((2 * l : Nat) : Int)]) (rest := []) rfl rfl rfl rfl rfl rfl (Nat.le_of_ble_eq_true rfl) (Nat.le_of_ble_eq_true rfl) (by omega) (m_keepSide (by omega) (s := 2 * l) (by omega : 2 * (H100.1 1826 19) ≤ ((2 * l : Nat) : Int) ∧ 2 * l ≤ 31) (by omega : (H100.1 1826 35) = 0 → 0 ≤ (H100.1 1826 43) ∧ (H100.1 1826 43) ≤ 40)) ?_
                rintro _ H315 ⟨rfl, hx315f, hx315g, hx315z, hx315b, hx315c⟩
                refine h_rng (fun hrg316 => ?_)
                have hf317 : fr [30, 31, 32, 33, 35, 36, 19, 39, 40, 41, 43, 44, 47] [1841, 1842, 1843, 1844, 1845, 1846, 1847, 1849, 1850, 1851, 1852, 1853, 1854] H H315 := fr_t hf114 hx315f (by decide) (by decide)
                have ha318 : agp H H315 := agp_tr ha115 hx315g
                replace hx315c : hid _ := hx315c
                refine h_run 0 (pc' := 142) (l' := [(0, .inr (.inr 1826)), (1, .inl (l : Int)), (2, .inl hx100r)]) (st' := []) rfl ?_
                have hx315n : GB Y m c0 H315 False := Or.inr ⟨(by omega : (H315.1 1826 35) ≠ 0), BD_fr (BD_fr (GB_b hx100n (by omega)) (fr_rf [] [] H100) (by decide) (by decide)) hx315f (by decide) (by decide)⟩
                refine h_run 2 (pc' := 145) (l' := [(0, .inr (.inr 1826)), (1, .inl (l : Int)), (2, .inl hx100r)]) (st' := [.inl 61, .inr (.inr 1826)]) rfl ?_
                have g319 : -2147483648 ≤ (H315.1 1826 35) ∧ (H315.1 1826 35) ≤ 2147483647 := hrg316.1 1826 13 35 _ .int rfl rfl
                have e320 : (H315.1 1826 35) = (H100.1 1826 35) := hx315f.2.2 35 (by decide)
                refine h_cv (i := 313) (j := 166) (b := 1826) (M' := mt_166) (xs := [.inl 61]) (rest := []) rfl rfl rfl rfl rfl rfl (Nat.le_of_ble_eq_true rfl) (Nat.le_of_ble_eq_true rfl) (by omega) (n_want0 (by omega) (by omega : (H315.1 1826 35) ≠ 0)) ?_
                rintro _ _ ⟨rfl, rfl⟩
                refine h_run 0 (pc' := 148) (l' := [(0, .inr (.inr 1826)), (1, .inl (l : Int)), (2, .inl hx100r)]) (st' := []) rfl ?_
                refine h_run 2 (pc' := 150) (l' := [(0, .inr (.inr 1826)), (1, .inl (l : Int)), (2, .inl hx100r)]) (st' := [.inl 0, .inr (.inr 1826)]) rfl ?_
                refine h_puti (i := 300) (ci := 13) (k := 40) (a := 1826) (x := 0) rfl rfl rfl rfl rfl rfl (by decide) (by decide) ?_
                refine h_run 2 (pc' := 155) (l' := [(0, .inr (.inr 1826)), (1, .inl (l : Int)), (2, .inl hx100r)]) (st' := [.inl 0, .inr (.inr 1826)]) rfl ?_
                refine h_puti (i := 335) (ci := 13) (k := 41) (a := 1826) (x := 0) rfl rfl rfl rfl rfl rfl (by decide) (by decide) ?_
                refine h_run 2 (pc' := 160) (l' := [(0, .inr (.inr 1826)), (1, .inl (l : Int)), (2, .inl hx100r)]) (st' := [.inl 0, .inr (.inr 1826)]) rfl ?_
                refine h_puti (i := 303) (ci := 13) (k := 43) (a := 1826) (x := 0) rfl rfl rfl rfl rfl rfl (by decide) (by decide) ?_
                refine h_run 1 (pc' := 164) (l' := [(0, .inr (.inr 1826)), (1, .inl (l : Int)), (2, .inl hx100r)]) (st' := [.inr (.inr 1826)]) rfl ?_
                refine h_cv (i := 293) (j := 158) (b := 1826) (M' := mt_158) (xs := []) (rest := []) rfl rfl rfl rfl rfl rfl (Nat.le_of_ble_eq_true rfl) (Nat.le_of_ble_eq_true rfl) (by omega) (m_good0 (by omega) (by omega : (H315.1 1826 35) ≠ 0)) ?_
                rintro _ _ ⟨rfl, rfl⟩
                refine h_run 0 (pc' := 167) (l' := [(0, .inr (.inr 1826)), (1, .inl (l : Int)), (2, .inl hx100r)]) (st' := [.inl 0]) rfl ?_
                refine h_zeq (off := 11) (t := 178) rfl rfl (by decide) (fun _ => ?_) (fun c => absurd c (by decide))
                refine h_run 1 (pc' := 179) (l' := [(0, .inr (.inr 1826)), (1, .inl (l : Int)), (2, .inl hx100r)]) (st' := [.inl (-1)]) rfl ?_
                refine h_run 7 (pc' := 186) (l' := [(0, .inr (.inr 1826)), (1, .inl (l : Int)), (2, .inl hx100r), (3, .inl (-1))]) (st' := [.inl ((2 * (l : Int)) + 1), .inr (.inr 1826)]) rfl ?_
                have g321 : -2147483648 ≤ (H315.1 1826 19) ∧ (H315.1 1826 19) ≤ 2147483647 := hrg316.1 1826 13 19 _ .int rfl rfl
                have e322 : (H315.1 1826 19) = (H100.1 1826 19) := hx315f.2.2 19 (by decide)
                rw [show ((2 * (l : Int)) + 1) = ((2 * l + 1 : Nat) : Int) by omega]
                refine h_cv (i := 390) (j := 188) (b := 1826) (M' := mt_188) (xs := [.inl ((2 * l + 1 : Nat) : Int)]) (rest := []) rfl rfl rfl rfl rfl rfl (Nat.le_of_ble_eq_true rfl) (Nat.le_of_ble_eq_true rfl) (by omega) (m_keepSide (by omega) (s := 2 * l + 1) (by omega : 2 * (H315.1 1826 19) ≤ ((2 * l + 1 : Nat) : Int) ∧ 2 * l + 1 ≤ 31) (by omega : (H315.1 1826 35) = 0 → 0 ≤ (0 : Int) ∧ (0 : Int) ≤ 40)) ?_
                rintro _ H323 ⟨rfl, hx323f, hx323g, hx323z, hx323b, hx323c⟩
                refine h_rng (fun hrg324 => ?_)
                have hf325 : fr [30, 31, 32, 33, 35, 36, 19, 39, 40, 41, 43, 44, 47] [1841, 1842, 1843, 1844, 1845, 1846, 1847, 1849, 1850, 1851, 1852, 1853, 1854] H H323 := fr_t (fr_o (fr_o (fr_o hf317 (by decide)) (by decide)) (by decide)) hx323f (by decide) (by decide)
                have ha326 : agp H H323 := agp_tr (agp_o (agp_o (agp_o ha318 (by decide)) (by decide)) (by decide)) hx323g
                replace hx323c : hid _ := hx323c
                refine h_run 0 (pc' := 189) (l' := [(0, .inr (.inr 1826)), (1, .inl (l : Int)), (2, .inl hx100r), (3, .inl (-1))]) (st' := []) rfl ?_
                have hx323n : GB Y m c0 H323 False := Or.inr ⟨(by omega : (H323.1 1826 35) ≠ 0), BD_fr (BD_fr (GB_b hx315n (by omega)) (fr_o (fr_o (fr_o (fr_rf [40, 41, 43] [] H315) (by decide)) (by decide)) (by decide)) (by decide) (by decide)) hx323f (by decide) (by decide)⟩
                refine h_run 1 (pc' := 190) (l' := [(0, .inr (.inr 1826)), (1, .inl (l : Int)), (2, .inl hx100r), (3, .inl (-1))]) (st' := [.inr (.inr 1826)]) rfl ?_
                have g327 : -2147483648 ≤ (H323.1 1826 35) ∧ (H323.1 1826 35) ≤ 2147483647 := hrg324.1 1826 13 35 _ .int rfl rfl
                have e328 : (H323.1 1826 35) = (H315.1 1826 35) := hx323f.2.2 35 (by decide)
                refine h_cv (i := 293) (j := 158) (b := 1826) (M' := mt_158) (xs := []) (rest := []) rfl rfl rfl rfl rfl rfl (Nat.le_of_ble_eq_true rfl) (Nat.le_of_ble_eq_true rfl) (by omega) (m_good0 (by omega) (by omega : (H323.1 1826 35) ≠ 0)) ?_
                rintro _ _ ⟨rfl, rfl⟩
                refine h_run 0 (pc' := 193) (l' := [(0, .inr (.inr 1826)), (1, .inl (l : Int)), (2, .inl hx100r), (3, .inl (-1))]) (st' := [.inl 0]) rfl ?_
                refine h_zeq (off := 83) (t := 276) rfl rfl (by decide) (fun _ => ?_) (fun c => absurd c (by decide))
                refine h_ret rfl rfl ?_
                have g329 : -2147483648 ≤ (H323.1 1826 30) ∧ (H323.1 1826 30) ≤ 2147483647 := hrg324.1 1826 13 30 _ .int rfl rfl
                have e330 : (H323.1 1826 30) = (H315.1 1826 30) := hx323f.2.2 30 (by decide)
                have e331 : (H315.1 1826 30) = (H100.1 1826 30) := hx315f.2.2 30 (by decide)
                have g332 : -2147483648 ≤ (H323.1 1826 32) ∧ (H323.1 1826 32) ≤ 2147483647 := hrg324.1 1826 13 32 _ .int rfl rfl
                have e333 : (H323.1 1826 32) = (H315.1 1826 32) := hx323f.2.2 32 (by decide)
                have e334 : (H315.1 1826 32) = (H100.1 1826 32) := hx315f.2.2 32 (by decide)
                have g335 : -2147483648 ≤ (H323.1 1826 31) ∧ (H323.1 1826 31) ≤ 2147483647 := hrg324.1 1826 13 31 _ .int rfl rfl
                have e336 : (H323.1 1826 31) = (H315.1 1826 31) := hx323f.2.2 31 (by decide)
                have e337 : (H315.1 1826 31) = (H100.1 1826 31) := hx315f.2.2 31 (by decide)
                have g338 : -2147483648 ≤ (H323.1 1826 29) ∧ (H323.1 1826 29) ≤ 2147483647 := hrg324.1 1826 13 29 _ .int rfl rfl
                have e339 : (H323.1 1826 29) = (H315.1 1826 29) := hx323f.2.2 29 (by decide)
                have e340 : (H315.1 1826 29) = (H100.1 1826 29) := hx315f.2.2 29 (by decide)
                have e341 : (H100.1 1826 29) = (H82.1 1826 29) := hx100f.2.2 29 (by decide)
                have g342 : -2147483648 ≤ (H323.1 1826 1) ∧ (H323.1 1826 1) ≤ 2147483647 := hrg324.1 1826 13 1 _ .int rfl rfl
                have e343 : (H323.1 1826 1) = (H315.1 1826 1) := hx323f.2.2 1 (by decide)
                have e344 : (H315.1 1826 1) = (H100.1 1826 1) := hx315f.2.2 1 (by decide)
                have e345 : (H100.1 1826 1) = (H82.1 1826 1) := hx100f.2.2 1 (by decide)
                have g346 : -2147483648 ≤ (H323.1 1826 3) ∧ (H323.1 1826 3) ≤ 2147483647 := hrg324.1 1826 13 3 _ .int rfl rfl
                have e347 : (H323.1 1826 3) = (H315.1 1826 3) := hx323f.2.2 3 (by decide)
                have e348 : (H315.1 1826 3) = (H100.1 1826 3) := hx315f.2.2 3 (by decide)
                have e349 : (H100.1 1826 3) = (H82.1 1826 3) := hx100f.2.2 3 (by decide)
                have g350 : -2147483648 ≤ (H323.1 1826 8) ∧ (H323.1 1826 8) ≤ 2147483647 := hrg324.1 1826 13 8 _ .int rfl rfl
                have e351 : (H323.1 1826 8) = (H315.1 1826 8) := hx323f.2.2 8 (by decide)
                have e352 : (H315.1 1826 8) = (H100.1 1826 8) := hx315f.2.2 8 (by decide)
                have e353 : (H100.1 1826 8) = (H82.1 1826 8) := hx100f.2.2 8 (by decide)
                have g354 : -2147483648 ≤ (H323.1 1826 13) ∧ (H323.1 1826 13) ≤ 2147483647 := hrg324.1 1826 13 13 _ .int rfl rfl
                have e355 : (H323.1 1826 13) = (H315.1 1826 13) := hx323f.2.2 13 (by decide)
                have e356 : (H315.1 1826 13) = (H100.1 1826 13) := hx315f.2.2 13 (by decide)
                have e357 : (H100.1 1826 13) = (H82.1 1826 13) := hx100f.2.2 13 (by decide)
                have g358 : -2147483648 ≤ (H323.1 1826 19) ∧ (H323.1 1826 19) ≤ 2147483647 := hrg324.1 1826 13 19 _ .int rfl rfl
                have e359 : (H323.1 1826 19) = (H315.1 1826 19) := hx323f.2.2 19 (by decide)
                have g360 : -2147483648 ≤ (H323.1 1826 39) ∧ (H323.1 1826 39) ≤ 2147483647 := hrg324.1 1826 13 39 _ .int rfl rfl
                have e361 : (H323.1 1826 39) = (H315.1 1826 39) := hx323f.2.2 39 (by decide)
                have e362 : (H315.1 1826 39) = (H100.1 1826 39) := hx315f.2.2 39 (by decide)
                exact ⟨rfl, (Or.inr ⟨(by omega : (H323.1 1826 35) ≠ 0), GB_b hx323n (by omega)⟩), hf325, (by omega : (H.1 1826 30) ≤ (H323.1 1826 30) ∧ (H323.1 1826 30) ≤ (H.1 1826 29)), (by omega : 0 ≤ (H323.1 1826 35) ∧ (H323.1 1826 35) ≤ 5), (by omega : (H.1 1826 35) ≠ 0 → (H323.1 1826 35) ≠ 0), (by omega : 0 ≤ (H323.1 1826 32) ∧ (H323.1 1826 32) ≤ 1000), ha326, (fun (q : (H323.1 1826 35) = 0) => absurd q (by omega))⟩
            · skip
              clear hx82g
              refine h_run 1 (pc' := 110) (l' := [(0, .inr (.inr 1826)), (1, .inl (l : Int))]) (st' := [.inr (.inr 1826)]) rfl ?_
              refine h_cv (i := 379) (j := 185) (b := 1826) (M' := mt_185) (xs := []) (rest := []) rfl rfl rfl rfl rfl rfl (Nat.le_of_ble_eq_true rfl) (Nat.le_of_ble_eq_true rfl) (by omega) (m_beginTerm (by omega)) ?_
              rintro _ _ ⟨rfl, rfl⟩
              refine h_run 0 (pc' := 113) (l' := [(0, .inr (.inr 1826)), (1, .inl (l : Int))]) (st' := []) rfl ?_
              refine h_run 2 (pc' := 115) (l' := [(0, .inr (.inr 1826)), (1, .inl (l : Int))]) (st' := [.inl 2, .inr (.inr 1826)]) rfl ?_
              refine h_puti (i := 367) (ci := 13) (k := 44) (a := 1826) (x := 2) rfl rfl rfl rfl rfl rfl (by decide) (by decide) ?_
              refine h_run 1 (pc' := 119) (l' := [(0, .inr (.inr 1826)), (1, .inl (l : Int))]) (st' := [.inr (.inr 1826)]) rfl ?_
              refine h_cv (i := 293) (j := 158) (b := 1826) (M' := mt_158) (xs := []) (rest := []) rfl rfl rfl rfl rfl rfl (Nat.le_of_ble_eq_true rfl) (Nat.le_of_ble_eq_true rfl) (by omega) (m_good0 (by omega) (by omega : (H82.1 1826 35) ≠ 0)) ?_
              rintro _ _ ⟨rfl, rfl⟩
              refine h_run 0 (pc' := 122) (l' := [(0, .inr (.inr 1826)), (1, .inl (l : Int))]) (st' := [.inl 0]) rfl ?_
              refine h_zeq (off := 11) (t := 133) rfl rfl (by decide) (fun _ => ?_) (fun c => absurd c (by decide))
              refine h_run 1 (pc' := 134) (l' := [(0, .inr (.inr 1826)), (1, .inl (l : Int))]) (st' := [.inl (-1)]) rfl ?_
              refine h_run 1 (pc' := 135) (l' := [(0, .inr (.inr 1826)), (1, .inl (l : Int)), (2, .inl (-1))]) (st' := []) rfl ?_
              skip
              refine h_run 4 (pc' := 139) (l' := [(0, .inr (.inr 1826)), (1, .inl (l : Int)), (2, .inl (-1))]) (st' := [.inl (2 * (l : Int)), .inr (.inr 1826)]) rfl ?_
              have g363 : -2147483648 ≤ (H82.1 1826 19) ∧ (H82.1 1826 19) ≤ 2147483647 := hrg84.1 1826 13 19 _ .int rfl rfl
              have e364 : (H82.1 1826 19) = (H72.1 1826 19) := hx82f.2.2 19 (by decide)
              have e365 : (H72.1 1826 19) = (H39.1 1826 19) := hx72f.2.2 19 (by decide)
              rw [show (2 * (l : Int)) = ((2 * l : Nat) : Int) by omega]
              refine h_cv (i := 390) (j := 188) (b := 1826) (M' := mt_188) (xs := [.inl ((2 * l : Nat) : Int)]) (rest := []) rfl rfl rfl rfl rfl rfl (Nat.le_of_ble_eq_true rfl) (Nat.le_of_ble_eq_true rfl) (by omega) (m_keepSide (by omega) (s := 2 * l) (by omega : 2 * (H82.1 1826 19) ≤ ((2 * l : Nat) : Int) ∧ 2 * l ≤ 31) (by omega : (H82.1 1826 35) = 0 → 0 ≤ (0 : Int) ∧ (0 : Int) ≤ 40)) ?_
              rintro _ H366 ⟨rfl, hx366f, hx366g, hx366z, hx366b, hx366c⟩
              refine h_rng (fun hrg367 => ?_)
              have hf368 : fr [30, 31, 32, 33, 35, 36, 19, 39, 40, 41, 43, 44, 47] [1841, 1842, 1843, 1844, 1845, 1846, 1847, 1849, 1850, 1851, 1852, 1853, 1854] H H366 := fr_t (fr_o (fr_o (fr_o (fr_o (fr_o hf85 (by decide)) (by decide)) (by decide)) (by decide)) (by decide)) hx366f (by decide) (by decide)
              have ha369 : agp H H366 := agp_tr (agp_o (agp_o (agp_o (agp_o (agp_o ha86 (by decide)) (by decide)) (by decide)) (by decide)) (by decide)) hx366g
              replace hx366c : hid _ := hx366c
              refine h_run 0 (pc' := 142) (l' := [(0, .inr (.inr 1826)), (1, .inl (l : Int)), (2, .inl (-1))]) (st' := []) rfl ?_
              have hx366n : GB Y m c0 H366 False := Or.inr ⟨(by omega : (H366.1 1826 35) ≠ 0), BD_fr (BD_fr (GB_b hx82n (by omega)) (fr_o (fr_o (fr_o (fr_o (fr_o (fr_rf [39, 40, 41, 43, 44] [] H82) (by decide)) (by decide)) (by decide)) (by decide)) (by decide)) (by decide) (by decide)) hx366f (by decide) (by decide)⟩
              refine h_run 2 (pc' := 145) (l' := [(0, .inr (.inr 1826)), (1, .inl (l : Int)), (2, .inl (-1))]) (st' := [.inl 61, .inr (.inr 1826)]) rfl ?_
              have g370 : -2147483648 ≤ (H366.1 1826 35) ∧ (H366.1 1826 35) ≤ 2147483647 := hrg367.1 1826 13 35 _ .int rfl rfl
              have e371 : (H366.1 1826 35) = (H82.1 1826 35) := hx366f.2.2 35 (by decide)
              refine h_cv (i := 313) (j := 166) (b := 1826) (M' := mt_166) (xs := [.inl 61]) (rest := []) rfl rfl rfl rfl rfl rfl (Nat.le_of_ble_eq_true rfl) (Nat.le_of_ble_eq_true rfl) (by omega) (n_want0 (by omega) (by omega : (H366.1 1826 35) ≠ 0)) ?_
              rintro _ _ ⟨rfl, rfl⟩
              refine h_run 0 (pc' := 148) (l' := [(0, .inr (.inr 1826)), (1, .inl (l : Int)), (2, .inl (-1))]) (st' := []) rfl ?_
              refine h_run 2 (pc' := 150) (l' := [(0, .inr (.inr 1826)), (1, .inl (l : Int)), (2, .inl (-1))]) (st' := [.inl 0, .inr (.inr 1826)]) rfl ?_
              refine h_puti (i := 300) (ci := 13) (k := 40) (a := 1826) (x := 0) rfl rfl rfl rfl rfl rfl (by decide) (by decide) ?_
              refine h_run 2 (pc' := 155) (l' := [(0, .inr (.inr 1826)), (1, .inl (l : Int)), (2, .inl (-1))]) (st' := [.inl 0, .inr (.inr 1826)]) rfl ?_
              refine h_puti (i := 335) (ci := 13) (k := 41) (a := 1826) (x := 0) rfl rfl rfl rfl rfl rfl (by decide) (by decide) ?_
              refine h_run 2 (pc' := 160) (l' := [(0, .inr (.inr 1826)), (1, .inl (l : Int)), (2, .inl (-1))]) (st' := [.inl 0, .inr (.inr 1826)]) rfl ?_
              refine h_puti (i := 303) (ci := 13) (k := 43) (a := 1826) (x := 0) rfl rfl rfl rfl rfl rfl (by decide) (by decide) ?_
              refine h_run 1 (pc' := 164) (l' := [(0, .inr (.inr 1826)), (1, .inl (l : Int)), (2, .inl (-1))]) (st' := [.inr (.inr 1826)]) rfl ?_
              refine h_cv (i := 293) (j := 158) (b := 1826) (M' := mt_158) (xs := []) (rest := []) rfl rfl rfl rfl rfl rfl (Nat.le_of_ble_eq_true rfl) (Nat.le_of_ble_eq_true rfl) (by omega) (m_good0 (by omega) (by omega : (H366.1 1826 35) ≠ 0)) ?_
              rintro _ _ ⟨rfl, rfl⟩
              refine h_run 0 (pc' := 167) (l' := [(0, .inr (.inr 1826)), (1, .inl (l : Int)), (2, .inl (-1))]) (st' := [.inl 0]) rfl ?_
              refine h_zeq (off := 11) (t := 178) rfl rfl (by decide) (fun _ => ?_) (fun c => absurd c (by decide))
              refine h_run 1 (pc' := 179) (l' := [(0, .inr (.inr 1826)), (1, .inl (l : Int)), (2, .inl (-1))]) (st' := [.inl (-1)]) rfl ?_
              refine h_run 7 (pc' := 186) (l' := [(0, .inr (.inr 1826)), (1, .inl (l : Int)), (2, .inl (-1)), (3, .inl (-1))]) (st' := [.inl ((2 * (l : Int)) + 1), .inr (.inr 1826)]) rfl ?_
              have g372 : -2147483648 ≤ (H366.1 1826 19) ∧ (H366.1 1826 19) ≤ 2147483647 := hrg367.1 1826 13 19 _ .int rfl rfl
              have e373 : (H366.1 1826 19) = (H82.1 1826 19) := hx366f.2.2 19 (by decide)
              rw [show ((2 * (l : Int)) + 1) = ((2 * l + 1 : Nat) : Int) by omega]
              refine h_cv (i := 390) (j := 188) (b := 1826) (M' := mt_188) (xs := [.inl ((2 * l + 1 : Nat) : Int)]) (rest := []) rfl rfl rfl rfl rfl rfl (Nat.le_of_ble_eq_true rfl) (Nat.le_of_ble_eq_true rfl) (by omega) (m_keepSide (by omega) (s := 2 * l + 1) (by omega : 2 * (H366.1 1826 19) ≤ ((2 * l + 1 : Nat) : Int) ∧ 2 * l + 1 ≤ 31) (by omega : (H366.1 1826 35) = 0 → 0 ≤ (0 : Int) ∧ (0 : Int) ≤ 40)) ?_
              rintro _ H374 ⟨rfl, hx374f, hx374g, hx374z, hx374b, hx374c⟩
              refine h_rng (fun hrg375 => ?_)
              have hf376 : fr [30, 31, 32, 33, 35, 36, 19, 39, 40, 41, 43, 44, 47] [1841, 1842, 1843, 1844, 1845, 1846, 1847, 1849, 1850, 1851, 1852, 1853, 1854] H H374 := fr_t (fr_o (fr_o (fr_o hf368 (by decide)) (by decide)) (by decide)) hx374f (by decide) (by decide)
              have ha377 : agp H H374 := agp_tr (agp_o (agp_o (agp_o ha369 (by decide)) (by decide)) (by decide)) hx374g
              replace hx374c : hid _ := hx374c
              refine h_run 0 (pc' := 189) (l' := [(0, .inr (.inr 1826)), (1, .inl (l : Int)), (2, .inl (-1)), (3, .inl (-1))]) (st' := []) rfl ?_
              have hx374n : GB Y m c0 H374 False := Or.inr ⟨(by omega : (H374.1 1826 35) ≠ 0), BD_fr (BD_fr (GB_b hx366n (by omega)) (fr_o (fr_o (fr_o (fr_rf [40, 41, 43] [] H366) (by decide)) (by decide)) (by decide)) (by decide) (by decide)) hx374f (by decide) (by decide)⟩
              refine h_run 1 (pc' := 190) (l' := [(0, .inr (.inr 1826)), (1, .inl (l : Int)), (2, .inl (-1)), (3, .inl (-1))]) (st' := [.inr (.inr 1826)]) rfl ?_
              have g378 : -2147483648 ≤ (H374.1 1826 35) ∧ (H374.1 1826 35) ≤ 2147483647 := hrg375.1 1826 13 35 _ .int rfl rfl
              have e379 : (H374.1 1826 35) = (H366.1 1826 35) := hx374f.2.2 35 (by decide)
              refine h_cv (i := 293) (j := 158) (b := 1826) (M' := mt_158) (xs := []) (rest := []) rfl rfl rfl rfl rfl rfl (Nat.le_of_ble_eq_true rfl) (Nat.le_of_ble_eq_true rfl) (by omega) (m_good0 (by omega) (by omega : (H374.1 1826 35) ≠ 0)) ?_
              rintro _ _ ⟨rfl, rfl⟩
              refine h_run 0 (pc' := 193) (l' := [(0, .inr (.inr 1826)), (1, .inl (l : Int)), (2, .inl (-1)), (3, .inl (-1))]) (st' := [.inl 0]) rfl ?_
              refine h_zeq (off := 83) (t := 276) rfl rfl (by decide) (fun _ => ?_) (fun c => absurd c (by decide))
              refine h_ret rfl rfl ?_
              have g380 : -2147483648 ≤ (H374.1 1826 30) ∧ (H374.1 1826 30) ≤ 2147483647 := hrg375.1 1826 13 30 _ .int rfl rfl
              have e381 : (H374.1 1826 30) = (H366.1 1826 30) := hx374f.2.2 30 (by decide)
              have e382 : (H366.1 1826 30) = (H82.1 1826 30) := hx366f.2.2 30 (by decide)
              have g383 : -2147483648 ≤ (H374.1 1826 32) ∧ (H374.1 1826 32) ≤ 2147483647 := hrg375.1 1826 13 32 _ .int rfl rfl
              have e384 : (H374.1 1826 32) = (H366.1 1826 32) := hx374f.2.2 32 (by decide)
              have e385 : (H366.1 1826 32) = (H82.1 1826 32) := hx366f.2.2 32 (by decide)
              have g386 : -2147483648 ≤ (H374.1 1826 31) ∧ (H374.1 1826 31) ≤ 2147483647 := hrg375.1 1826 13 31 _ .int rfl rfl
              have e387 : (H374.1 1826 31) = (H366.1 1826 31) := hx374f.2.2 31 (by decide)
              have e388 : (H366.1 1826 31) = (H82.1 1826 31) := hx366f.2.2 31 (by decide)
              have g389 : -2147483648 ≤ (H374.1 1826 29) ∧ (H374.1 1826 29) ≤ 2147483647 := hrg375.1 1826 13 29 _ .int rfl rfl
              have e390 : (H374.1 1826 29) = (H366.1 1826 29) := hx374f.2.2 29 (by decide)
              have e391 : (H366.1 1826 29) = (H82.1 1826 29) := hx366f.2.2 29 (by decide)
              have e392 : (H82.1 1826 29) = (H72.1 1826 29) := hx82f.2.2 29 (by decide)
              have g393 : -2147483648 ≤ (H374.1 1826 1) ∧ (H374.1 1826 1) ≤ 2147483647 := hrg375.1 1826 13 1 _ .int rfl rfl
              have e394 : (H374.1 1826 1) = (H366.1 1826 1) := hx374f.2.2 1 (by decide)
              have e395 : (H366.1 1826 1) = (H82.1 1826 1) := hx366f.2.2 1 (by decide)
              have e396 : (H82.1 1826 1) = (H72.1 1826 1) := hx82f.2.2 1 (by decide)
              have e397 : (H72.1 1826 1) = (H39.1 1826 1) := hx72f.2.2 1 (by decide)
              have e398 : (H39.1 1826 1) = (H.1 1826 1) := hx39f.2.2 1 (by decide)
              have g399 : -2147483648 ≤ (H374.1 1826 3) ∧ (H374.1 1826 3) ≤ 2147483647 := hrg375.1 1826 13 3 _ .int rfl rfl
              have e400 : (H374.1 1826 3) = (H366.1 1826 3) := hx374f.2.2 3 (by decide)
              have e401 : (H366.1 1826 3) = (H82.1 1826 3) := hx366f.2.2 3 (by decide)
              have e402 : (H82.1 1826 3) = (H72.1 1826 3) := hx82f.2.2 3 (by decide)
              have e403 : (H72.1 1826 3) = (H39.1 1826 3) := hx72f.2.2 3 (by decide)
              have e404 : (H39.1 1826 3) = (H.1 1826 3) := hx39f.2.2 3 (by decide)
              have g405 : -2147483648 ≤ (H374.1 1826 8) ∧ (H374.1 1826 8) ≤ 2147483647 := hrg375.1 1826 13 8 _ .int rfl rfl
              have e406 : (H374.1 1826 8) = (H366.1 1826 8) := hx374f.2.2 8 (by decide)
              have e407 : (H366.1 1826 8) = (H82.1 1826 8) := hx366f.2.2 8 (by decide)
              have e408 : (H82.1 1826 8) = (H72.1 1826 8) := hx82f.2.2 8 (by decide)
              have e409 : (H72.1 1826 8) = (H39.1 1826 8) := hx72f.2.2 8 (by decide)
              have e410 : (H39.1 1826 8) = (H.1 1826 8) := hx39f.2.2 8 (by decide)
              have g411 : -2147483648 ≤ (H374.1 1826 13) ∧ (H374.1 1826 13) ≤ 2147483647 := hrg375.1 1826 13 13 _ .int rfl rfl
              have e412 : (H374.1 1826 13) = (H366.1 1826 13) := hx374f.2.2 13 (by decide)
              have e413 : (H366.1 1826 13) = (H82.1 1826 13) := hx366f.2.2 13 (by decide)
              have e414 : (H82.1 1826 13) = (H72.1 1826 13) := hx82f.2.2 13 (by decide)
              have e415 : (H72.1 1826 13) = (H39.1 1826 13) := hx72f.2.2 13 (by decide)
              have e416 : (H39.1 1826 13) = (H.1 1826 13) := hx39f.2.2 13 (by decide)
              have g417 : -2147483648 ≤ (H374.1 1826 19) ∧ (H374.1 1826 19) ≤ 2147483647 := hrg375.1 1826 13 19 _ .int rfl rfl
              have e418 : (H374.1 1826 19) = (H366.1 1826 19) := hx374f.2.2 19 (by decide)
              have g419 : -2147483648 ≤ (H374.1 1826 39) ∧ (H374.1 1826 39) ≤ 2147483647 := hrg375.1 1826 13 39 _ .int rfl rfl
              have e420 : (H374.1 1826 39) = (H366.1 1826 39) := hx374f.2.2 39 (by decide)
              have e421 : (H366.1 1826 39) = 0 := hx366f.2.2 39 (by decide)
              exact ⟨rfl, (Or.inr ⟨(by omega : (H374.1 1826 35) ≠ 0), GB_b hx374n (by omega)⟩), hf376, (by omega : (H.1 1826 30) ≤ (H374.1 1826 30) ∧ (H374.1 1826 30) ≤ (H.1 1826 29)), (by omega : 0 ≤ (H374.1 1826 35) ∧ (H374.1 1826 35) ≤ 5), (by omega : (H.1 1826 35) ≠ 0 → (H374.1 1826 35) ≠ 0), (by omega : 0 ≤ (H374.1 1826 32) ∧ (H374.1 1826 32) ≤ 1000), ha377, (fun (q : (H374.1 1826 35) = 0) => absurd q (by omega))⟩
          · skip
            clear hx72g
            refine h_run 2 (pc' := 106) (l' := [(0, .inr (.inr 1826)), (1, .inl (l : Int))]) (st' := [.inl 58, .inr (.inr 1826)]) rfl ?_
            refine h_cv (i := 313) (j := 166) (b := 1826) (M' := mt_166) (xs := [.inl 58]) (rest := []) rfl rfl rfl rfl rfl rfl (Nat.le_of_ble_eq_true rfl) (Nat.le_of_ble_eq_true rfl) (by omega) (n_want0 (by omega) (by omega : (H72.1 1826 35) ≠ 0)) ?_
            rintro _ _ ⟨rfl, rfl⟩
            refine h_run 0 (pc' := 109) (l' := [(0, .inr (.inr 1826)), (1, .inl (l : Int))]) (st' := []) rfl ?_
            refine h_run 1 (pc' := 110) (l' := [(0, .inr (.inr 1826)), (1, .inl (l : Int))]) (st' := [.inr (.inr 1826)]) rfl ?_
            refine h_cv (i := 379) (j := 185) (b := 1826) (M' := mt_185) (xs := []) (rest := []) rfl rfl rfl rfl rfl rfl (Nat.le_of_ble_eq_true rfl) (Nat.le_of_ble_eq_true rfl) (by omega) (m_beginTerm (by omega)) ?_
            rintro _ _ ⟨rfl, rfl⟩
            refine h_run 0 (pc' := 113) (l' := [(0, .inr (.inr 1826)), (1, .inl (l : Int))]) (st' := []) rfl ?_
            refine h_run 2 (pc' := 115) (l' := [(0, .inr (.inr 1826)), (1, .inl (l : Int))]) (st' := [.inl 2, .inr (.inr 1826)]) rfl ?_
            refine h_puti (i := 367) (ci := 13) (k := 44) (a := 1826) (x := 2) rfl rfl rfl rfl rfl rfl (by decide) (by decide) ?_
            refine h_run 1 (pc' := 119) (l' := [(0, .inr (.inr 1826)), (1, .inl (l : Int))]) (st' := [.inr (.inr 1826)]) rfl ?_
            refine h_cv (i := 293) (j := 158) (b := 1826) (M' := mt_158) (xs := []) (rest := []) rfl rfl rfl rfl rfl rfl (Nat.le_of_ble_eq_true rfl) (Nat.le_of_ble_eq_true rfl) (by omega) (m_good0 (by omega) (by omega : (H72.1 1826 35) ≠ 0)) ?_
            rintro _ _ ⟨rfl, rfl⟩
            refine h_run 0 (pc' := 122) (l' := [(0, .inr (.inr 1826)), (1, .inl (l : Int))]) (st' := [.inl 0]) rfl ?_
            refine h_zeq (off := 11) (t := 133) rfl rfl (by decide) (fun _ => ?_) (fun c => absurd c (by decide))
            refine h_run 1 (pc' := 134) (l' := [(0, .inr (.inr 1826)), (1, .inl (l : Int))]) (st' := [.inl (-1)]) rfl ?_
            refine h_run 1 (pc' := 135) (l' := [(0, .inr (.inr 1826)), (1, .inl (l : Int)), (2, .inl (-1))]) (st' := []) rfl ?_
            skip
            refine h_run 4 (pc' := 139) (l' := [(0, .inr (.inr 1826)), (1, .inl (l : Int)), (2, .inl (-1))]) (st' := [.inl (2 * (l : Int)), .inr (.inr 1826)]) rfl ?_
            have g422 : -2147483648 ≤ (H72.1 1826 19) ∧ (H72.1 1826 19) ≤ 2147483647 := hrg73.1 1826 13 19 _ .int rfl rfl
            have e423 : (H72.1 1826 19) = (H39.1 1826 19) := hx72f.2.2 19 (by decide)
            rw [show (2 * (l : Int)) = ((2 * l : Nat) : Int) by omega]
            refine h_cv (i := 390) (j := 188) (b := 1826) (M' := mt_188) (xs := [.inl ((2 * l : Nat) : Int)]) (rest := []) rfl rfl rfl rfl rfl rfl (Nat.le_of_ble_eq_true rfl) (Nat.le_of_ble_eq_true rfl) (by omega) (m_keepSide (by omega) (s := 2 * l) (by omega : 2 * (H72.1 1826 19) ≤ ((2 * l : Nat) : Int) ∧ 2 * l ≤ 31) (by omega : (H72.1 1826 35) = 0 → 0 ≤ (0 : Int) ∧ (0 : Int) ≤ 40)) ?_
            rintro _ H424 ⟨rfl, hx424f, hx424g, hx424z, hx424b, hx424c⟩
            refine h_rng (fun hrg425 => ?_)
            have hf426 : fr [30, 31, 32, 33, 35, 36, 19, 39, 40, 41, 43, 44, 47] [1841, 1842, 1843, 1844, 1845, 1846, 1847, 1849, 1850, 1851, 1852, 1853, 1854] H H424 := fr_t (fr_o (fr_o (fr_o (fr_o (fr_o hf74 (by decide)) (by decide)) (by decide)) (by decide)) (by decide)) hx424f (by decide) (by decide)
            have ha427 : agp H H424 := agp_tr (agp_o (agp_o (agp_o (agp_o (agp_o ha75 (by decide)) (by decide)) (by decide)) (by decide)) (by decide)) hx424g
            replace hx424c : hid _ := hx424c
            refine h_run 0 (pc' := 142) (l' := [(0, .inr (.inr 1826)), (1, .inl (l : Int)), (2, .inl (-1))]) (st' := []) rfl ?_
            have hx424n : GB Y m c0 H424 False := Or.inr ⟨(by omega : (H424.1 1826 35) ≠ 0), BD_fr (BD_fr (GB_b hx72n (by omega)) (fr_o (fr_o (fr_o (fr_o (fr_o (fr_rf [39, 40, 41, 43, 44] [] H72) (by decide)) (by decide)) (by decide)) (by decide)) (by decide)) (by decide) (by decide)) hx424f (by decide) (by decide)⟩
            refine h_run 2 (pc' := 145) (l' := [(0, .inr (.inr 1826)), (1, .inl (l : Int)), (2, .inl (-1))]) (st' := [.inl 61, .inr (.inr 1826)]) rfl ?_
            have g428 : -2147483648 ≤ (H424.1 1826 35) ∧ (H424.1 1826 35) ≤ 2147483647 := hrg425.1 1826 13 35 _ .int rfl rfl
            have e429 : (H424.1 1826 35) = (H72.1 1826 35) := hx424f.2.2 35 (by decide)
            refine h_cv (i := 313) (j := 166) (b := 1826) (M' := mt_166) (xs := [.inl 61]) (rest := []) rfl rfl rfl rfl rfl rfl (Nat.le_of_ble_eq_true rfl) (Nat.le_of_ble_eq_true rfl) (by omega) (n_want0 (by omega) (by omega : (H424.1 1826 35) ≠ 0)) ?_
            rintro _ _ ⟨rfl, rfl⟩
            refine h_run 0 (pc' := 148) (l' := [(0, .inr (.inr 1826)), (1, .inl (l : Int)), (2, .inl (-1))]) (st' := []) rfl ?_
            refine h_run 2 (pc' := 150) (l' := [(0, .inr (.inr 1826)), (1, .inl (l : Int)), (2, .inl (-1))]) (st' := [.inl 0, .inr (.inr 1826)]) rfl ?_
            refine h_puti (i := 300) (ci := 13) (k := 40) (a := 1826) (x := 0) rfl rfl rfl rfl rfl rfl (by decide) (by decide) ?_
            refine h_run 2 (pc' := 155) (l' := [(0, .inr (.inr 1826)), (1, .inl (l : Int)), (2, .inl (-1))]) (st' := [.inl 0, .inr (.inr 1826)]) rfl ?_
            refine h_puti (i := 335) (ci := 13) (k := 41) (a := 1826) (x := 0) rfl rfl rfl rfl rfl rfl (by decide) (by decide) ?_
            refine h_run 2 (pc' := 160) (l' := [(0, .inr (.inr 1826)), (1, .inl (l : Int)), (2, .inl (-1))]) (st' := [.inl 0, .inr (.inr 1826)]) rfl ?_
            refine h_puti (i := 303) (ci := 13) (k := 43) (a := 1826) (x := 0) rfl rfl rfl rfl rfl rfl (by decide) (by decide) ?_
            refine h_run 1 (pc' := 164) (l' := [(0, .inr (.inr 1826)), (1, .inl (l : Int)), (2, .inl (-1))]) (st' := [.inr (.inr 1826)]) rfl ?_
            refine h_cv (i := 293) (j := 158) (b := 1826) (M' := mt_158) (xs := []) (rest := []) rfl rfl rfl rfl rfl rfl (Nat.le_of_ble_eq_true rfl) (Nat.le_of_ble_eq_true rfl) (by omega) (m_good0 (by omega) (by omega : (H424.1 1826 35) ≠ 0)) ?_
            rintro _ _ ⟨rfl, rfl⟩
            refine h_run 0 (pc' := 167) (l' := [(0, .inr (.inr 1826)), (1, .inl (l : Int)), (2, .inl (-1))]) (st' := [.inl 0]) rfl ?_
            refine h_zeq (off := 11) (t := 178) rfl rfl (by decide) (fun _ => ?_) (fun c => absurd c (by decide))
            refine h_run 1 (pc' := 179) (l' := [(0, .inr (.inr 1826)), (1, .inl (l : Int)), (2, .inl (-1))]) (st' := [.inl (-1)]) rfl ?_
            refine h_run 7 (pc' := 186) (l' := [(0, .inr (.inr 1826)), (1, .inl (l : Int)), (2, .inl (-1)), (3, .inl (-1))]) (st' := [.inl ((2 * (l : Int)) + 1), .inr (.inr 1826)]) rfl ?_
            have g430 : -2147483648 ≤ (H424.1 1826 19) ∧ (H424.1 1826 19) ≤ 2147483647 := hrg425.1 1826 13 19 _ .int rfl rfl
            have e431 : (H424.1 1826 19) = (H72.1 1826 19) := hx424f.2.2 19 (by decide)
            rw [show ((2 * (l : Int)) + 1) = ((2 * l + 1 : Nat) : Int) by omega]
            refine h_cv (i := 390) (j := 188) (b := 1826) (M' := mt_188) (xs := [.inl ((2 * l + 1 : Nat) : Int)]) (rest := []) rfl rfl rfl rfl rfl rfl (Nat.le_of_ble_eq_true rfl) (Nat.le_of_ble_eq_true rfl) (by omega) (m_keepSide (by omega) (s := 2 * l + 1) (by omega : 2 * (H424.1 1826 19) ≤ ((2 * l + 1 : Nat) : Int) ∧ 2 * l + 1 ≤ 31) (by omega : (H424.1 1826 35) = 0 → 0 ≤ (0 : Int) ∧ (0 : Int) ≤ 40)) ?_
            rintro _ H432 ⟨rfl, hx432f, hx432g, hx432z, hx432b, hx432c⟩
            refine h_rng (fun hrg433 => ?_)
            have hf434 : fr [30, 31, 32, 33, 35, 36, 19, 39, 40, 41, 43, 44, 47] [1841, 1842, 1843, 1844, 1845, 1846, 1847, 1849, 1850, 1851, 1852, 1853, 1854] H H432 := fr_t (fr_o (fr_o (fr_o hf426 (by decide)) (by decide)) (by decide)) hx432f (by decide) (by decide)
            have ha435 : agp H H432 := agp_tr (agp_o (agp_o (agp_o ha427 (by decide)) (by decide)) (by decide)) hx432g
            replace hx432c : hid _ := hx432c
            refine h_run 0 (pc' := 189) (l' := [(0, .inr (.inr 1826)), (1, .inl (l : Int)), (2, .inl (-1)), (3, .inl (-1))]) (st' := []) rfl ?_
            have hx432n : GB Y m c0 H432 False := Or.inr ⟨(by omega : (H432.1 1826 35) ≠ 0), BD_fr (BD_fr (GB_b hx424n (by omega)) (fr_o (fr_o (fr_o (fr_rf [40, 41, 43] [] H424) (by decide)) (by decide)) (by decide)) (by decide) (by decide)) hx432f (by decide) (by decide)⟩
            refine h_run 1 (pc' := 190) (l' := [(0, .inr (.inr 1826)), (1, .inl (l : Int)), (2, .inl (-1)), (3, .inl (-1))]) (st' := [.inr (.inr 1826)]) rfl ?_
            have g436 : -2147483648 ≤ (H432.1 1826 35) ∧ (H432.1 1826 35) ≤ 2147483647 := hrg433.1 1826 13 35 _ .int rfl rfl
            have e437 : (H432.1 1826 35) = (H424.1 1826 35) := hx432f.2.2 35 (by decide)
            refine h_cv (i := 293) (j := 158) (b := 1826) (M' := mt_158) (xs := []) (rest := []) rfl rfl rfl rfl rfl rfl (Nat.le_of_ble_eq_true rfl) (Nat.le_of_ble_eq_true rfl) (by omega) (m_good0 (by omega) (by omega : (H432.1 1826 35) ≠ 0)) ?_
            rintro _ _ ⟨rfl, rfl⟩
            refine h_run 0 (pc' := 193) (l' := [(0, .inr (.inr 1826)), (1, .inl (l : Int)), (2, .inl (-1)), (3, .inl (-1))]) (st' := [.inl 0]) rfl ?_
            refine h_zeq (off := 83) (t := 276) rfl rfl (by decide) (fun _ => ?_) (fun c => absurd c (by decide))
            refine h_ret rfl rfl ?_
            have g438 : -2147483648 ≤ (H432.1 1826 30) ∧ (H432.1 1826 30) ≤ 2147483647 := hrg433.1 1826 13 30 _ .int rfl rfl
            have e439 : (H432.1 1826 30) = (H424.1 1826 30) := hx432f.2.2 30 (by decide)
            have e440 : (H424.1 1826 30) = (H72.1 1826 30) := hx424f.2.2 30 (by decide)
            have g441 : -2147483648 ≤ (H432.1 1826 32) ∧ (H432.1 1826 32) ≤ 2147483647 := hrg433.1 1826 13 32 _ .int rfl rfl
            have e442 : (H432.1 1826 32) = (H424.1 1826 32) := hx432f.2.2 32 (by decide)
            have e443 : (H424.1 1826 32) = (H72.1 1826 32) := hx424f.2.2 32 (by decide)
            have g444 : -2147483648 ≤ (H432.1 1826 31) ∧ (H432.1 1826 31) ≤ 2147483647 := hrg433.1 1826 13 31 _ .int rfl rfl
            have e445 : (H432.1 1826 31) = (H424.1 1826 31) := hx432f.2.2 31 (by decide)
            have e446 : (H424.1 1826 31) = (H72.1 1826 31) := hx424f.2.2 31 (by decide)
            have g447 : -2147483648 ≤ (H432.1 1826 29) ∧ (H432.1 1826 29) ≤ 2147483647 := hrg433.1 1826 13 29 _ .int rfl rfl
            have e448 : (H432.1 1826 29) = (H424.1 1826 29) := hx432f.2.2 29 (by decide)
            have e449 : (H424.1 1826 29) = (H72.1 1826 29) := hx424f.2.2 29 (by decide)
            have e450 : (H72.1 1826 29) = (H39.1 1826 29) := hx72f.2.2 29 (by decide)
            have g451 : -2147483648 ≤ (H432.1 1826 1) ∧ (H432.1 1826 1) ≤ 2147483647 := hrg433.1 1826 13 1 _ .int rfl rfl
            have e452 : (H432.1 1826 1) = (H424.1 1826 1) := hx432f.2.2 1 (by decide)
            have e453 : (H424.1 1826 1) = (H72.1 1826 1) := hx424f.2.2 1 (by decide)
            have e454 : (H72.1 1826 1) = (H39.1 1826 1) := hx72f.2.2 1 (by decide)
            have e455 : (H39.1 1826 1) = (H.1 1826 1) := hx39f.2.2 1 (by decide)
            have g456 : -2147483648 ≤ (H432.1 1826 3) ∧ (H432.1 1826 3) ≤ 2147483647 := hrg433.1 1826 13 3 _ .int rfl rfl
            have e457 : (H432.1 1826 3) = (H424.1 1826 3) := hx432f.2.2 3 (by decide)
            have e458 : (H424.1 1826 3) = (H72.1 1826 3) := hx424f.2.2 3 (by decide)
            have e459 : (H72.1 1826 3) = (H39.1 1826 3) := hx72f.2.2 3 (by decide)
            have e460 : (H39.1 1826 3) = (H.1 1826 3) := hx39f.2.2 3 (by decide)
            have g461 : -2147483648 ≤ (H432.1 1826 8) ∧ (H432.1 1826 8) ≤ 2147483647 := hrg433.1 1826 13 8 _ .int rfl rfl
            have e462 : (H432.1 1826 8) = (H424.1 1826 8) := hx432f.2.2 8 (by decide)
            have e463 : (H424.1 1826 8) = (H72.1 1826 8) := hx424f.2.2 8 (by decide)
            have e464 : (H72.1 1826 8) = (H39.1 1826 8) := hx72f.2.2 8 (by decide)
            have e465 : (H39.1 1826 8) = (H.1 1826 8) := hx39f.2.2 8 (by decide)
            have g466 : -2147483648 ≤ (H432.1 1826 13) ∧ (H432.1 1826 13) ≤ 2147483647 := hrg433.1 1826 13 13 _ .int rfl rfl
            have e467 : (H432.1 1826 13) = (H424.1 1826 13) := hx432f.2.2 13 (by decide)
            have e468 : (H424.1 1826 13) = (H72.1 1826 13) := hx424f.2.2 13 (by decide)
            have e469 : (H72.1 1826 13) = (H39.1 1826 13) := hx72f.2.2 13 (by decide)
            have e470 : (H39.1 1826 13) = (H.1 1826 13) := hx39f.2.2 13 (by decide)
            have g471 : -2147483648 ≤ (H432.1 1826 19) ∧ (H432.1 1826 19) ≤ 2147483647 := hrg433.1 1826 13 19 _ .int rfl rfl
            have e472 : (H432.1 1826 19) = (H424.1 1826 19) := hx432f.2.2 19 (by decide)
            have g473 : -2147483648 ≤ (H432.1 1826 39) ∧ (H432.1 1826 39) ≤ 2147483647 := hrg433.1 1826 13 39 _ .int rfl rfl
            have e474 : (H432.1 1826 39) = (H424.1 1826 39) := hx432f.2.2 39 (by decide)
            have e475 : (H424.1 1826 39) = 0 := hx424f.2.2 39 (by decide)
            exact ⟨rfl, (Or.inr ⟨(by omega : (H432.1 1826 35) ≠ 0), GB_b hx432n (by omega)⟩), hf434, (by omega : (H.1 1826 30) ≤ (H432.1 1826 30) ∧ (H432.1 1826 30) ≤ (H.1 1826 29)), (by omega : 0 ≤ (H432.1 1826 35) ∧ (H432.1 1826 35) ≤ 5), (by omega : (H.1 1826 35) ≠ 0 → (H432.1 1826 35) ≠ 0), (by omega : 0 ≤ (H432.1 1826 32) ∧ (H432.1 1826 32) ≤ 1000), ha435, (fun (q : (H432.1 1826 35) = 0) => absurd q (by omega))⟩
        · refine h_run 2 (pc' := 73) (l' := [(0, .inr (.inr 1826))]) (st' := [.inl 5, .inr (.inr 1826)]) rfl ?_
          refine h_cv (i := 278) (j := 159) (b := 1826) (M' := mt_159) (xs := [.inl 5]) (rest := []) rfl rfl rfl rfl rfl rfl (Nat.le_of_ble_eq_true rfl) (Nat.le_of_ble_eq_true rfl) (by omega) (m_bad0 (by omega) (by omega) (by omega : (H39.1 1826 35) = 0)) ?_
          rintro _ _ ⟨rfl, rfl⟩
          refine h_run 0 (pc' := 76) (l' := [(0, .inr (.inr 1826))]) (st' := []) rfl ?_
          refine h_run 1 (pc' := 77) (l' := [(0, .inr (.inr 1826))]) (st' := [.inr (.inr 1826)]) rfl ?_
          refine h_cv (i := 293) (j := 158) (b := 1826) (M' := mt_158) (xs := []) (rest := []) rfl rfl rfl rfl rfl rfl (Nat.le_of_ble_eq_true rfl) (Nat.le_of_ble_eq_true rfl) (by omega) (m_good0 (by omega) (by omega : (5 : Int) ≠ 0)) ?_
          rintro _ _ ⟨rfl, rfl⟩
          refine h_run 0 (pc' := 80) (l' := [(0, .inr (.inr 1826))]) (st' := [.inl 0]) rfl ?_
          refine h_zne (off := 4) (t := 84) rfl rfl (by decide) (fun c => absurd c (by decide)) (fun _ => ?_)
          refine h_ret rfl rfl ?_
          have g476 : -2147483648 ≤ (H39.1 1826 30) ∧ (H39.1 1826 30) ≤ 2147483647 := hrg40.1 1826 13 30 _ .int rfl rfl
          have g477 : -2147483648 ≤ (H39.1 1826 32) ∧ (H39.1 1826 32) ≤ 2147483647 := hrg40.1 1826 13 32 _ .int rfl rfl
          have g478 : -2147483648 ≤ (H39.1 1826 29) ∧ (H39.1 1826 29) ≤ 2147483647 := hrg40.1 1826 13 29 _ .int rfl rfl
          have e479 : (H39.1 1826 29) = (H.1 1826 29) := hx39f.2.2 29 (by decide)
          have g480 : -2147483648 ≤ (H39.1 1826 1) ∧ (H39.1 1826 1) ≤ 2147483647 := hrg40.1 1826 13 1 _ .int rfl rfl
          have e481 : (H39.1 1826 1) = (H.1 1826 1) := hx39f.2.2 1 (by decide)
          have g482 : -2147483648 ≤ (H39.1 1826 3) ∧ (H39.1 1826 3) ≤ 2147483647 := hrg40.1 1826 13 3 _ .int rfl rfl
          have e483 : (H39.1 1826 3) = (H.1 1826 3) := hx39f.2.2 3 (by decide)
          have g484 : -2147483648 ≤ (H39.1 1826 8) ∧ (H39.1 1826 8) ≤ 2147483647 := hrg40.1 1826 13 8 _ .int rfl rfl
          have e485 : (H39.1 1826 8) = (H.1 1826 8) := hx39f.2.2 8 (by decide)
          have g486 : -2147483648 ≤ (H39.1 1826 13) ∧ (H39.1 1826 13) ≤ 2147483647 := hrg40.1 1826 13 13 _ .int rfl rfl
          have e487 : (H39.1 1826 13) = (H.1 1826 13) := hx39f.2.2 13 (by decide)
          have g488 : -2147483648 ≤ (H39.1 1826 39) ∧ (H39.1 1826 39) ≤ 2147483647 := hrg40.1 1826 13 39 _ .int rfl rfl
          have e489 : (H39.1 1826 39) = (H.1 1826 39) := hx39f.2.2 39 (by decide)
          exact ⟨rfl, (Or.inr ⟨(by omega : (5 : Int) ≠ 0), (BD_mk hR1 (fr_o (fr_o (fr_rf [35, 36] [] H39) (by decide)) (by decide)) (by decide) (by decide) (by decide : (5 : Int) ≠ 0) rfl rfl (rch_st hq (by show stDec Y nn K X = _; unfold stDec miss; (repeat (first | rw [if_pos (by omega)] | rw [if_neg (by omega)])); try (first | rfl | (exfalso; omega)))))⟩), (fr_o (fr_o hf41 (by decide)) (by decide)), (by omega : (H.1 1826 30) ≤ (H39.1 1826 30) ∧ (H39.1 1826 30) ≤ (H.1 1826 29)), (by omega : 0 ≤ (5 : Int) ∧ (5 : Int) ≤ 5), (by omega : (H.1 1826 35) ≠ 0 → (5 : Int) ≠ 0), (by omega : 0 ≤ (H39.1 1826 32) ∧ (H39.1 1826 32) ≤ 1000), (agp_o (agp_o ha42 (by decide)) (by decide)), (fun (q : (5 : Int) = 0) => absurd q (by omega))⟩
    · refine h_run 2 (pc' := 21) (l' := [(0, .inr (.inr 1826))]) (st' := [.inl 2, .inr (.inr 1826)]) rfl ?_
      refine h_cv (i := 278) (j := 159) (b := 1826) (M' := mt_159) (xs := [.inl 2]) (rest := []) rfl rfl rfl rfl rfl rfl (Nat.le_of_ble_eq_true rfl) (Nat.le_of_ble_eq_true rfl) (by omega) (m_bad0 (by omega) (by omega) (by omega : (H39.1 1826 35) = 0)) ?_
      rintro _ _ ⟨rfl, rfl⟩
      refine h_run 0 (pc' := 24) (l' := [(0, .inr (.inr 1826))]) (st' := []) rfl ?_
      refine h_run 1 (pc' := 25) (l' := [(0, .inr (.inr 1826))]) (st' := [.inr (.inr 1826)]) rfl ?_
      refine h_cv (i := 293) (j := 158) (b := 1826) (M' := mt_158) (xs := []) (rest := []) rfl rfl rfl rfl rfl rfl (Nat.le_of_ble_eq_true rfl) (Nat.le_of_ble_eq_true rfl) (by omega) (m_good0 (by omega) (by omega : (2 : Int) ≠ 0)) ?_
      rintro _ _ ⟨rfl, rfl⟩
      refine h_run 0 (pc' := 28) (l' := [(0, .inr (.inr 1826))]) (st' := [.inl 0]) rfl ?_
      refine h_zeq (off := 27) (t := 55) rfl rfl (by decide) (fun _ => ?_) (fun c => absurd c (by decide))
      refine h_run 1 (pc' := 56) (l' := [(0, .inr (.inr 1826))]) (st' := [.inr (.inr 1826)]) rfl ?_
      refine h_cv (i := 293) (j := 158) (b := 1826) (M' := mt_158) (xs := []) (rest := []) rfl rfl rfl rfl rfl rfl (Nat.le_of_ble_eq_true rfl) (Nat.le_of_ble_eq_true rfl) (by omega) (m_good0 (by omega) (by omega : (2 : Int) ≠ 0)) ?_
      rintro _ _ ⟨rfl, rfl⟩
      refine h_run 0 (pc' := 59) (l' := [(0, .inr (.inr 1826))]) (st' := [.inl 0]) rfl ?_
      refine h_zeq (off := 17) (t := 76) rfl rfl (by decide) (fun _ => ?_) (fun c => absurd c (by decide))
      refine h_run 1 (pc' := 77) (l' := [(0, .inr (.inr 1826))]) (st' := [.inr (.inr 1826)]) rfl ?_
      refine h_cv (i := 293) (j := 158) (b := 1826) (M' := mt_158) (xs := []) (rest := []) rfl rfl rfl rfl rfl rfl (Nat.le_of_ble_eq_true rfl) (Nat.le_of_ble_eq_true rfl) (by omega) (m_good0 (by omega) (by omega : (2 : Int) ≠ 0)) ?_
      rintro _ _ ⟨rfl, rfl⟩
      refine h_run 0 (pc' := 80) (l' := [(0, .inr (.inr 1826))]) (st' := [.inl 0]) rfl ?_
      refine h_zne (off := 4) (t := 84) rfl rfl (by decide) (fun c => absurd c (by decide)) (fun _ => ?_)
      refine h_ret rfl rfl ?_
      have g490 : -2147483648 ≤ (H39.1 1826 30) ∧ (H39.1 1826 30) ≤ 2147483647 := hrg40.1 1826 13 30 _ .int rfl rfl
      have g491 : -2147483648 ≤ (H39.1 1826 32) ∧ (H39.1 1826 32) ≤ 2147483647 := hrg40.1 1826 13 32 _ .int rfl rfl
      have g492 : -2147483648 ≤ (H39.1 1826 29) ∧ (H39.1 1826 29) ≤ 2147483647 := hrg40.1 1826 13 29 _ .int rfl rfl
      have e493 : (H39.1 1826 29) = (H.1 1826 29) := hx39f.2.2 29 (by decide)
      have g494 : -2147483648 ≤ (H39.1 1826 1) ∧ (H39.1 1826 1) ≤ 2147483647 := hrg40.1 1826 13 1 _ .int rfl rfl
      have e495 : (H39.1 1826 1) = (H.1 1826 1) := hx39f.2.2 1 (by decide)
      have g496 : -2147483648 ≤ (H39.1 1826 3) ∧ (H39.1 1826 3) ≤ 2147483647 := hrg40.1 1826 13 3 _ .int rfl rfl
      have e497 : (H39.1 1826 3) = (H.1 1826 3) := hx39f.2.2 3 (by decide)
      have g498 : -2147483648 ≤ (H39.1 1826 8) ∧ (H39.1 1826 8) ≤ 2147483647 := hrg40.1 1826 13 8 _ .int rfl rfl
      have e499 : (H39.1 1826 8) = (H.1 1826 8) := hx39f.2.2 8 (by decide)
      have g500 : -2147483648 ≤ (H39.1 1826 13) ∧ (H39.1 1826 13) ≤ 2147483647 := hrg40.1 1826 13 13 _ .int rfl rfl
      have e501 : (H39.1 1826 13) = (H.1 1826 13) := hx39f.2.2 13 (by decide)
      have g502 : -2147483648 ≤ (H39.1 1826 19) ∧ (H39.1 1826 19) ≤ 2147483647 := hrg40.1 1826 13 19 _ .int rfl rfl
      have e503 : (H39.1 1826 19) = (H.1 1826 19) := hx39f.2.2 19 (by decide)
      have g504 : -2147483648 ≤ (H39.1 1826 39) ∧ (H39.1 1826 39) ≤ 2147483647 := hrg40.1 1826 13 39 _ .int rfl rfl
      have e505 : (H39.1 1826 39) = (H.1 1826 39) := hx39f.2.2 39 (by decide)
      exact ⟨rfl, (Or.inr ⟨(by omega : (2 : Int) ≠ 0), (BD_mk hR1 (fr_o (fr_o (fr_rf [35, 36] [] H39) (by decide)) (by decide)) (by decide) (by decide) (by decide : (2 : Int) ≠ 0) rfl rfl (rch_st hq (by show stDec Y nn K X = _; unfold stDec miss; (repeat (first | rw [if_pos (by omega)] | rw [if_neg (by omega)])); try (first | rfl | (exfalso; omega)))))⟩), (fr_o (fr_o hf41 (by decide)) (by decide)), (by omega : (H.1 1826 30) ≤ (H39.1 1826 30) ∧ (H39.1 1826 30) ≤ (H.1 1826 29)), (by omega : 0 ≤ (2 : Int) ∧ (2 : Int) ≤ 5), (by omega : (H.1 1826 35) ≠ 0 → (2 : Int) ≠ 0), (by omega : 0 ≤ (H39.1 1826 32) ∧ (H39.1 1826 32) ≤ 1000), (agp_o (agp_o ha42 (by decide)) (by decide)), (fun (q : (2 : Int) = 0) => absurd q (by omega))⟩
  · have b44x : (H39.1 1826 35) ≠ 0 := b44
    clear hx39g
    refine h_run 0 (pc' := 8) (l' := [(0, .inr (.inr 1826))]) (st' := [.inl 0]) rfl ?_
    refine h_zeq (off := 16) (t := 24) rfl rfl (by decide) (fun _ => ?_) (fun c => absurd c (by decide))
    refine h_run 1 (pc' := 25) (l' := [(0, .inr (.inr 1826))]) (st' := [.inr (.inr 1826)]) rfl ?_
    refine h_cv (i := 293) (j := 158) (b := 1826) (M' := mt_158) (xs := []) (rest := []) rfl rfl rfl rfl rfl rfl (Nat.le_of_ble_eq_true rfl) (Nat.le_of_ble_eq_true rfl) (by omega) (m_good0 (by omega) (by omega : (H39.1 1826 35) ≠ 0)) ?_
    rintro _ _ ⟨rfl, rfl⟩
    refine h_run 0 (pc' := 28) (l' := [(0, .inr (.inr 1826))]) (st' := [.inl 0]) rfl ?_
    refine h_zeq (off := 27) (t := 55) rfl rfl (by decide) (fun _ => ?_) (fun c => absurd c (by decide))
    refine h_run 1 (pc' := 56) (l' := [(0, .inr (.inr 1826))]) (st' := [.inr (.inr 1826)]) rfl ?_
    refine h_cv (i := 293) (j := 158) (b := 1826) (M' := mt_158) (xs := []) (rest := []) rfl rfl rfl rfl rfl rfl (Nat.le_of_ble_eq_true rfl) (Nat.le_of_ble_eq_true rfl) (by omega) (m_good0 (by omega) (by omega : (H39.1 1826 35) ≠ 0)) ?_
    rintro _ _ ⟨rfl, rfl⟩
    refine h_run 0 (pc' := 59) (l' := [(0, .inr (.inr 1826))]) (st' := [.inl 0]) rfl ?_
    refine h_zeq (off := 17) (t := 76) rfl rfl (by decide) (fun _ => ?_) (fun c => absurd c (by decide))
    refine h_run 1 (pc' := 77) (l' := [(0, .inr (.inr 1826))]) (st' := [.inr (.inr 1826)]) rfl ?_
    refine h_cv (i := 293) (j := 158) (b := 1826) (M' := mt_158) (xs := []) (rest := []) rfl rfl rfl rfl rfl rfl (Nat.le_of_ble_eq_true rfl) (Nat.le_of_ble_eq_true rfl) (by omega) (m_good0 (by omega) (by omega : (H39.1 1826 35) ≠ 0)) ?_
    rintro _ _ ⟨rfl, rfl⟩
    refine h_run 0 (pc' := 80) (l' := [(0, .inr (.inr 1826))]) (st' := [.inl 0]) rfl ?_
    refine h_zne (off := 4) (t := 84) rfl rfl (by decide) (fun c => absurd c (by decide)) (fun _ => ?_)
    refine h_ret rfl rfl ?_
    have g506 : -2147483648 ≤ (H39.1 1826 30) ∧ (H39.1 1826 30) ≤ 2147483647 := hrg40.1 1826 13 30 _ .int rfl rfl
    have g507 : -2147483648 ≤ (H39.1 1826 32) ∧ (H39.1 1826 32) ≤ 2147483647 := hrg40.1 1826 13 32 _ .int rfl rfl
    have g508 : -2147483648 ≤ (H39.1 1826 31) ∧ (H39.1 1826 31) ≤ 2147483647 := hrg40.1 1826 13 31 _ .int rfl rfl
    have g509 : -2147483648 ≤ (H39.1 1826 29) ∧ (H39.1 1826 29) ≤ 2147483647 := hrg40.1 1826 13 29 _ .int rfl rfl
    have e510 : (H39.1 1826 29) = (H.1 1826 29) := hx39f.2.2 29 (by decide)
    have g511 : -2147483648 ≤ (H39.1 1826 1) ∧ (H39.1 1826 1) ≤ 2147483647 := hrg40.1 1826 13 1 _ .int rfl rfl
    have e512 : (H39.1 1826 1) = (H.1 1826 1) := hx39f.2.2 1 (by decide)
    have g513 : -2147483648 ≤ (H39.1 1826 3) ∧ (H39.1 1826 3) ≤ 2147483647 := hrg40.1 1826 13 3 _ .int rfl rfl
    have e514 : (H39.1 1826 3) = (H.1 1826 3) := hx39f.2.2 3 (by decide)
    have g515 : -2147483648 ≤ (H39.1 1826 8) ∧ (H39.1 1826 8) ≤ 2147483647 := hrg40.1 1826 13 8 _ .int rfl rfl
    have e516 : (H39.1 1826 8) = (H.1 1826 8) := hx39f.2.2 8 (by decide)
    have g517 : -2147483648 ≤ (H39.1 1826 13) ∧ (H39.1 1826 13) ≤ 2147483647 := hrg40.1 1826 13 13 _ .int rfl rfl
    have e518 : (H39.1 1826 13) = (H.1 1826 13) := hx39f.2.2 13 (by decide)
    have g519 : -2147483648 ≤ (H39.1 1826 19) ∧ (H39.1 1826 19) ≤ 2147483647 := hrg40.1 1826 13 19 _ .int rfl rfl
    have e520 : (H39.1 1826 19) = (H.1 1826 19) := hx39f.2.2 19 (by decide)
    have g521 : -2147483648 ≤ (H39.1 1826 39) ∧ (H39.1 1826 39) ≤ 2147483647 := hrg40.1 1826 13 39 _ .int rfl rfl
    have e522 : (H39.1 1826 39) = (H.1 1826 39) := hx39f.2.2 39 (by decide)
    exact ⟨rfl, (Or.inr ⟨(by omega : (H39.1 1826 35) ≠ 0), GB_b hx39n (by omega)⟩), hf41, (by omega : (H.1 1826 30) ≤ (H39.1 1826 30) ∧ (H39.1 1826 30) ≤ (H.1 1826 29)), (by omega : 0 ≤ (H39.1 1826 35) ∧ (H39.1 1826 35) ≤ 5), (by omega : (H.1 1826 35) ≠ 0 → (H39.1 1826 35) ≠ 0), (by omega : 0 ≤ (H39.1 1826 32) ∧ (H39.1 1826 32) ≤ 1000), ha42, (fun (q : (H39.1 1826 35) = 0) => absurd q (by omega))⟩
