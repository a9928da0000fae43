/-! the reference's reading against the machine: laws -/
def xl (X : rx) (l : Nat) (x : Int) : rx := adv (xu (xu (xu (xu X 12 l x) 0 1 0) 0 2 0) 0 8 1)
theorem xl_s (X : rx) (l : Nat) (x : Int) : xl X l x 0 0 = X 0 0 + 1 ∧ xl X l x 0 1 = 0 ∧ xl X l x 0 2 = 0 ∧ xl X l x 0 8 = 1 ∧ xl X l x 12 = up (X 12) l x ∧ (∀ j, 3 ≤ j → j ≤ 7 → xl X l x 0 j = X 0 j) ∧ ∀ c, 1 ≤ c → c ≤ 9 → xl X l x c = X c := by
  unfold xl adv
  refine ⟨?_, ?_, ?_, ?_, ?_, fun j h1 h2 => ?_, fun c h1 h2 => ?_⟩
  · rw [xu_1, xu_0 _ _ (by omega), xu_0 _ _ (by omega), xu_0 _ _ (by omega), xu_0 _ _ (by omega)]
  · rw [xu_0 _ _ (by omega), xu_0 _ _ (by omega), xu_0 _ _ (by omega), xu_1]
  · rw [xu_0 _ _ (by omega), xu_0 _ _ (by omega), xu_1]
  · rw [xu_0 _ _ (by omega), xu_1]
  · rw [xu_ne _ _ _ (by decide), xu_ne _ _ _ (by decide), xu_ne _ _ _ (by decide), xu_ne _ _ _ (by decide), xu_eq]
  · rw [xu_0 _ _ (by omega), xu_0 _ _ (by omega), xu_0 _ _ (by omega), xu_0 _ _ (by omega), xu_0 _ _ (by omega)]
  · rw [xu_ne _ _ _ (by omega), xu_ne _ _ _ (by omega), xu_ne _ _ _ (by omega), xu_ne _ _ _ (by omega), xu_ne _ _ _ (by omega)]
/-- a law's name is told; it counts later -/
theorem TA_ln {m x : Int} {H : hp} {X : rx} {l : Nat} (h : TA m H X) (hl : (H.1 1826 19) = l) : TA m (zu H 1841 (up (H.1 1841) l x)) (xl X l x) := by
  have f : fr [] [1841] H (zu H 1841 (up (H.1 1841) l x)) := fr_a (fr_rf _ _ _) (by decide)
  obtain ⟨a1, a2, a3, a4, a5⟩ := h
  obtain ⟨-, -, -, -, e12, e0, e⟩ := xl_s X l x
  refine ⟨A1_cg a1 f (by decide) (by decide) (e0 _ (by decide) (by decide)) (e _ (by decide) (by decide)), A2_cg a2 f (by decide) (by decide) (e0 _ (by decide) (by decide)) (fun c c1 c2 => e c (by omega) (by omega)), A3_cg a3 f (by decide) (by decide) (e0 _ (by decide) (by decide)) (e _ (by decide) (by decide)) (e _ (by decide) (by decide)) (e _ (by decide) (by decide)), ⟨⟨?_, ?_⟩, fun k hk => ?_⟩, TF_cg a5 f (by decide) (fun k _ => congrFun (e 7 (by decide) (by decide)) k)⟩
  · rw [e0 6 (by decide) (by decide)]
    exact a4.1.1
  · rw [e0 7 (by decide) (by decide)]
    exact a4.1.2
  · rw [e0 7 (by decide) (by decide)] at hk
    have := a4.1.2
    rw [e12]
    show up (H.1 1841) l x k = _
    rw [up_ne _ _ (by omega), up_ne _ _ (by omega)]
    exact a4.2 k hk
theorem VR_law {K : hp} {X : rx} {l : Nat} {x : Int} (h1 : (K.1 1826 40) = 0) (h2 : (K.1 1826 44) = 2) (h3 : (K.1 1826 39) = 0) : VR K (adv (xl X l x)) := by
  obtain ⟨-, y1, y2, y8, -⟩ := xl_s X l x
  obtain ⟨x1, x2, x8, -⟩ := adv_s (xl X l x)
  exact ⟨⟨by omega, by omega, by omega⟩, fun _ => ⟨⟨by omega, by omega⟩, fun v hv => absurd hv (by omega)⟩⟩
theorem FI_g {t r : Int} {X : rx} (h : FI t X r) (ht : t = -1) (h8 : X 0 8 = 1) (h2 : X 0 2 ≠ 0) : 0 ≤ r ∧ thd (adv X) = r := by
  rcases h h8 ht with ⟨a, -⟩ | ⟨a, b, c, d⟩
  · exact absurd a h2
  · refine ⟨a, ?_⟩
    rw [thd_cg (sT_adv X) (by rw [(adv_s X).2.2.2.2.2]) c]
    exact b.symm
theorem tm_10 {ar : Int → Int} {ok : Int → Prop} {a : Nat → Int} {k i : Nat} (h : tm ar ok a k i 1) : k ≠ 0 := by
  intro e
  subst e
  have h : (1 : Nat) = 0 := h
  omega
theorem TT_nm {H : hp} (h : TT H 0) (g : ∃ k : Nat, (H.1 1826 43) = k ∧ k ≤ 40 ∧ tm (ma (H.1 1833) (H.1 1830)) (m_sg (H.1 1826 3) (H.1 1826 8) (H.1 1826 39)) (H.1 1851) k 0 1) : (H.1 1826 40) ≠ 0 := by
  obtain ⟨n, m, k, -, ⟨b1, b2, b3⟩, -⟩ := h
  obtain ⟨k2, g1, g2, g3⟩ := g
  have := tm_10 g3
  omega

/-! tellLaw -/
set_option maxRecDepth 100000 in
theorem n_tellLaw_cut {zC : Nat → Option zsh} {d : Nat} (hd : 8 ≤ d) {H : hp}  {Y : yx} {m : Int} {c0 : cf} {K : List tq} {X : rx} {nn : Int} (h0 : 0 ≤ (H.1 1826 30) ∧ (H.1 1826 30) ≤ (H.1 1826 29) ∧ (H.1 1826 29) ≤ 1000) (hw : 0 ≤ (H.1 1826 35) ∧ (H.1 1826 35) ≤ 5) (hst : 0 ≤ (H.1 1826 32) ∧ (H.1 1826 32) ≤ 1000) (hP : PWc H) (hw0 : (H.1 1826 35) = 0) (hR : RK Y m H X) (hmf : (H.1 1826 8) = m) (hq : rch Y c0 ((6, nn, 0, 0) :: K, X)) (htk : tk Y (xi X) = 7) : ∀ w : Nat, (∀ (H1 : hp) (l : Nat) (i : Nat) (k0 : Nat) (k1 : Nat) (v : Nat), (fr [30, 31, 32, 33, 35, 36, 19, 39, 40, 41, 43, 44, 47] [1841, 1842, 1843, 1844, 1845, 1846, 1847, 1849, 1850, 1851, 1852, 1853, 1854] H H1) → ((H.1 1826 30) ≤ (H1.1 1826 30) ∧ (H1.1 1826 30) ≤ (H.1 1826 29)) → (0 ≤ (H1.1 1826 35) ∧ (H1.1 1826 35) ≤ 5) → (0 ≤ (H1.1 1826 32) ∧ (H1.1 1826 32) ≤ 1000) → (agp H H1) → ((H1.1 1826 35) = 0) → ((l : Int) = (H.1 1826 19) ∧ (H.1 1826 19) ≤ 15) → ((H1.1 1826 1) = (H.1 1826 1) ∧ (H1.1 1826 3) = (H.1 1826 3) ∧ (H1.1 1826 8) = (H.1 1826 8) ∧ (H1.1 1826 13) = (H.1 1826 13) ∧ (H1.1 1826 19) = (H.1 1826 19)) → (LSd H1 (2 * l) k0 v) → (LSd H1 (2 * l + 1) k1 v) → ((H1.1 1845) l = v) → ((H1.1 1826 39) = v ∧ v ≤ 6) → (∀ x : Nat, (x : Int) < (H1.1 1826 39) → 0 ≤ (H1.1 1850) x ∧ (H1.1 1850) x < (H1.1 1826 1)) → (i ≤ v) → (∀ x, x < i → (H1.1 1846) (6 * l + x) = (H1.1 1850) x) → (∃ X7 : rx, rch Y c0 (((15, 0, 0, 0) :: ((1, 59, 0, 0) :: (6, nn + 1, 0, 0) :: K)), X7) ∧ RK Y m H1 X7 ∧ (H1.1 1841) l = X7 12 l ∧ X7 0 7 = X 0 7 ∧ WQ H1 (2 * l) X7 (4 * (X 0 7).toNat + 102) ∧ WQ H1 (2 * l + 1) (xsd X7 (4 * (X 0 7).toNat + 103)) (4 * (X 0 7).toNat + 103) ∧ VR H1 X7 ∧ X7 0 8 = 1) → (v - i) < w → hG (zs zC) d mt_187 225 [(0, .inr (.inr 1826)), (1, .inl (l : Int)), (4, .inl (i : Int))] [] H1 (fun r H2 => r = none ∧ GB Y m c0 H2 (∃ X2 : rx, rch Y c0 (((1, 59, 0, 0) :: (6, nn + 1, 0, 0) :: K), X2) ∧ RK Y m H2 X2 ∧ X2 0 7 = X 0 7 + 1 ∧ WQ H2 (2 * (X 0 7).toNat) X2 (4 * (X 0 7).toNat + 102) ∧ WQ H2 (2 * (X 0 7).toNat + 1) X2 (4 * (X 0 7).toNat + 103) ∧ WV H2 (X 0 7).toNat X2) ∧ fr [30, 31, 32, 33, 35, 36, 19, 39, 40, 41, 43, 44, 47] [1841, 1842, 1843, 1844, 1845, 1846, 1847, 1849, 1850, 1851, 1852, 1853, 1854] H H2 ∧ ((H.1 1826 30) ≤ (H2.1 1826 30) ∧ (H2.1 1826 30) ≤ (H.1 1826 29)) ∧ (0 ≤ (H2.1 1826 35) ∧ (H2.1 1826 35) ≤ 5) ∧ ((H.1 1826 35) ≠ 0 → (H2.1 1826 35) ≠ 0) ∧ (0 ≤ (H2.1 1826 32) ∧ (H2.1 1826 32) ≤ 1000) ∧ agp H H2 ∧ ((H2.1 1826 35) = 0 → PWc H2))) := by
  intro w
  induction w with
  | zero => exact fun _ _ _ _ _ _ _ _ _ _ _ _ _ _ _ _ _ _ _ _ _ _ h => absurd h (Nat.not_lt_zero _)
  | succ w ih =>
    intro H1 l i k0 k1 v hf ha hk hst1 hag hgd hr hcn hl0 hl1 hlv hv hvt9 hi hcp hLG hw
    refine h_rng (fun hrg1 => ?_)
    obtain ⟨⟨pb1, pb2, pb3, pb4, pb5⟩, pw1, pw2, pw3, pw4⟩ := (id hP : PW H (H.1 1826 1) (H.1 1826 3) (H.1 1826 8) (H.1 1826 13) (H.1 1826 19))
    obtain ⟨X7, hq7, hR7, hln, h77, hW0, hW1, hV7, h78⟩ := hLG
    have hx7 := hR.2.2.2.2.2.2.2.1.1.2
    have hl9 : l = (X 0 7).toNat := by omega
    refine h_run 3 (pc' := 231) (l' := [(0, .inr (.inr 1826)), (1, .inl (l : Int)), (4, .inl (i : Int))]) (st' := [.inl (H1.1 1826 39), .inl (i : Int)]) rfl ?_
    have g2 : -2147483648 ≤ (H1.1 1826 39) ∧ (H1.1 1826 39) ≤ 2147483647 := hrg1.1 1826 13 39 _ .int rfl rfl
    refine h_ige (off := 28) (t := 259) rfl rfl (by omega) (by omega) (fun c3 => ?_) (fun c3 => ?_)
    · refine h_run 4 (pc' := 265) (l' := [(0, .inr (.inr 1826)), (1, .inl (l : Int)), (4, .inl (i : Int))]) (st' := [.inl 0, .inl (l : Int), .inr (.inr 1847)]) rfl ?_
      refine h_ist (c := 1847) (j := l) (i := (l : Int)) (x := 0) rfl rfl (by decide) (by decide) rfl (by omega) (by decide) ?_
      refine h_run 3 (pc' := 271) (l' := [(0, .inr (.inr 1826)), (1, .inl (l : Int)), (4, .inl (i : Int))]) (st' := [.inl (H1.1 1826 19), .inr (.inr 1826)]) rfl ?_
      have g4 : -2147483648 ≤ (H1.1 1826 19) ∧ (H1.1 1826 19) ≤ 2147483647 := hrg1.1 1826 13 19 _ .int rfl rfl
      refine h_run 2 (pc' := 273) (l' := [(0, .inr (.inr 1826)), (1, .inl (l : Int)), (4, .inl (i : Int))]) (st' := [.inl ((H1.1 1826 19) + 1), .inr (.inr 1826)]) rfl ?_
      refine h_puti (i := 387) (ci := 13) (k := 19) (a := 1826) (x := ((H1.1 1826 19) + 1)) rfl rfl rfl rfl rfl rfl (by decide) (by omega) ?_
      refine h_ret rfl rfl ?_
      have g5 : -2147483648 ≤ (H1.1 1826 30) ∧ (H1.1 1826 30) ≤ 2147483647 := hrg1.1 1826 13 30 _ .int rfl rfl
      have g6 : -2147483648 ≤ (H1.1 1826 35) ∧ (H1.1 1826 35) ≤ 2147483647 := hrg1.1 1826 13 35 _ .int rfl rfl
      have g7 : -2147483648 ≤ (H1.1 1826 32) ∧ (H1.1 1826 32) ≤ 2147483647 := hrg1.1 1826 13 32 _ .int rfl rfl
      have g8 : -2147483648 ≤ (H1.1 1826 31) ∧ (H1.1 1826 31) ≤ 2147483647 := hrg1.1 1826 13 31 _ .int rfl rfl
      have g9 : -2147483648 ≤ (H1.1 1826 29) ∧ (H1.1 1826 29) ≤ 2147483647 := hrg1.1 1826 13 29 _ .int rfl rfl
      have e10 : (H1.1 1826 29) = (H.1 1826 29) := hf.2.2 29 (by decide)
      have g11 : -2147483648 ≤ (H1.1 1826 1) ∧ (H1.1 1826 1) ≤ 2147483647 := hrg1.1 1826 13 1 _ .int rfl rfl
      have e12 : (H1.1 1826 1) = (H.1 1826 1) := hf.2.2 1 (by decide)
      have g13 : -2147483648 ≤ (H1.1 1826 3) ∧ (H1.1 1826 3) ≤ 2147483647 := hrg1.1 1826 13 3 _ .int rfl rfl
      have e14 : (H1.1 1826 3) = (H.1 1826 3) := hf.2.2 3 (by decide)
      have g15 : -2147483648 ≤ (H1.1 1826 8) ∧ (H1.1 1826 8) ≤ 2147483647 := hrg1.1 1826 13 8 _ .int rfl rfl
      have e16 : (H1.1 1826 8) = (H.1 1826 8) := hf.2.2 8 (by decide)
      have g17 : -2147483648 ≤ (H1.1 1826 13) ∧ (H1.1 1826 13) ≤ 2147483647 := hrg1.1 1826 13 13 _ .int rfl rfl
      have e18 : (H1.1 1826 13) = (H.1 1826 13) := hf.2.2 13 (by decide)
      exact ⟨rfl, (Or.inl ⟨(by omega : (H1.1 1826 35) = 0), xu (xsd X7 (4 * (X 0 7).toNat + 103)) 0 7 (X7 0 7 + 1), (by rw [← h77]; exact rch_st hq7 rfl), RK_law (l := l) (X := xsd X7 (4 * (X 0 7).toNat + 103)) (RK_sT hR7 (sT_sd X7 _) rfl) (fr_o (fr_a (fr_rf [19] [1847] H1) (by decide)) (by decide)) (by decide) (by decide) rfl (by omega) hln, (by rw [xu_1, h77]), WQ_fr (show WQ H1 (2 * (X 0 7).toNat) (xu (xsd X7 (4 * (X 0 7).toNat + 103)) 0 7 (X7 0 7 + 1)) (4 * (X 0 7).toNat + 102) from WQ_x (X := X7) (by have q9 := hW0; rw [hl9] at q9; exact q9) ((xu_ne _ _ _ (by omega)).trans (xsd_ne X7 (by omega)))) (fr_o (fr_a (fr_rf [19] [1847] H1) (by decide)) (by decide)) (by decide), WQ_fr (show WQ H1 (2 * (X 0 7).toNat + 1) (xu (xsd X7 (4 * (X 0 7).toNat + 103)) 0 7 (X7 0 7 + 1)) (4 * (X 0 7).toNat + 103) from WQ_x (X := xsd X7 (4 * (X 0 7).toNat + 103)) (by have q9 := hW1; rw [hl9] at q9; exact q9) (xu_ne _ _ _ (by omega))) (fr_o (fr_a (fr_rf [19] [1847] H1) (by decide)) (by decide)) (by decide), WV_fr (show WV H1 (X 0 7).toNat (xu (xsd X7 (4 * (X 0 7).toNat + 103)) 0 7 (X7 0 7 + 1)) from (by rw [← hl9]; exact WV_of (v := v) hV7 h78 hlv hv (fun x hx9 => hcp x (by omega)) (xu_ne _ _ _ (by omega)))) (fr_o (fr_a (fr_rf [19] [1847] H1) (by decide)) (by decide)) (by decide)⟩), (fr_o (fr_a hf (by decide)) (by decide)), (by omega : (H.1 1826 30) ≤ (H1.1 1826 30) ∧ (H1.1 1826 30) ≤ (H.1 1826 29)), (by omega : 0 ≤ (H1.1 1826 35) ∧ (H1.1 1826 35) ≤ 5), (by omega : (H.1 1826 35) ≠ 0 → (H1.1 1826 35) ≠ 0), (by omega : 0 ≤ (H1.1 1826 32) ∧ (H1.1 1826 32) ≤ 1000), (agp_n19 (agp_a hag (by decide)) (by omega : (H.1 1826 19) ≤ ((H1.1 1826 19) + 1))), (fun _ => PW_law (l := l) (k0 := k0) (k1 := k1) (v := v) hP (agp_n19 (agp_a hag (by decide)) (by omega : (H.1 1826 19) ≤ ((H1.1 1826 19) + 1))) ⟨hcn.1, hcn.2.1, hcn.2.2.1, hcn.2.2.2.1⟩ ⟨by omega, by omega, (by omega : ((H1.1 1826 19) + 1) = (H.1 1826 19) + 1)⟩ hl0 hl1 ⟨hlv, by omega⟩ (fun x hx => by show 0 ≤ (H1.1 1846) (6 * l + x) ∧ (H1.1 1846) (6 * l + x) < (H1.1 1826 1); rw [hcp x (by omega)]; exact hvt9 x (by omega)))⟩
    · refine h_run 10 (pc' := 251) (l' := [(0, .inr (.inr 1826)), (1, .inl (l : Int)), (4, .inl (i : Int))]) (st' := [.inl (i : Int), .inr (.inr 1850), .inl ((6 * (l : Int)) + (i : Int)), .inr (.inr 1846)]) rfl ?_
      refine h_ild (c := 1850) (j := i) (i := (i : Int)) rfl rfl (by decide) rfl (by omega) ?_
      have g19 : -2147483648 ≤ (H1.1 1850 i) ∧ (H1.1 1850 i) ≤ 2147483647 := hrg1.2 1850 i 48 .int rfl (by omega)
      refine h_run 0 (pc' := 252) (l' := [(0, .inr (.inr 1826)), (1, .inl (l : Int)), (4, .inl (i : Int))]) (st' := [.inl (H1.1 1850 i), .inl ((6 * (l : Int)) + (i : Int)), .inr (.inr 1846)]) rfl ?_
      refine h_ist (c := 1846) (j := ((6 * l) + i)) (i := ((6 * (l : Int)) + (i : Int))) (x := (H1.1 1850 i)) rfl rfl (by decide) (by decide) (by omega) (by omega) (by omega) ?_
      refine h_run 2 (pc' := 225) (l' := [(0, .inr (.inr 1826)), (1, .inl (l : Int)), (4, .inl ((i : Int) + 1))]) (st' := []) rfl ?_
      have g20 : -2147483648 ≤ (H1.1 1826 30) ∧ (H1.1 1826 30) ≤ 2147483647 := hrg1.1 1826 13 30 _ .int rfl rfl
      have g21 : -2147483648 ≤ (H1.1 1826 35) ∧ (H1.1 1826 35) ≤ 2147483647 := hrg1.1 1826 13 35 _ .int rfl rfl
      have g22 : -2147483648 ≤ (H1.1 1826 32) ∧ (H1.1 1826 32) ≤ 2147483647 := hrg1.1 1826 13 32 _ .int rfl rfl
      have g23 : -2147483648 ≤ (H1.1 1826 31) ∧ (H1.1 1826 31) ≤ 2147483647 := hrg1.1 1826 13 31 _ .int rfl rfl
      have g24 : -2147483648 ≤ (H1.1 1826 29) ∧ (H1.1 1826 29) ≤ 2147483647 := hrg1.1 1826 13 29 _ .int rfl rfl
      have e25 : (H1.1 1826 29) = (H.1 1826 29) := hf.2.2 29 (by decide)
      have g26 : -2147483648 ≤ (H1.1 1826 1) ∧ (H1.1 1826 1) ≤ 2147483647 := hrg1.1 1826 13 1 _ .int rfl rfl
      have e27 : (H1.1 1826 1) = (H.1 1826 1) := hf.2.2 1 (by decide)
      have g28 : -2147483648 ≤ (H1.1 1826 3) ∧ (H1.1 1826 3) ≤ 2147483647 := hrg1.1 1826 13 3 _ .int rfl rfl
      have e29 : (H1.1 1826 3) = (H.1 1826 3) := hf.2.2 3 (by decide)
      have g30 : -2147483648 ≤ (H1.1 1826 8) ∧ (H1.1 1826 8) ≤ 2147483647 := hrg1.1 1826 13 8 _ .int rfl rfl
      have e31 : (H1.1 1826 8) = (H.1 1826 8) := hf.2.2 8 (by decide)
      have g32 : -2147483648 ≤ (H1.1 1826 13) ∧ (H1.1 1826 13) ≤ 2147483647 := hrg1.1 1826 13 13 _ .int rfl rfl
      have e33 : (H1.1 1826 13) = (H.1 1826 13) := hf.2.2 13 (by decide)
      have g34 : -2147483648 ≤ (H1.1 1826 19) ∧ (H1.1 1826 19) ≤ 2147483647 := hrg1.1 1826 13 19 _ .int rfl rfl
      rw [show ((i : Int) + 1) = (((i + 1) : Nat) : Int) by omega]
      exact ih _ (l) (i + 1) (k0) (k1) (v) (fr_a hf (by decide)) (by omega : (H.1 1826 30) ≤ (H1.1 1826 30) ∧ (H1.1 1826 30) ≤ (H.1 1826 29)) (by omega : 0 ≤ (H1.1 1826 35) ∧ (H1.1 1826 35) ≤ 5) (by omega : 0 ≤ (H1.1 1826 32) ∧ (H1.1 1826 32) ≤ 1000) (agp_1846 hag (by omega : 6 * (H.1 1826 19) ≤ ((((6 * l) + i) : Nat) : Int))) (by omega : (H1.1 1826 35) = 0) (by omega : ((l) : Int) = (H.1 1826 19) ∧ (H.1 1826 19) ≤ 15) (by omega : (H1.1 1826 1) = (H.1 1826 1) ∧ (H1.1 1826 3) = (H.1 1826 3) ∧ (H1.1 1826 8) = (H.1 1826 8) ∧ (H1.1 1826 13) = (H.1 1826 13) ∧ (H1.1 1826 19) = (H.1 1826 19)) hl0 hl1 hlv (by omega : (H1.1 1826 39) = (v) ∧ (v) ≤ 6) hvt9 (by omega) (cp_up hcp : ∀ x, x < i + 1 → up (H1.1 1846) (6 * l + i) ((H1.1 1850) i) (6 * l + x) = (H1.1 1850) x) ⟨X7, hq7, RK_fr hR7 (fr_a (fr_rf [] [1846] H1) (by decide)) (by decide) (by decide), hln, h77, WQ_fr hW0 (fr_a (fr_rf [] [1846] H1) (by decide)) (by decide), WQ_fr hW1 (fr_a (fr_rf [] [1846] H1) (by decide)) (by decide), VR_eq hV7 rfl rfl rfl rfl rfl, h78⟩ (by omega : ((v) - (i + 1)) < w)
set_option maxRecDepth 100000 in
theorem n_tellLaw {zC : Nat → Option zsh} {d : Nat} (hd : 8 ≤ d) {H : hp}  {Y : yx} {m : Int} {c0 : cf} {K : List tq} {X : rx} {nn : Int} (h0 : 0 ≤ (H.1 1826 30) ∧ (H.1 1826 30) ≤ (H.1 1826 29) ∧ (H.1 1826 29) ≤ 1000) (hw : 0 ≤ (H.1 1826 35) ∧ (H.1 1826 35) ≤ 5) (hst : 0 ≤ (H.1 1826 32) ∧ (H.1 1826 32) ≤ 1000) (hP : PWc H) (hw0 : (H.1 1826 35) = 0) (hR : RK Y m H X) (hmf : (H.1 1826 8) = m) (hq : rch Y c0 ((6, nn, 0, 0) :: K, X)) (htk : tk Y (xi X) = 7) : hG (zs zC) d mt_187 0 (zargs 0 [.inr (.inr 1826)]) [] H (fun r H2 => r = none ∧ GB Y m c0 H2 (∃ X2 : rx, rch Y c0 (((1, 59, 0, 0) :: (6, nn + 1, 0, 0) :: K), X2) ∧ RK Y m H2 X2 ∧ X2 0 7 = X 0 7 + 1 ∧ WQ H2 (2 * (X 0 7).toNat) X2 (4 * (X 0 7).toNat + 102) ∧ WQ H2 (2 * (X 0 7).toNat + 1) X2 (4 * (X 0 7).toNat + 103) ∧ WV H2 (X 0 7).toNat X2) ∧ fr [30, 31, 32, 33, 35, 36, 19, 39, 40, 41, 43, 44, 47] [1841, 1842, 1843, 1844, 1845, 1846, 1847, 1849, 1850, 1851, 1852, 1853, 1854] H H2 ∧ ((H.1 1826 30) ≤ (H2.1 1826 30) ∧ (H2.1 1826 30) ≤ (H.1 1826 29)) ∧ (0 ≤ (H2.1 1826 35) ∧ (H2.1 1826 35) ≤ 5) ∧ ((H.1 1826 35) ≠ 0 → (H2.1 1826 35) ≠ 0) ∧ (0 ≤ (H2.1 1826 32) ∧ (H2.1 1826 32) ≤ 1000) ∧ agp H H2 ∧ ((H2.1 1826 35) = 0 → PWc H2)) := by
  refine h_rng (fun hrg0 => ?_)
  refine h_run 0 (pc' := 0) (l' := [(0, .inr (.inr 1826))]) (st' := []) rfl ?_
  obtain ⟨⟨pb1, pb2, pb3, pb4, pb5⟩, pw1, pw2, pw3, pw4⟩ := (id hP : PW H (H.1 1826 1) (H.1 1826 3) (H.1 1826 8) (H.1 1826 13) (H.1 1826 19))
  have hx7 := hR.2.2.2.2.2.2.2.1.1.2
  have ha7 : adv X 0 7 = X 0 7 := (sT_adv X).2.2 7 (by decide) (by decide)
  refine h_run 1 (pc' := 1) (l' := [(0, .inr (.inr 1826))]) (st' := [.inr (.inr 1826)]) rfl ?_
  have g35 : -2147483648 ≤ (H.1 1826 30) ∧ (H.1 1826 30) ≤ 2147483647 := hrg0.1 1826 13 30 _ .int rfl rfl
  have g36 : -2147483648 ≤ (H.1 1826 29) ∧ (H.1 1826 29) ≤ 2147483647 := hrg0.1 1826 13 29 _ .int rfl rfl
  have g37 : -2147483648 ≤ (H.1 1826 35) ∧ (H.1 1826 35) ≤ 2147483647 := hrg0.1 1826 13 35 _ .int rfl rfl
  have g38 : -2147483648 ≤ (H.1 1826 32) ∧ (H.1 1826 32) ≤ 2147483647 := hrg0.1 1826 13 32 _ .int rfl rfl
  refine h_cv (i := 297) (j := 165) (b := 1826) (M' := mt_165) (xs := []) (rest := []) rfl rfl rfl rfl rfl rfl (Nat.le_of_ble_eq_true rfl) (Nat.le_of_ble_eq_true rfl) (by omega) (n_nx2 (by omega) (by omega : 0 ≤ (H.1 1826 30) ∧ (H.1 1826 30) ≤ (H.1 1826 29) ∧ (H.1 1826 29) ≤ 1000) (by omega : 0 ≤ (H.1 1826 35) ∧ (H.1 1826 35) ≤ 5) (by omega : 0 ≤ (H.1 1826 32) ∧ (H.1 1826 32) ≤ 1000) (by omega : (H.1 1826 35) = 0) (X := (adv X)) (RN_adv hR (fr_rf [] [] _) (by decide) (by decide)) (fun q9 => (rch_st hq (by show stDec Y nn K X = _; unfold stDec miss; (repeat (first | rw [if_pos (by omega)] | rw [if_neg (by omega)])); try (first | rfl | (exfalso; omega)))))) ?_
  rintro _ H39 ⟨rfl, hx39n, hx39f, hx39a, hx39b, hx39c, -, hx39e, hx39g⟩
  refine h_rng (fun hrg40 => ?_)
  have hf41 : fr [30, 31, 32, 33, 35, 36, 19, 39, 40, 41, 43, 44, 47] [1841, 1842, 1843, 1844, 1845, 1846, 1847, 1849, 1850, 1851, 1852, 1853, 1854] H H39 := fr_t (fr_rf _ _ _) hx39f (by decide) (by decide)
  have ha42 : agp H H39 := agp_tr (agp_rf _) (agp_fr hx39f (by decide) (by decide))
  replace hx39a : (H.1 1826 30) ≤ (H39.1 1826 30) := hx39a
  replace hx39b : (H39.1 1826 30) ≤ (H.1 1826 29) := hx39b
  replace hx39g : (H39.1 1826 35) = 0 → ((H39.1 1826 31) = 0 ∨ (H.1 1826 30) < (H39.1 1826 30)) := hx39g
  refine h_run 0 (pc' := 4) (l' := [(0, .inr (.inr 1826))]) (st' := []) rfl ?_
  refine h_run 1 (pc' := 5) (l' := [(0, .inr (.inr 1826))]) (st' := [.inr (.inr 1826)]) rfl ?_
  have g43 : -2147483648 ≤ (H39.1 1826 35) ∧ (H39.1 1826 35) ≤ 2147483647 := hrg40.1 1826 13 35 _ .int rfl rfl
  refine h_cv (i := 293) (j := 158) (b := 1826) (M' := mt_158) (xs := []) (rest := []) rfl rfl rfl rfl rfl rfl (Nat.le_of_ble_eq_true rfl) (Nat.le_of_ble_eq_true rfl) (by omega) (m_good (by omega)) ?_
  rintro _ _ ⟨⟨rfl, b44⟩ | ⟨rfl, b44⟩, rfl⟩
  · have b44x : (H39.1 1826 35) = 0 := b44
    replace hx39g := hx39g b44x
    refine h_run 0 (pc' := 8) (l' := [(0, .inr (.inr 1826))]) (st' := [.inl 1]) rfl ?_
    refine h_zeq (off := 16) (t := 24) rfl rfl (by decide) (fun c => absurd c (by decide)) (fun _ => ?_)
    have hR1 := GB_g hx39n (by omega)
    have htk1 := RK_t hR1
    have hy7 := hR1.2.2.2.2.2.2.2.1.1.2
    refine h_run 2 (pc' := 15) (l' := [(0, .inr (.inr 1826))]) (st' := [.inl (H39.1 1826 31)]) rfl ?_
    have g45 : -2147483648 ≤ (H39.1 1826 31) ∧ (H39.1 1826 31) ≤ 2147483647 := hrg40.1 1826 13 31 _ .int rfl rfl
    refine h_run 1 (pc' := 16) (l' := [(0, .inr (.inr 1826))]) (st' := [.inl 1, .inl (H39.1 1826 31)]) rfl ?_
    refine h_ieq (off := 8) (t := 24) rfl rfl (by omega) (by decide) (fun c46 => ?_) (fun c46 => ?_)
    · refine h_run 1 (pc' := 25) (l' := [(0, .inr (.inr 1826))]) (st' := [.inr (.inr 1826)]) rfl ?_
      refine h_cv (i := 293) (j := 158) (b := 1826) (M' := mt_158) (xs := []) (rest := []) rfl rfl rfl rfl rfl rfl (Nat.le_of_ble_eq_true rfl) (Nat.le_of_ble_eq_true rfl) (by omega) (m_good1 (by omega) (by omega : (H39.1 1826 35) = 0)) ?_
      rintro _ _ ⟨rfl, rfl⟩
      refine h_run 0 (pc' := 28) (l' := [(0, .inr (.inr 1826))]) (st' := [.inl 1]) rfl ?_
      refine h_zeq (off := 27) (t := 55) rfl rfl (by decide) (fun c => absurd c (by decide)) (fun _ => ?_)
      refine h_run 4 (pc' := 39) (l' := [(0, .inr (.inr 1826))]) (st' := [.inl (H39.1 1826 19), .inr (.inr 1841)]) rfl ?_
      have g47 : -2147483648 ≤ (H39.1 1826 19) ∧ (H39.1 1826 19) ≤ 2147483647 := hrg40.1 1826 13 19 _ .int rfl rfl
      have e48 : (H39.1 1826 19) = (H.1 1826 19) := hx39f.2.2 19 (by decide)
      refine h_run 2 (pc' := 43) (l' := [(0, .inr (.inr 1826))]) (st' := [.inr (.inl (H39.1 1826 33)), .inl (H39.1 1826 19), .inr (.inr 1841)]) rfl ?_
      have g49 : -9223372036854775808 ≤ (H39.1 1826 33) ∧ (H39.1 1826 33) ≤ 9223372036854775807 := hrg40.1 1826 13 33 _ .long rfl rfl
      refine h_cs (i := 309) (j := 167) (M' := mt_167) (xs := [.inr (.inl (H39.1 1826 33)), .inl (H39.1 1826 19), .inr (.inr 1841)]) (rest := []) rfl rfl rfl rfl rfl (Nat.le_of_ble_eq_true rfl) (Nat.le_of_ble_eq_true rfl) (by omega) (n_find (by omega) (m := 16) (z := lfd Y (adv X)) rfl (by omega : 0 ≤ (H39.1 1826 19) ∧ (H39.1 1826 19) ≤ ((16 : Nat) : Int) ∧ 16 ≤ 100) (by omega) (RK_lf hR1 (Or.inl (by omega)))) ?_
      rintro _ _ ⟨⟨k50, rfl, f51, f51x⟩ | ⟨rfl, f51⟩, rfl⟩
      · refine h_run 0 (pc' := 46) (l' := [(0, .inr (.inr 1826))]) (st' := [.inl (k50 : Int)]) rfl ?_
        refine h_run 1 (pc' := 47) (l' := [(0, .inr (.inr 1826))]) (st' := [.inl (-1), .inl (k50 : Int)]) rfl ?_
        refine h_ieq (off := 8) (t := 55) rfl rfl (by omega) (by decide) (fun c52 => ?_) (fun c52 => ?_)
        · exfalso
          omega
        · refine h_run 2 (pc' := 52) (l' := [(0, .inr (.inr 1826))]) (st' := [.inl 3, .inr (.inr 1826)]) rfl ?_
          refine h_cv (i := 278) (j := 159) (b := 1826) (M' := mt_159) (xs := [.inl 3]) (rest := []) rfl rfl rfl rfl rfl rfl (Nat.le_of_ble_eq_true rfl) (Nat.le_of_ble_eq_true rfl) (by omega) (m_bad0 (by omega) (by omega) (by omega : (H39.1 1826 35) = 0)) ?_
          rintro _ _ ⟨rfl, rfl⟩
          refine h_run 0 (pc' := 55) (l' := [(0, .inr (.inr 1826))]) (st' := []) rfl ?_
          refine h_run 1 (pc' := 56) (l' := [(0, .inr (.inr 1826))]) (st' := [.inr (.inr 1826)]) rfl ?_
          refine h_cv (i := 293) (j := 158) (b := 1826) (M' := mt_158) (xs := []) (rest := []) rfl rfl rfl rfl rfl rfl (Nat.le_of_ble_eq_true rfl) (Nat.le_of_ble_eq_true rfl) (by omega) (m_good0 (by omega) (by omega : (3 : Int) ≠ 0)) ?_
          rintro _ _ ⟨rfl, rfl⟩
          refine h_run 0 (pc' := 59) (l' := [(0, .inr (.inr 1826))]) (st' := [.inl 0]) rfl ?_
          refine h_zeq (off := 17) (t := 76) rfl rfl (by decide) (fun _ => ?_) (fun c => absurd c (by decide))
          refine h_run 1 (pc' := 77) (l' := [(0, .inr (.inr 1826))]) (st' := [.inr (.inr 1826)]) rfl ?_
          refine h_cv (i := 293) (j := 158) (b := 1826) (M' := mt_158) (xs := []) (rest := []) rfl rfl rfl rfl rfl rfl (Nat.le_of_ble_eq_true rfl) (Nat.le_of_ble_eq_true rfl) (by omega) (m_good0 (by omega) (by omega : (3 : Int) ≠ 0)) ?_
          rintro _ _ ⟨rfl, rfl⟩
          refine h_run 0 (pc' := 80) (l' := [(0, .inr (.inr 1826))]) (st' := [.inl 0]) rfl ?_
          refine h_zne (off := 4) (t := 84) rfl rfl (by decide) (fun c => absurd c (by decide)) (fun _ => ?_)
          refine h_ret rfl rfl ?_
          have g53 : -2147483648 ≤ (H39.1 1826 30) ∧ (H39.1 1826 30) ≤ 2147483647 := hrg40.1 1826 13 30 _ .int rfl rfl
          have g54 : -2147483648 ≤ (H39.1 1826 32) ∧ (H39.1 1826 32) ≤ 2147483647 := hrg40.1 1826 13 32 _ .int rfl rfl
          have g55 : -2147483648 ≤ (H39.1 1826 29) ∧ (H39.1 1826 29) ≤ 2147483647 := hrg40.1 1826 13 29 _ .int rfl rfl
          have e56 : (H39.1 1826 29) = (H.1 1826 29) := hx39f.2.2 29 (by decide)
          have g57 : -2147483648 ≤ (H39.1 1826 1) ∧ (H39.1 1826 1) ≤ 2147483647 := hrg40.1 1826 13 1 _ .int rfl rfl
          have e58 : (H39.1 1826 1) = (H.1 1826 1) := hx39f.2.2 1 (by decide)
          have g59 : -2147483648 ≤ (H39.1 1826 3) ∧ (H39.1 1826 3) ≤ 2147483647 := hrg40.1 1826 13 3 _ .int rfl rfl
          have e60 : (H39.1 1826 3) = (H.1 1826 3) := hx39f.2.2 3 (by decide)
          have g61 : -2147483648 ≤ (H39.1 1826 8) ∧ (H39.1 1826 8) ≤ 2147483647 := hrg40.1 1826 13 8 _ .int rfl rfl
          have e62 : (H39.1 1826 8) = (H.1 1826 8) := hx39f.2.2 8 (by decide)
          have g63 : -2147483648 ≤ (H39.1 1826 13) ∧ (H39.1 1826 13) ≤ 2147483647 := hrg40.1 1826 13 13 _ .int rfl rfl
          have e64 : (H39.1 1826 13) = (H.1 1826 13) := hx39f.2.2 13 (by decide)
          have g65 : -2147483648 ≤ (H39.1 1826 39) ∧ (H39.1 1826 39) ≤ 2147483647 := hrg40.1 1826 13 39 _ .int rfl rfl
          have e66 : (H39.1 1826 39) = (H.1 1826 39) := hx39f.2.2 39 (by decide)
          exact ⟨rfl, (Or.inr ⟨(by omega : (3 : Int) ≠ 0), (BD_mk hR1 (fr_o (fr_o (fr_rf [35, 36] [] H39) (by decide)) (by decide)) (by decide) (by decide) (by decide : (3 : Int) ≠ 0) rfl rfl (rch_st hq (by show stDec Y nn K X = _; unfold stDec miss; (repeat (first | rw [if_pos (by omega)] | rw [if_neg (by omega)])); try (first | rfl | (exfalso; omega)))))⟩), (fr_o (fr_o hf41 (by decide)) (by decide)), (by omega : (H.1 1826 30) ≤ (H39.1 1826 30) ∧ (H39.1 1826 30) ≤ (H.1 1826 29)), (by omega : 0 ≤ (3 : Int) ∧ (3 : Int) ≤ 5), (by omega : (H.1 1826 35) ≠ 0 → (3 : Int) ≠ 0), (by omega : 0 ≤ (H39.1 1826 32) ∧ (H39.1 1826 32) ≤ 1000), (agp_o (agp_o ha42 (by decide)) (by decide)), (fun (q : (3 : Int) = 0) => absurd q (by omega))⟩
      · refine h_run 0 (pc' := 46) (l' := [(0, .inr (.inr 1826))]) (st' := [.inl (-1)]) rfl ?_
        refine h_run 1 (pc' := 47) (l' := [(0, .inr (.inr 1826))]) (st' := [.inl (-1), .inl (-1)]) rfl ?_
        refine h_ieq (off := 8) (t := 55) rfl rfl (by decide) (by decide) (fun _ => ?_) (fun c => absurd c (by decide))
        refine h_run 1 (pc' := 56) (l' := [(0, .inr (.inr 1826))]) (st' := [.inr (.inr 1826)]) rfl ?_
        refine h_cv (i := 293) (j := 158) (b := 1826) (M' := mt_158) (xs := []) (rest := []) rfl rfl rfl rfl rfl rfl (Nat.le_of_ble_eq_true rfl) (Nat.le_of_ble_eq_true rfl) (by omega) (m_good1 (by omega) (by omega : (H39.1 1826 35) = 0)) ?_
        rintro _ _ ⟨rfl, rfl⟩
        refine h_run 0 (pc' := 59) (l' := [(0, .inr (.inr 1826))]) (st' := [.inl 1]) rfl ?_
        refine h_zeq (off := 17) (t := 76) rfl rfl (by decide) (fun c => absurd c (by decide)) (fun _ => ?_)
        refine h_run 2 (pc' := 66) (l' := [(0, .inr (.inr 1826))]) (st' := [.inl (H39.1 1826 19)]) rfl ?_
        refine h_run 1 (pc' := 68) (l' := [(0, .inr (.inr 1826))]) (st' := [.inl 16, .inl (H39.1 1826 19)]) rfl ?_
        refine h_ine (off := 8) (t := 76) rfl rfl (by omega) (by decide) (fun c67 => ?_) (fun c67 => ?_)
        · refine h_run 1 (pc' := 77) (l' := [(0, .inr (.inr 1826))]) (st' := [.inr (.inr 1826)]) rfl ?_
          refine h_cv (i := 293) (j := 158) (b := 1826) (M' := mt_158) (xs := []) (rest := []) rfl rfl rfl rfl rfl rfl (Nat.le_of_ble_eq_true rfl) (Nat.le_of_ble_eq_true rfl) (by omega) (m_good1 (by omega) (by omega : (H39.1 1826 35) = 0)) ?_
          rintro _ _ ⟨rfl, rfl⟩
          refine h_run 0 (pc' := 80) (l' := [(0, .inr (.inr 1826))]) (st' := [.inl 1]) rfl ?_
          refine h_zne (off := 4) (t := 84) rfl rfl (by decide) (fun _ => ?_) (fun c => absurd c (by decide))
          refine h_run 2 (pc' := 88) (l' := [(0, .inr (.inr 1826))]) (st' := [.inl (H39.1 1826 19)]) rfl ?_
          refine h_run 1 (pc' := 89) (l' := [(0, .inr (.inr 1826)), (1, .inl (H39.1 1826 19))]) (st' := []) rfl ?_
          obtain ⟨l, hl⟩ : ∃ k9 : Nat, (H39.1 1826 19) = (k9 : Int) := ⟨((H39.1 1826 19)).toNat, by omega⟩
          rw [show (H39.1 1826 19) = (l : Int) from hl]
          refine h_run 5 (pc' := 98) (l' := [(0, .inr (.inr 1826)), (1, .inl (l : Int))]) (st' := [.inr (.inl (H39.1 1826 33)), .inl (l : Int), .inr (.inr 1841)]) rfl ?_
          refine h_lst (c := 1841) (j := l) (i := (l : Int)) (x := (H39.1 1826 33)) rfl rfl (by decide) (by decide) rfl (by omega) (by first | omega | exact z_long _) ?_
          have hq3 : rch Y c0 ((1, 58, 0, 0) :: (2, -2, 0, 0) :: ((1, 61, 0, 0) :: (14, 0, 0, 0) :: ((15, 0, 0, 0) :: ((1, 59, 0, 0) :: (6, nn + 1, 0, 0) :: K))), (xl (adv X) l (tn Y (xi (adv X))))) := by rw [show l = (X 0 7).toNat by omega]; exact (rch_st hq (by show stDec Y nn K X = _; unfold stDec miss; (repeat (first | rw [if_pos (by omega)] | rw [if_neg (by omega)])); try (first | rfl | (exfalso; omega))))
          refine h_run 1 (pc' := 100) (l' := [(0, .inr (.inr 1826)), (1, .inl (l : Int))]) (st' := [.inr (.inr 1826)]) rfl ?_
          have g68 : -2147483648 ≤ (H39.1 1826 30) ∧ (H39.1 1826 30) ≤ 2147483647 := hrg40.1 1826 13 30 _ .int rfl rfl
          have g69 : -2147483648 ≤ (H39.1 1826 29) ∧ (H39.1 1826 29) ≤ 2147483647 := hrg40.1 1826 13 29 _ .int rfl rfl
          have e70 : (H39.1 1826 29) = (H.1 1826 29) := hx39f.2.2 29 (by decide)
          have g71 : -2147483648 ≤ (H39.1 1826 32) ∧ (H39.1 1826 32) ≤ 2147483647 := hrg40.1 1826 13 32 _ .int rfl rfl
          refine h_cv (i := 297) (j := 165) (b := 1826) (M' := mt_165) (xs := []) (rest := []) rfl rfl rfl rfl rfl rfl (Nat.le_of_ble_eq_true rfl) (Nat.le_of_ble_eq_true rfl) (by omega) (n_nx (by omega) (by omega : 0 ≤ (H39.1 1826 30) ∧ (H39.1 1826 30) ≤ (H39.1 1826 29) ∧ (H39.1 1826 29) ≤ 1000) (by omega : 0 ≤ (H39.1 1826 35) ∧ (H39.1 1826 35) ≤ 5) (by omega : 0 ≤ (H39.1 1826 32) ∧ (H39.1 1826 32) ≤ 1000) (by omega : (H39.1 1826 35) = 0) (X := (xl (adv X) l (tn Y (xi (adv X))))) (RN_mk hR1 (fr_a (fr_rf [] [1841] H39) (by decide)) (by decide) (by decide) (xl_s _ _ _).1 (by rw [← RK_n hR1 (Or.inl (by omega))]; exact TA_ln hR1.2.2.2.2 (by omega))) hq3 (lk_1 (by decide))) ?_
          rintro _ H72 ⟨rfl, hx72n, hx72f, hx72a, hx72b, hx72c, -, hx72e, hx72g⟩
          refine h_rng (fun hrg73 => ?_)
          have hf74 : fr [30, 31, 32, 33, 35, 36, 19, 39, 40, 41, 43, 44, 47] [1841, 1842, 1843, 1844, 1845, 1846, 1847, 1849, 1850, 1851, 1852, 1853, 1854] H H72 := fr_t (fr_a hf41 (by decide)) hx72f (by decide) (by decide)
          have ha75 : agp H H72 := agp_tr (agp_a ha42 (by decide)) (agp_fr hx72f (by decide) (by decide))
          replace hx72a : (H39.1 1826 30) ≤ (H72.1 1826 30) := hx72a
          replace hx72b : (H72.1 1826 30) ≤ (H39.1 1826 29) := hx72b
          replace hx72g : (H72.1 1826 35) = 0 → ((H72.1 1826 31) = 0 ∨ (H39.1 1826 30) < (H72.1 1826 30)) := hx72g
          refine h_run 0 (pc' := 103) (l' := [(0, .inr (.inr 1826)), (1, .inl (l : Int))]) (st' := []) rfl ?_
          have g76 : -2147483648 ≤ (H72.1 1826 35) ∧ (H72.1 1826 35) ≤ 2147483647 := hrg73.1 1826 13 35 _ .int rfl rfl
          by_cases b77 : (H72.1 1826 35) = 0
          · skip
            replace hx72g := hx72g b77
            refine h_run 2 (pc' := 106) (l' := [(0, .inr (.inr 1826)), (1, .inl (l : Int))]) (st' := [.inl 58, .inr (.inr 1826)]) rfl ?_
            have g78 : -2147483648 ≤ (H72.1 1826 30) ∧ (H72.1 1826 30) ≤ 2147483647 := hrg73.1 1826 13 30 _ .int rfl rfl
            have g79 : -2147483648 ≤ (H72.1 1826 29) ∧ (H72.1 1826 29) ≤ 2147483647 := hrg73.1 1826 13 29 _ .int rfl rfl
            have e80 : (H72.1 1826 29) = (H39.1 1826 29) := hx72f.2.2 29 (by decide)
            have g81 : -2147483648 ≤ (H72.1 1826 31) ∧ (H72.1 1826 31) ≤ 2147483647 := hrg73.1 1826 13 31 _ .int rfl rfl
            have g83 : -2147483648 ≤ (H72.1 1826 32) ∧ (H72.1 1826 32) ≤ 2147483647 := hrg73.1 1826 13 32 _ .int rfl rfl
            refine h_cv (i := 313) (j := 166) (b := 1826) (M' := mt_166) (xs := [.inl 58]) (rest := []) rfl rfl rfl rfl rfl rfl (Nat.le_of_ble_eq_true rfl) (Nat.le_of_ble_eq_true rfl) (by omega) (n_want (by omega) (by omega : 0 ≤ (H72.1 1826 30) ∧ (H72.1 1826 30) ≤ (H72.1 1826 29) ∧ (H72.1 1826 29) ≤ 1000) (by omega : 0 ≤ (H72.1 1826 35) ∧ (H72.1 1826 35) ≤ 5) (by omega : 0 ≤ (H72.1 1826 32) ∧ (H72.1 1826 32) ≤ 1000) (by omega) (by omega : (H72.1 1826 35) = 0) (GB_g hx72n (by omega)) hq3 (lk_n (by decide))) ?_
            rintro _ H82 ⟨rfl, hx82n, hx82f, hx82a, hx82b, hx82c, -, hx82e, hx82g⟩
            refine h_rng (fun hrg84 => ?_)
            have hf85 : fr [30, 31, 32, 33, 35, 36, 19, 39, 40, 41, 43, 44, 47] [1841, 1842, 1843, 1844, 1845, 1846, 1847, 1849, 1850, 1851, 1852, 1853, 1854] H H82 := fr_t hf74 hx82f (by decide) (by decide)
            have ha86 : agp H H82 := agp_tr ha75 (agp_fr hx82f (by decide) (by decide))
            replace hx82a : (H72.1 1826 30) ≤ (H82.1 1826 30) := hx82a
            replace hx82b : (H82.1 1826 30) ≤ (H72.1 1826 29) := hx82b
            replace hx82g : (H82.1 1826 35) = 0 → (H72.1 1826 31) = (58 : Int) ∧ ((H82.1 1826 31) = 0 ∨ (H72.1 1826 30) < (H82.1 1826 30)) := hx82g
            refine h_run 0 (pc' := 109) (l' := [(0, .inr (.inr 1826)), (1, .inl (l : Int))]) (st' := []) rfl ?_
            have g87 : -2147483648 ≤ (H82.1 1826 35) ∧ (H82.1 1826 35) ≤ 2147483647 := hrg84.1 1826 13 35 _ .int rfl rfl
            by_cases b88 : (H82.1 1826 35) = 0
            · skip
              replace hx82g := hx82g b88
              refine h_run 1 (pc' := 110) (l' := [(0, .inr (.inr 1826)), (1, .inl (l : Int))]) (st' := [.inr (.inr 1826)]) rfl ?_
              refine h_cv (i := 379) (j := 185) (b := 1826) (M' := mt_185) (xs := []) (rest := []) rfl rfl rfl rfl rfl rfl (Nat.le_of_ble_eq_true rfl) (Nat.le_of_ble_eq_true rfl) (by omega) (m_beginTerm (by omega)) ?_
              rintro _ _ ⟨rfl, rfl⟩
              refine h_run 0 (pc' := 113) (l' := [(0, .inr (.inr 1826)), (1, .inl (l : Int))]) (st' := []) rfl ?_
              refine h_run 2 (pc' := 115) (l' := [(0, .inr (.inr 1826)), (1, .inl (l : Int))]) (st' := [.inl 2, .inr (.inr 1826)]) rfl ?_
              refine h_puti (i := 367) (ci := 13) (k := 44) (a := 1826) (x := 2) rfl rfl rfl rfl rfl rfl (by decide) (by decide) ?_
              refine h_run 1 (pc' := 119) (l' := [(0, .inr (.inr 1826)), (1, .inl (l : Int))]) (st' := [.inr (.inr 1826)]) rfl ?_
              refine h_cv (i := 293) (j := 158) (b := 1826) (M' := mt_158) (xs := []) (rest := []) rfl rfl rfl rfl rfl rfl (Nat.le_of_ble_eq_true rfl) (Nat.le_of_ble_eq_true rfl) (by omega) (m_good1 (by omega) (by omega : (H82.1 1826 35) = 0)) ?_
              rintro _ _ ⟨rfl, rfl⟩
              refine h_run 0 (pc' := 122) (l' := [(0, .inr (.inr 1826)), (1, .inl (l : Int))]) (st' := [.inl 1]) rfl ?_
              refine h_zeq (off := 11) (t := 133) rfl rfl (by decide) (fun c => absurd c (by decide)) (fun _ => ?_)
              refine h_run 2 (pc' := 127) (l' := [(0, .inr (.inr 1826)), (1, .inl (l : Int))]) (st' := [.inl (-1), .inr (.inr 1826)]) rfl ?_
              have g89 : -2147483648 ≤ (H82.1 1826 30) ∧ (H82.1 1826 30) ≤ 2147483647 := hrg84.1 1826 13 30 _ .int rfl rfl
              have g90 : -2147483648 ≤ (H82.1 1826 29) ∧ (H82.1 1826 29) ≤ 2147483647 := hrg84.1 1826 13 29 _ .int rfl rfl
              have e91 : (H82.1 1826 29) = (H72.1 1826 29) := hx82f.2.2 29 (by decide)
              have g92 : -2147483648 ≤ (H82.1 1826 1) ∧ (H82.1 1826 1) ≤ 2147483647 := hrg84.1 1826 13 1 _ .int rfl rfl
              have e93 : (H82.1 1826 1) = (H72.1 1826 1) := hx82f.2.2 1 (by decide)
              have e94 : (H72.1 1826 1) = (H39.1 1826 1) := hx72f.2.2 1 (by decide)
              have e95 : (H39.1 1826 1) = (H.1 1826 1) := hx39f.2.2 1 (by decide)
              have g96 : -2147483648 ≤ (H82.1 1826 8) ∧ (H82.1 1826 8) ≤ 2147483647 := hrg84.1 1826 13 8 _ .int rfl rfl
              have e97 : (H82.1 1826 8) = (H72.1 1826 8) := hx82f.2.2 8 (by decide)
              have e98 : (H72.1 1826 8) = (H39.1 1826 8) := hx72f.2.2 8 (by decide)
              have e99 : (H39.1 1826 8) = (H.1 1826 8) := hx39f.2.2 8 (by decide)
              have g101 : -2147483648 ≤ (H82.1 1826 3) ∧ (H82.1 1826 3) ≤ 2147483647 := hrg84.1 1826 13 3 _ .int rfl rfl
              have e102 : (H82.1 1826 3) = (H72.1 1826 3) := hx82f.2.2 3 (by decide)
              have e103 : (H72.1 1826 3) = (H39.1 1826 3) := hx72f.2.2 3 (by decide)
              have e104 : (H39.1 1826 3) = (H.1 1826 3) := hx39f.2.2 3 (by decide)
              have g105 : -2147483648 ≤ (H82.1 1826 13) ∧ (H82.1 1826 13) ≤ 2147483647 := hrg84.1 1826 13 13 _ .int rfl rfl
              have e106 : (H82.1 1826 13) = (H72.1 1826 13) := hx82f.2.2 13 (by decide)
              have e107 : (H72.1 1826 13) = (H39.1 1826 13) := hx72f.2.2 13 (by decide)
              have e108 : (H39.1 1826 13) = (H.1 1826 13) := hx39f.2.2 13 (by decide)
              have g109 : -2147483648 ≤ (H82.1 1826 19) ∧ (H82.1 1826 19) ≤ 2147483647 := hrg84.1 1826 13 19 _ .int rfl rfl
              have e110 : (H82.1 1826 19) = (H72.1 1826 19) := hx82f.2.2 19 (by decide)
              have e111 : (H72.1 1826 19) = (H39.1 1826 19) := hx72f.2.2 19 (by decide)
              have g112 : -2147483648 ≤ (H82.1 1826 32) ∧ (H82.1 1826 32) ≤ 2147483647 := hrg84.1 1826 13 32 _ .int rfl rfl
              obtain ⟨X4, hq4, hR4, hX4⟩ := GB_g hx82n (by omega)
              refine h_cv (i := 385) (j := 180) (b := 1826) (M' := mt_180) (xs := [.inl (-1)]) (rest := []) rfl rfl rfl rfl rfl rfl (Nat.le_of_ble_eq_true rfl) (Nat.le_of_ble_eq_true rfl) (by omega) (n_term (by omega) (by omega : 0 ≤ (H82.1 1826 30) ∧ (H82.1 1826 30) ≤ (H82.1 1826 29) ∧ (H82.1 1826 29) ≤ 1000) (by omega : 0 ≤ (H82.1 1826 35) ∧ (H82.1 1826 35) ≤ 5) (by omega : 0 ≤ (H82.1 1826 32) ∧ (H82.1 1826 32) ≤ 1000) (PWc_agp hP (agp_o (agp_o (agp_o (agp_o (agp_o ha86 (by decide)) (by decide)) (by decide)) (by decide)) (by decide)) ⟨(by omega : (H82.1 1826 1) = (H.1 1826 1)), (by omega : (H82.1 1826 3) = (H.1 1826 3)), (by omega : (H82.1 1826 8) = (H.1 1826 8)), (by omega : (H82.1 1826 13) = (H.1 1826 13)), (by omega : (H82.1 1826 19) = (H.1 1826 19))⟩) (by omega : 1 ≤ (2 : Int) ∧ (2 : Int) ≤ 3) (by omega : -1 ≤ (-1 : Int) ∧ (-1 : Int) < (H82.1 1826 1)) (by omega : 0 ≤ (0 : Int) ∧ (0 : Int) ≤ 10) (fun _ => ⟨rfl, rfl, rfl, (by omega : 0 ≤ (0 : Int) ∧ (0 : Int) ≤ 39 ∧ ((2 : Int) = 2 → (0 : Int) ≤ 6)), fun _ v hv => absurd (id hv : (v : Int) < 0) (by omega)⟩) (by omega : (H82.1 1826 35) = 0) (RK_fr hR4 (fr_o (fr_o (fr_o (fr_o (fr_o (fr_rf [39, 40, 41, 43, 44] [] H82) (by decide)) (by decide)) (by decide)) (by decide)) (by decide)) (by decide) (by decide)) (by rw [hX4]; exact VR_law rfl rfl rfl) (by omega : (H82.1 1826 8) = m) (e := -2) (by omega : ((2 : Int) = 2 ∧ (-2 : Int) = -2) ∨ ((2 : Int) ≠ 2 ∧ (-2 : Int) = -1)) hq4 (lk_1 (by decide)) (by omega : (2 : Int) = 1 → 0 ≤ (-1 : Int))) ?_
              rintro _ H100 ⟨⟨hx100r, rfl, hx100x, hx100y, hx100n⟩, hx100f, hx100a, hx100c, -, hx100e, hx100v, hx100p⟩
              refine h_rng (fun hrg113 => ?_)
              have hf114 : fr [30, 31, 32, 33, 35, 36, 19, 39, 40, 41, 43, 44, 47] [1841, 1842, 1843, 1844, 1845, 1846, 1847, 1849, 1850, 1851, 1852, 1853, 1854] H H100 := fr_t (fr_o (fr_o (fr_o (fr_o (fr_o hf85 (by decide)) (by decide)) (by decide)) (by decide)) (by decide)) hx100f (by decide) (by decide)
              have ha115 : agp H H100 := agp_tr (agp_o (agp_o (agp_o (agp_o (agp_o ha86 (by decide)) (by decide)) (by decide)) (by decide)) (by decide)) (agp_fr hx100f (by decide) (by decide))
              replace hx100y : hx100r < (H82.1 1826 1) := hx100y
              replace hx100a : (H82.1 1826 30) ≤ (H100.1 1826 30) ∧ (H100.1 1826 30) ≤ (H82.1 1826 29) := hx100a
              replace hx100v : ((2 : Int) ≠ 2 → (H100.1 1826 39) = (0 : Int)) ∧ (0 : Int) ≤ (H100.1 1826 39) := hx100v
              have hx100k : (H100.1 1826 35) = 0 → 0 ≤ (H100.1 1826 43) ∧ (H100.1 1826 43) ≤ 40 := fun q9 => by obtain ⟨⟨k9, h9, h8, -⟩, -⟩ := hx100p q9; omega
              have hx100w : (H100.1 1826 35) = 0 → 0 ≤ (H100.1 1826 39) ∧ (H100.1 1826 39) ≤ 39 ∧ ((H100.1 1826 44) = 2 → (H100.1 1826 39) ≤ 6) := fun q9 => (TT_vars (hx100p q9).2).1
              refine h_run 0 (pc' := 130) (l' := [(0, .inr (.inr 1826)), (1, .inl (l : Int))]) (st' := [.inl hx100r]) rfl ?_
              refine h_run 1 (pc' := 134) (l' := [(0, .inr (.inr 1826)), (1, .inl (l : Int))]) (st' := [.inl hx100r]) rfl ?_
              have g116 : -2147483648 ≤ (H100.1 1826 35) ∧ (H100.1 1826 35) ≤ 2147483647 := hrg113.1 1826 13 35 _ .int rfl rfl
              by_cases b117 : (H100.1 1826 35) = 0
              · skip
                replace hx100k := hx100k b117
                replace hx100w := hx100w b117
                refine h_run 1 (pc' := 135) (l' := [(0, .inr (.inr 1826)), (1, .inl (l : Int)), (2, .inl hx100r)]) (st' := []) rfl ?_
                have g118 : -2147483648 ≤ (H100.1 1826 44) ∧ (H100.1 1826 44) ≤ 2147483647 := hrg113.1 1826 13 44 _ .int rfl rfl
                have e119 : (H100.1 1826 44) = 2 := hx100f.2.2 44 (by decide)
                have g120 : -2147483648 ≤ (H100.1 1826 40) ∧ (H100.1 1826 40) ≤ 2147483647 := hrg113.1 1826 13 40 _ .int rfl rfl
                obtain ⟨X5, hq5, hR5, hV5, hF5, hs5, hD5⟩ := GB_g hx100n (by omega)
                have hnm5 := TT_nm (hx100p (by omega)).2 (hx100p (by omega)).1
                have hv51 := hV5.1
                have hth5 := FI_g hF5 rfl (by omega) (by omega)
                refine h_run 4 (pc' := 139) (l' := [(0, .inr (.inr 1826)), (1, .inl (l : Int)), (2, .inl hx100r)]) (st' := [.inl (2 * (l : Int)), .inr (.inr 1826)]) rfl ?_
                have g121 : -2147483648 ≤ (H100.1 1826 43) ∧ (H100.1 1826 43) ≤ 2147483647 := hrg113.1 1826 13 43 _ .int rfl rfl
                have g122 : -2147483648 ≤ (H100.1 1826 19) ∧ (H100.1 1826 19) ≤ 2147483647 := hrg113.1 1826 13 19 _ .int rfl rfl
                have e123 : (H100.1 1826 19) = (H82.1 1826 19) := hx100f.2.2 19 (by decide)
                rw [show (2 * (l : Int)) = ((2 * l : Nat) : Int) by omega]
                refine h_cv (i := 390) (j := 188) (b := 1826) (M' := mt_188) (xs := [.inl ((2 * l : Nat) : Int)]) (rest := []) rfl rfl rfl rfl rfl rfl (Nat.le_of_ble_eq_true rfl) (Nat.le_of_ble_eq_true rfl) (by omega) (m_keepSide (by omega) (s := 2 * l) (by omega : 2 * (H100.1 1826 19) ≤ ((2 * l : Nat) : Int) ∧ 2 * l ≤ 31) (by omega : (H100.1 1826 35) = 0 → 0 ≤ (H100.1 1826 43) ∧ (H100.1 1826 43) ≤ 40)) ?_
                rintro _ H124 ⟨rfl, hx124f, hx124g, hx124z, hx124b, hx124c⟩
                refine h_rng (fun hrg125 => ?_)
                have hf126 : fr [30, 31, 32, 33, 35, 36, 19, 39, 40, 41, 43, 44, 47] [1841, 1842, 1843, 1844, 1845, 1846, 1847, 1849, 1850, 1851, 1852, 1853, 1854] H H124 := fr_t hf114 hx124f (by decide) (by decide)
                have ha127 : agp H H124 := agp_tr ha115 hx124g
                replace hx124c : hid _ := hx124c
                refine h_run 0 (pc' := 142) (l' := [(0, .inr (.inr 1826)), (1, .inl (l : Int)), (2, .inl hx100r)]) (st' := []) rfl ?_
                have g128 : -2147483648 ≤ (H124.1 1826 35) ∧ (H124.1 1826 35) ≤ 2147483647 := hrg125.1 1826 13 35 _ .int rfl rfl
                have e129 : (H124.1 1826 35) = (H100.1 1826 35) := hx124f.2.2 35 (by decide)
                replace hR5 := RK_fr hR5 hx124f (by decide) (by decide)
                replace hV5 := VR_eq (K := H124) hV5 (hx124f.2.2 40 (by decide)) (hx124f.2.2 44 (by decide)) (hx124f.2.2 39 (by decide)) (hx124f.2.1 1849 (by decide) (by decide)) (hx124f.2.1 1850 (by decide) (by decide))
                refine h_run 2 (pc' := 145) (l' := [(0, .inr (.inr 1826)), (1, .inl (l : Int)), (2, .inl hx100r)]) (st' := [.inl 61, .inr (.inr 1826)]) rfl ?_
                have g130 : -2147483648 ≤ (H124.1 1826 30) ∧ (H124.1 1826 30) ≤ 2147483647 := hrg125.1 1826 13 30 _ .int rfl rfl
                have e131 : (H124.1 1826 30) = (H100.1 1826 30) := hx124f.2.2 30 (by decide)
                have g132 : -2147483648 ≤ (H124.1 1826 29) ∧ (H124.1 1826 29) ≤ 2147483647 := hrg125.1 1826 13 29 _ .int rfl rfl
                have e133 : (H124.1 1826 29) = (H100.1 1826 29) := hx124f.2.2 29 (by decide)
                have e134 : (H100.1 1826 29) = (H82.1 1826 29) := hx100f.2.2 29 (by decide)
                have g135 : -2147483648 ≤ (H124.1 1826 31) ∧ (H124.1 1826 31) ≤ 2147483647 := hrg125.1 1826 13 31 _ .int rfl rfl
                have e136 : (H124.1 1826 31) = (H100.1 1826 31) := hx124f.2.2 31 (by decide)
                have g138 : -2147483648 ≤ (H124.1 1826 32) ∧ (H124.1 1826 32) ≤ 2147483647 := hrg125.1 1826 13 32 _ .int rfl rfl
                have e139 : (H124.1 1826 32) = (H100.1 1826 32) := hx124f.2.2 32 (by decide)
                refine h_cv (i := 313) (j := 166) (b := 1826) (M' := mt_166) (xs := [.inl 61]) (rest := []) rfl rfl rfl rfl rfl rfl (Nat.le_of_ble_eq_true rfl) (Nat.le_of_ble_eq_true rfl) (by omega) (n_want (by omega) (by omega : 0 ≤ (H124.1 1826 30) ∧ (H124.1 1826 30) ≤ (H124.1 1826 29) ∧ (H124.1 1826 29) ≤ 1000) (by omega : 0 ≤ (H124.1 1826 35) ∧ (H124.1 1826 35) ≤ 5) (by omega : 0 ≤ (H124.1 1826 32) ∧ (H124.1 1826 32) ≤ 1000) (by omega) (by omega : (H124.1 1826 35) = 0) hR5 hq5 (lk_c (lk_c (lk_1 (by decide)) (by decide : (15 : Nat) ≠ 0) (fun q => absurd q (by decide : (15 : Nat) ≠ 1))) (by decide : (14 : Nat) ≠ 0) (fun q => absurd q (by decide : (14 : Nat) ≠ 1)))) ?_
                rintro _ H137 ⟨rfl, hx137n, hx137f, hx137a, hx137b, hx137c, -, hx137e, hx137g⟩
                refine h_rng (fun hrg140 => ?_)
                have hf141 : fr [30, 31, 32, 33, 35, 36, 19, 39, 40, 41, 43, 44, 47] [1841, 1842, 1843, 1844, 1845, 1846, 1847, 1849, 1850, 1851, 1852, 1853, 1854] H H137 := fr_t hf126 hx137f (by decide) (by decide)
                have ha142 : agp H H137 := agp_tr ha127 (agp_fr hx137f (by decide) (by decide))
                replace hx137a : (H124.1 1826 30) ≤ (H137.1 1826 30) := hx137a
                replace hx137b : (H137.1 1826 30) ≤ (H124.1 1826 29) := hx137b
                replace hx137g : (H137.1 1826 35) = 0 → (H124.1 1826 31) = (61 : Int) ∧ ((H137.1 1826 31) = 0 ∨ (H124.1 1826 30) < (H137.1 1826 30)) := hx137g
                refine h_run 0 (pc' := 148) (l' := [(0, .inr (.inr 1826)), (1, .inl (l : Int)), (2, .inl hx100r)]) (st' := []) rfl ?_
                have g143 : -2147483648 ≤ (H137.1 1826 35) ∧ (H137.1 1826 35) ≤ 2147483647 := hrg140.1 1826 13 35 _ .int rfl rfl
                by_cases b144 : (H137.1 1826 35) = 0
                · skip
                  replace hx137g := hx137g b144
                  refine h_run 2 (pc' := 150) (l' := [(0, .inr (.inr 1826)), (1, .inl (l : Int)), (2, .inl hx100r)]) (st' := [.inl 0, .inr (.inr 1826)]) rfl ?_
                  refine h_puti (i := 300) (ci := 13) (k := 40) (a := 1826) (x := 0) rfl rfl rfl rfl rfl rfl (by decide) (by decide) ?_
                  refine h_run 2 (pc' := 155) (l' := [(0, .inr (.inr 1826)), (1, .inl (l : Int)), (2, .inl hx100r)]) (st' := [.inl 0, .inr (.inr 1826)]) rfl ?_
                  refine h_puti (i := 335) (ci := 13) (k := 41) (a := 1826) (x := 0) rfl rfl rfl rfl rfl rfl (by decide) (by decide) ?_
                  refine h_run 2 (pc' := 160) (l' := [(0, .inr (.inr 1826)), (1, .inl (l : Int)), (2, .inl hx100r)]) (st' := [.inl 0, .inr (.inr 1826)]) rfl ?_
                  refine h_puti (i := 303) (ci := 13) (k := 43) (a := 1826) (x := 0) rfl rfl rfl rfl rfl rfl (by decide) (by decide) ?_
                  refine h_run 1 (pc' := 164) (l' := [(0, .inr (.inr 1826)), (1, .inl (l : Int)), (2, .inl hx100r)]) (st' := [.inr (.inr 1826)]) rfl ?_
                  refine h_cv (i := 293) (j := 158) (b := 1826) (M' := mt_158) (xs := []) (rest := []) rfl rfl rfl rfl rfl rfl (Nat.le_of_ble_eq_true rfl) (Nat.le_of_ble_eq_true rfl) (by omega) (m_good1 (by omega) (by omega : (H137.1 1826 35) = 0)) ?_
                  rintro _ _ ⟨rfl, rfl⟩
                  refine h_run 0 (pc' := 167) (l' := [(0, .inr (.inr 1826)), (1, .inl (l : Int)), (2, .inl hx100r)]) (st' := [.inl 1]) rfl ?_
                  refine h_zeq (off := 11) (t := 178) rfl rfl (by decide) (fun c => absurd c (by decide)) (fun _ => ?_)
                  have g145 : -2147483648 ≤ (H137.1 1826 44) ∧ (H137.1 1826 44) ≤ 2147483647 := hrg140.1 1826 13 44 _ .int rfl rfl
                  have e146 : (H137.1 1826 44) = (H124.1 1826 44) := hx137f.2.2 44 (by decide)
                  have e147 : (H124.1 1826 44) = (H100.1 1826 44) := hx124f.2.2 44 (by decide)
                  have g148 : -2147483648 ≤ (H137.1 1826 39) ∧ (H137.1 1826 39) ≤ 2147483647 := hrg140.1 1826 13 39 _ .int rfl rfl
                  have e149 : (H137.1 1826 39) = (H124.1 1826 39) := hx137f.2.2 39 (by decide)
                  have e150 : (H124.1 1826 39) = (H100.1 1826 39) := hx124f.2.2 39 (by decide)
                  have g151 : -2147483648 ≤ (H137.1 1826 1) ∧ (H137.1 1826 1) ≤ 2147483647 := hrg140.1 1826 13 1 _ .int rfl rfl
                  have e152 : (H137.1 1826 1) = (H124.1 1826 1) := hx137f.2.2 1 (by decide)
                  have e153 : (H124.1 1826 1) = (H100.1 1826 1) := hx124f.2.2 1 (by decide)
                  have e154 : (H100.1 1826 1) = (H82.1 1826 1) := hx100f.2.2 1 (by decide)
                  have hvt8 : ∀ v : Nat, (v : Int) < (H137.1 1826 39) → 0 ≤ (H137.1 1850) v ∧ (H137.1 1850) v < (H137.1 1826 1) := fun v hv => by rw [show (H137.1 1850) = (H100.1 1850) from (hx137f.2.1 1850 (by decide) (by decide)).trans (hx124f.2.1 1850 (by decide) (by decide)), show (H137.1 1826 1) = (H100.1 1826 1) from (hx137f.2.2 1 (by decide)).trans (hx124f.2.2 1 (by decide))]; exact (TT_vars (hx100p (by omega)).2).2 (by omega) v (by omega)
                  refine h_run 2 (pc' := 172) (l' := [(0, .inr (.inr 1826)), (1, .inl (l : Int)), (2, .inl hx100r)]) (st' := [.inl hx100r, .inr (.inr 1826)]) rfl ?_
                  have g155 : -2147483648 ≤ (H137.1 1826 30) ∧ (H137.1 1826 30) ≤ 2147483647 := hrg140.1 1826 13 30 _ .int rfl rfl
                  have g156 : -2147483648 ≤ (H137.1 1826 29) ∧ (H137.1 1826 29) ≤ 2147483647 := hrg140.1 1826 13 29 _ .int rfl rfl
                  have e157 : (H137.1 1826 29) = (H124.1 1826 29) := hx137f.2.2 29 (by decide)
                  have g158 : -2147483648 ≤ (H137.1 1826 8) ∧ (H137.1 1826 8) ≤ 2147483647 := hrg140.1 1826 13 8 _ .int rfl rfl
                  have e159 : (H137.1 1826 8) = (H124.1 1826 8) := hx137f.2.2 8 (by decide)
                  have e160 : (H124.1 1826 8) = (H100.1 1826 8) := hx124f.2.2 8 (by decide)
                  have e161 : (H100.1 1826 8) = (H82.1 1826 8) := hx100f.2.2 8 (by decide)
                  have g163 : -2147483648 ≤ (H137.1 1826 19) ∧ (H137.1 1826 19) ≤ 2147483647 := hrg140.1 1826 13 19 _ .int rfl rfl
                  have e164 : (H137.1 1826 19) = (H124.1 1826 19) := hx137f.2.2 19 (by decide)
                  have e165 : (H124.1 1826 19) = (H100.1 1826 19) := hx124f.2.2 19 (by decide)
                  have g166 : -2147483648 ≤ (H137.1 1826 3) ∧ (H137.1 1826 3) ≤ 2147483647 := hrg140.1 1826 13 3 _ .int rfl rfl
                  have e167 : (H137.1 1826 3) = (H124.1 1826 3) := hx137f.2.2 3 (by decide)
                  have e168 : (H124.1 1826 3) = (H100.1 1826 3) := hx124f.2.2 3 (by decide)
                  have e169 : (H100.1 1826 3) = (H82.1 1826 3) := hx100f.2.2 3 (by decide)
                  have g170 : -2147483648 ≤ (H137.1 1826 13) ∧ (H137.1 1826 13) ≤ 2147483647 := hrg140.1 1826 13 13 _ .int rfl rfl
                  have e171 : (H137.1 1826 13) = (H124.1 1826 13) := hx137f.2.2 13 (by decide)
                  have e172 : (H124.1 1826 13) = (H100.1 1826 13) := hx124f.2.2 13 (by decide)
                  have e173 : (H100.1 1826 13) = (H82.1 1826 13) := hx100f.2.2 13 (by decide)
                  have g174 : -2147483648 ≤ (H137.1 1826 32) ∧ (H137.1 1826 32) ≤ 2147483647 := hrg140.1 1826 13 32 _ .int rfl rfl
                  obtain ⟨X6, hq6, hR6, hX6⟩ := GB_g hx137n (by omega)
                  have h67 := hR6.2.2.2.2.2.2.2.1.1.2
                  have h6x : X6 0 7 = X 0 7 := by omega
                  have hV6 : VR H137 X6 := by rw [hX6]; exact VR_adv hV5 (hx137f.2.2 40 (by decide)) (hx137f.2.2 44 (by decide)) (hx137f.2.2 39 (by decide)) (hx137f.2.1 1849 (by decide) (by decide)) (hx137f.2.1 1850 (by decide) (by decide))
                  have hme6 := me_or (-2) hx100r
                  have hth6 : thd X6 = hx100r := by rw [hX6]; exact hth5.2
                  refine h_cv (i := 385) (j := 180) (b := 1826) (M' := mt_180) (xs := [.inl hx100r]) (rest := []) rfl rfl rfl rfl rfl rfl (Nat.le_of_ble_eq_true rfl) (Nat.le_of_ble_eq_true rfl) (by omega) (n_term (by omega) (by omega : 0 ≤ (H137.1 1826 30) ∧ (H137.1 1826 30) ≤ (H137.1 1826 29) ∧ (H137.1 1826 29) ≤ 1000) (by omega : 0 ≤ (H137.1 1826 35) ∧ (H137.1 1826 35) ≤ 5) (by omega : 0 ≤ (H137.1 1826 32) ∧ (H137.1 1826 32) ≤ 1000) (PWc_agp hP (agp_o (agp_o (agp_o ha142 (by decide)) (by decide)) (by decide)) ⟨(by omega : (H137.1 1826 1) = (H.1 1826 1)), (by omega : (H137.1 1826 3) = (H.1 1826 3)), (by omega : (H137.1 1826 8) = (H.1 1826 8)), (by omega : (H137.1 1826 13) = (H.1 1826 13)), (by omega : (H137.1 1826 19) = (H.1 1826 19))⟩) (by omega : 1 ≤ (H137.1 1826 44) ∧ (H137.1 1826 44) ≤ 3) (by omega : -1 ≤ hx100r ∧ hx100r < (H137.1 1826 1)) (by omega : 0 ≤ (0 : Int) ∧ (0 : Int) ≤ 10) (fun _ => ⟨rfl, rfl, rfl, (by omega : 0 ≤ (H137.1 1826 39) ∧ (H137.1 1826 39) ≤ 39 ∧ ((H137.1 1826 44) = 2 → (H137.1 1826 39) ≤ 6)), fun _ => hvt8⟩) (by omega : (H137.1 1826 35) = 0) (RK_fr (RK_sT hR6 (sT_tr (sT_sd X6 _) (sT_x0 _ _ (Or.inl (by decide)))) rfl) (fr_o (fr_o (fr_o (fr_rf [40, 41, 43] [] H137) (by decide)) (by decide)) (by decide)) (by decide) (by decide)) (VR_VR hV6 rfl rfl rfl rfl rfl) (by omega : (H137.1 1826 8) = m) (X := (xu (xsd X6 (4 * (X6 0 7).toNat + 102)) 0 2 0)) (e := -2) (by omega : ((H137.1 1826 44) = 2 ∧ (-2 : Int) = -2) ∨ ((H137.1 1826 44) ≠ 2 ∧ (-2 : Int) = -1)) (by rw [show me (-2) hx100r = thd X6 from (by omega)]; exact rch_st hq6 rfl) (lk_c (lk_1 (by decide)) (by decide : (15 : Nat) ≠ 0) (fun q => absurd q (by decide : (15 : Nat) ≠ 1))) (by omega : (H137.1 1826 44) = 1 → 0 ≤ hx100r)) ?_
                  rintro _ H162 ⟨⟨hx162r, rfl, hx162x, hx162y, hx162n⟩, hx162f, hx162a, hx162c, -, hx162e, hx162v, hx162p⟩
                  refine h_rng (fun hrg175 => ?_)
                  have hf176 : fr [30, 31, 32, 33, 35, 36, 19, 39, 40, 41, 43, 44, 47] [1841, 1842, 1843, 1844, 1845, 1846, 1847, 1849, 1850, 1851, 1852, 1853, 1854] H H162 := fr_t (fr_o (fr_o (fr_o hf141 (by decide)) (by decide)) (by decide)) hx162f (by decide) (by decide)
                  have ha177 : agp H H162 := agp_tr (agp_o (agp_o (agp_o ha142 (by decide)) (by decide)) (by decide)) (agp_fr hx162f (by decide) (by decide))
                  replace hx162y : hx162r < (H137.1 1826 1) := hx162y
                  replace hx162a : (H137.1 1826 30) ≤ (H162.1 1826 30) ∧ (H162.1 1826 30) ≤ (H137.1 1826 29) := hx162a
                  replace hx162v : ((H137.1 1826 44) ≠ 2 → (H162.1 1826 39) = (H137.1 1826 39)) ∧ (H137.1 1826 39) ≤ (H162.1 1826 39) := hx162v
                  have hx162k : (H162.1 1826 35) = 0 → 0 ≤ (H162.1 1826 43) ∧ (H162.1 1826 43) ≤ 40 := fun q9 => by obtain ⟨⟨k9, h9, h8, -⟩, -⟩ := hx162p q9; omega
                  have hx162w : (H162.1 1826 35) = 0 → 0 ≤ (H162.1 1826 39) ∧ (H162.1 1826 39) ≤ 39 ∧ ((H162.1 1826 44) = 2 → (H162.1 1826 39) ≤ 6) := fun q9 => (TT_vars (hx162p q9).2).1
                  refine h_run 0 (pc' := 175) (l' := [(0, .inr (.inr 1826)), (1, .inl (l : Int)), (2, .inl hx100r)]) (st' := [.inl hx162r]) rfl ?_
                  refine h_run 1 (pc' := 179) (l' := [(0, .inr (.inr 1826)), (1, .inl (l : Int)), (2, .inl hx100r)]) (st' := [.inl hx162r]) rfl ?_
                  have g178 : -2147483648 ≤ (H162.1 1826 35) ∧ (H162.1 1826 35) ≤ 2147483647 := hrg175.1 1826 13 35 _ .int rfl rfl
                  by_cases b179 : (H162.1 1826 35) = 0
                  · skip
                    replace hx162k := hx162k b179
                    replace hx162w := hx162w b179
                    refine h_run 7 (pc' := 186) (l' := [(0, .inr (.inr 1826)), (1, .inl (l : Int)), (2, .inl hx100r), (3, .inl hx162r)]) (st' := [.inl ((2 * (l : Int)) + 1), .inr (.inr 1826)]) rfl ?_
                    have g180 : -2147483648 ≤ (H162.1 1826 43) ∧ (H162.1 1826 43) ≤ 2147483647 := hrg175.1 1826 13 43 _ .int rfl rfl
                    have g181 : -2147483648 ≤ (H162.1 1826 19) ∧ (H162.1 1826 19) ≤ 2147483647 := hrg175.1 1826 13 19 _ .int rfl rfl
                    have e182 : (H162.1 1826 19) = (H137.1 1826 19) := hx162f.2.2 19 (by decide)
                    rw [show ((2 * (l : Int)) + 1) = ((2 * l + 1 : Nat) : Int) by omega]
                    refine h_cv (i := 390) (j := 188) (b := 1826) (M' := mt_188) (xs := [.inl ((2 * l + 1 : Nat) : Int)]) (rest := []) rfl rfl rfl rfl rfl rfl (Nat.le_of_ble_eq_true rfl) (Nat.le_of_ble_eq_true rfl) (by omega) (m_keepSide (by omega) (s := 2 * l + 1) (by omega : 2 * (H162.1 1826 19) ≤ ((2 * l + 1 : Nat) : Int) ∧ 2 * l + 1 ≤ 31) (by omega : (H162.1 1826 35) = 0 → 0 ≤ (H162.1 1826 43) ∧ (H162.1 1826 43) ≤ 40)) ?_
                    rintro _ H183 ⟨rfl, hx183f, hx183g, hx183z, hx183b, hx183c⟩
                    refine h_rng (fun hrg184 => ?_)
                    have hf185 : fr [30, 31, 32, 33, 35, 36, 19, 39, 40, 41, 43, 44, 47] [1841, 1842, 1843, 1844, 1845, 1846, 1847, 1849, 1850, 1851, 1852, 1853, 1854] H H183 := fr_t hf176 hx183f (by decide) (by decide)
                    have ha186 : agp H H183 := agp_tr ha177 hx183g
                    replace hx183c : hid _ := hx183c
                    refine h_run 0 (pc' := 189) (l' := [(0, .inr (.inr 1826)), (1, .inl (l : Int)), (2, .inl hx100r), (3, .inl hx162r)]) (st' := []) rfl ?_
                    obtain ⟨X7, hq7, hR7, hV7, hF7, hs7, hD7⟩ := GB_g hx162n (by omega)
                    replace hR7 := RK_fr hR7 hx183f (by decide) (by decide)
                    replace hV7 := VR_eq (K := H183) hV7 (hx183f.2.2 40 (by decide)) (hx183f.2.2 44 (by decide)) (hx183f.2.2 39 (by decide)) (hx183f.2.1 1849 (by decide) (by decide)) (hx183f.2.1 1850 (by decide) (by decide))
                    have e12 : X7 12 = X6 12 := hs7.1.2.1.trans (show xu (xsd X6 (4 * (X6 0 7).toNat + 102)) 0 2 0 12 = X6 12 from rfl)
                    have hx12 : X7 12 = up (adv X 12) l (tn Y (xi (adv X))) := by rw [e12, hX6, (sT_adv X5).2.1, hs5.1.2.1, hX4, (sT_adv _).2.1, (xl_s _ _ _).2.2.2.2.1]
                    have hln : (H183.1 1841) l = X7 12 l := by rw [hx12, up_eq, ← RK_n hR1 (Or.inl (by omega)), show (H183.1 1841) = _ from (((((((hx183f.2.1 1841 (by decide) (by decide)).trans (hx162f.2.1 1841 (by decide) (by decide))).trans (hx137f.2.1 1841 (by decide) (by decide))).trans (hx124f.2.1 1841 (by decide) (by decide))).trans (hx100f.2.1 1841 (by decide) (by decide))).trans (hx82f.2.1 1841 (by decide) (by decide))).trans (hx72f.2.1 1841 (by decide) (by decide)))]; exact up_eq _ _ _
                    refine h_run 1 (pc' := 190) (l' := [(0, .inr (.inr 1826)), (1, .inl (l : Int)), (2, .inl hx100r), (3, .inl hx162r)]) (st' := [.inr (.inr 1826)]) rfl ?_
                    have g187 : -2147483648 ≤ (H183.1 1826 35) ∧ (H183.1 1826 35) ≤ 2147483647 := hrg184.1 1826 13 35 _ .int rfl rfl
                    have e188 : (H183.1 1826 35) = (H162.1 1826 35) := hx183f.2.2 35 (by decide)
                    refine h_cv (i := 293) (j := 158) (b := 1826) (M' := mt_158) (xs := []) (rest := []) rfl rfl rfl rfl rfl rfl (Nat.le_of_ble_eq_true rfl) (Nat.le_of_ble_eq_true rfl) (by omega) (m_good1 (by omega) (by omega : (H183.1 1826 35) = 0)) ?_
                    rintro _ _ ⟨rfl, rfl⟩
                    refine h_run 0 (pc' := 193) (l' := [(0, .inr (.inr 1826)), (1, .inl (l : Int)), (2, .inl hx100r), (3, .inl hx162r)]) (st' := [.inl 1]) rfl ?_
                    refine h_zeq (off := 83) (t := 276) rfl rfl (by decide) (fun c => absurd c (by decide)) (fun _ => ?_)
                    have g189 : -2147483648 ≤ (H183.1 1826 44) ∧ (H183.1 1826 44) ≤ 2147483647 := hrg184.1 1826 13 44 _ .int rfl rfl
                    have e190 : (H183.1 1826 44) = (H162.1 1826 44) := hx183f.2.2 44 (by decide)
                    have e191 : (H162.1 1826 44) = (H137.1 1826 44) := hx162f.2.2 44 (by decide)
                    have g192 : -2147483648 ≤ (H183.1 1826 39) ∧ (H183.1 1826 39) ≤ 2147483647 := hrg184.1 1826 13 39 _ .int rfl rfl
                    have e193 : (H183.1 1826 39) = (H162.1 1826 39) := hx183f.2.2 39 (by decide)
                    have g194 : -2147483648 ≤ (H183.1 1826 1) ∧ (H183.1 1826 1) ≤ 2147483647 := hrg184.1 1826 13 1 _ .int rfl rfl
                    have e195 : (H183.1 1826 1) = (H162.1 1826 1) := hx183f.2.2 1 (by decide)
                    have e196 : (H162.1 1826 1) = (H137.1 1826 1) := hx162f.2.2 1 (by decide)
                    have g197 : -2147483648 ≤ (H183.1 1826 19) ∧ (H183.1 1826 19) ≤ 2147483647 := hrg184.1 1826 13 19 _ .int rfl rfl
                    have e198 : (H183.1 1826 19) = (H162.1 1826 19) := hx183f.2.2 19 (by decide)
                    have gk2 : (H162.1 1826 35) = 0 := by omega
                    have gk1 : (H100.1 1826 35) = 0 := by omega
                    obtain ⟨⟨k0, p1, p2, p3⟩, pT1⟩ := hx100p gk1
                    obtain ⟨⟨k1, q1, q2, q3⟩, qT2⟩ := hx162p gk2
                    have hs0 := LS_fr (LS_keep hx124f hx124z (hx124c gk1) p1 p2 p3) hx137f (by decide) (by decide)
                    have hs1 := LS_keep2 (LS_fr (id hs0 : LSd (zu (zu (zu H137 1826 (up (H137.1 1826) 40 0)) 1826 (up ((zu H137 1826 (up (H137.1 1826) 40 0)).1 1826) 41 0)) 1826 (up ((zu (zu H137 1826 (up (H137.1 1826) 40 0)) 1826 (up ((zu H137 1826 (up (H137.1 1826) 40 0)).1 1826) 41 0)).1 1826) 43 0)) _ _ _) hx162f (by decide) (by decide)) hx183f hx183z hx183b (by omega)
                    have hs2 := LS_keep hx183f hx183z (hx183c gk2) q1 q2 q3
                    have hvt := (TT_vars qT2).2 (by omega)
                    have hv9 : (H162.1 1826 39) = (((H183.1 1826 39)).toNat : Int) := by omega
                    have hs3 : LSd H183 (2 * l) k0 (((H183.1 1826 39)).toNat : Int) := LS_mono hs1 (by omega)
                    rw [hv9] at hs2
                    have hvt9 : ∀ x : Nat, (x : Int) < (H183.1 1826 39) → 0 ≤ (H183.1 1850) x ∧ (H183.1 1850) x < (H183.1 1826 1) := fun x hx => by rw [show (H183.1 1850) = (H162.1 1850) from (hx183f.2.1 1850 (by decide) (by decide)), show (H183.1 1826 1) = (H162.1 1826 1) from (hx183f.2.2 1 (by decide))]; exact hvt x (by omega)
                    have hD6 : RD H100 X6 := RD_same hD5 (by rw [hX6]; exact (adv_s X5).2.1) (by rw [hX6]; exact (adv_s X5).2.2.2.2.2) rfl rfl
                    have h77 : X7 0 7 = X 0 7 := (hs7.1.2.2 7 (by decide) (by decide)).trans h6x
                    have hx70 : X7 (4 * (X 0 7).toNat + 102) = xsd X6 (4 * (X 0 7).toNat + 102) (4 * (X 0 7).toNat + 102) := by rw [← h6x]; exact (hs7.2 _ (by omega)).trans (xu_ne _ _ _ (by omega))
                    have hWa : WQ H124 (2 * l) X7 (4 * (X 0 7).toNat + 102) := WQ_of hD6 hx124z (hx124c gk1) (by omega) (by omega) hx70
                    have hWb := WQ_fr hWa hx137f (by decide)
                    have hWc := WQ_fr (id hWb : WQ (zu (zu (zu H137 1826 (up (H137.1 1826) 40 0)) 1826 (up ((zu H137 1826 (up (H137.1 1826) 40 0)).1 1826) 41 0)) 1826 (up ((zu (zu H137 1826 (up (H137.1 1826) 40 0)) 1826 (up ((zu H137 1826 (up (H137.1 1826) 40 0)).1 1826) 41 0)).1 1826) 43 0)) (2 * l) X7 (4 * (X 0 7).toNat + 102)) hx162f (by decide)
                    have hW0 : WQ H183 (2 * l) X7 (4 * (X 0 7).toNat + 102) := WQ_keep hWc hx183z hx183b (by omega) (by rw [hx70, (xsd_eq X6 (by omega)).1, ← hD6.1]; omega)
                    have hW1 : WQ H183 (2 * l + 1) (xsd X7 (4 * (X 0 7).toNat + 103)) (4 * (X 0 7).toNat + 103) := WQ_of hD7 hx183z (hx183c gk2) (by omega) (by omega) rfl
                    have h78 : X7 0 8 = 1 := by have q9 := hV7.1.2.1; omega
                    refine h_run 5 (pc' := 203) (l' := [(0, .inr (.inr 1826)), (1, .inl (l : Int)), (2, .inl hx100r), (3, .inl hx162r)]) (st' := [.inl (-1), .inl hx100r, .inl (l : Int), .inr (.inr 1844)]) rfl ?_
                    refine h_ieq (off := 7) (t := 210) rfl rfl (by omega) (by decide) (fun c199 => ?_) (fun c199 => ?_)
                    · refine h_run 1 (pc' := 211) (l' := [(0, .inr (.inr 1826)), (1, .inl (l : Int)), (2, .inl hx100r), (3, .inl hx162r)]) (st' := [.inl hx162r, .inl (l : Int), .inr (.inr 1844)]) rfl ?_
                      refine h_ist (c := 1844) (j := l) (i := (l : Int)) (x := hx162r) rfl rfl (by decide) (by decide) rfl (by omega) (by omega) ?_
                      refine h_run 5 (pc' := 221) (l' := [(0, .inr (.inr 1826)), (1, .inl (l : Int)), (2, .inl hx100r), (3, .inl hx162r)]) (st' := [.inl (H183.1 1826 39), .inl (l : Int), .inr (.inr 1845)]) rfl ?_
                      refine h_ist (c := 1845) (j := l) (i := (l : Int)) (x := (H183.1 1826 39)) rfl rfl (by decide) (by decide) rfl (by omega) (by omega) ?_
                      refine h_run 2 (pc' := 225) (l' := [(0, .inr (.inr 1826)), (1, .inl (l : Int)), (2, .inl hx100r), (3, .inl hx162r), (4, .inl 0)]) (st' := []) rfl ?_
                      have g200 : -2147483648 ≤ (H183.1 1826 30) ∧ (H183.1 1826 30) ≤ 2147483647 := hrg184.1 1826 13 30 _ .int rfl rfl
                      have e201 : (H183.1 1826 30) = (H162.1 1826 30) := hx183f.2.2 30 (by decide)
                      have g202 : -2147483648 ≤ (H183.1 1826 32) ∧ (H183.1 1826 32) ≤ 2147483647 := hrg184.1 1826 13 32 _ .int rfl rfl
                      have e203 : (H183.1 1826 32) = (H162.1 1826 32) := hx183f.2.2 32 (by decide)
                      have g204 : -2147483648 ≤ (H183.1 1826 31) ∧ (H183.1 1826 31) ≤ 2147483647 := hrg184.1 1826 13 31 _ .int rfl rfl
                      have e205 : (H183.1 1826 31) = (H162.1 1826 31) := hx183f.2.2 31 (by decide)
                      have g206 : -2147483648 ≤ (H183.1 1826 29) ∧ (H183.1 1826 29) ≤ 2147483647 := hrg184.1 1826 13 29 _ .int rfl rfl
                      have e207 : (H183.1 1826 29) = (H162.1 1826 29) := hx183f.2.2 29 (by decide)
                      have e208 : (H162.1 1826 29) = (H137.1 1826 29) := hx162f.2.2 29 (by decide)
                      have g209 : -2147483648 ≤ (H183.1 1826 3) ∧ (H183.1 1826 3) ≤ 2147483647 := hrg184.1 1826 13 3 _ .int rfl rfl
                      have e210 : (H183.1 1826 3) = (H162.1 1826 3) := hx183f.2.2 3 (by decide)
                      have e211 : (H162.1 1826 3) = (H137.1 1826 3) := hx162f.2.2 3 (by decide)
                      have g212 : -2147483648 ≤ (H183.1 1826 8) ∧ (H183.1 1826 8) ≤ 2147483647 := hrg184.1 1826 13 8 _ .int rfl rfl
                      have e213 : (H183.1 1826 8) = (H162.1 1826 8) := hx183f.2.2 8 (by decide)
                      have e214 : (H162.1 1826 8) = (H137.1 1826 8) := hx162f.2.2 8 (by decide)
                      have g215 : -2147483648 ≤ (H183.1 1826 13) ∧ (H183.1 1826 13) ≤ 2147483647 := hrg184.1 1826 13 13 _ .int rfl rfl
                      have e216 : (H183.1 1826 13) = (H162.1 1826 13) := hx183f.2.2 13 (by decide)
                      have e217 : (H162.1 1826 13) = (H137.1 1826 13) := hx162f.2.2 13 (by decide)
                      refine h_loc [0, 1, 4] rfl ?_
                      exact (n_tellLaw_cut hd h0 hw hst hP hw0 hR hmf hq htk _) _ (l) 0 (k0) (k1) (((H183.1 1826 39)).toNat) (fr_a (fr_a hf185 (by decide)) (by decide)) (by omega : (H.1 1826 30) ≤ (H183.1 1826 30) ∧ (H183.1 1826 30) ≤ (H.1 1826 29)) (by omega : 0 ≤ (H183.1 1826 35) ∧ (H183.1 1826 35) ≤ 5) (by omega : 0 ≤ (H183.1 1826 32) ∧ (H183.1 1826 32) ≤ 1000) (agp_1845 (agp_a ha186 (by decide)) (by omega : (H.1 1826 19) ≤ ((l : Nat) : Int))) (by omega : (H183.1 1826 35) = 0) (by omega : ((l) : Int) = (H.1 1826 19) ∧ (H.1 1826 19) ≤ 15) (by omega : (H183.1 1826 1) = (H.1 1826 1) ∧ (H183.1 1826 3) = (H.1 1826 3) ∧ (H183.1 1826 8) = (H.1 1826 8) ∧ (H183.1 1826 13) = (H.1 1826 13) ∧ (H183.1 1826 19) = (H.1 1826 19)) hs3 hs2 (show up (H183.1 1845) l ((H183.1 1826 39)) l = _ by rw [up_eq]; omega) (by omega : (H183.1 1826 39) = (((H183.1 1826 39)).toNat) ∧ (((H183.1 1826 39)).toNat) ≤ 6) hvt9 (by omega) (fun x hx => absurd hx (Nat.not_lt_zero _)) ⟨X7, hq7, RK_fr hR7 (fr_a (fr_a (fr_rf [] [1844, 1845] H183) (by decide)) (by decide)) (by decide) (by decide), hln, h77, WQ_fr hW0 (fr_a (fr_a (fr_rf [] [1844, 1845] H183) (by decide)) (by decide)) (by decide), WQ_fr hW1 (fr_a (fr_a (fr_rf [] [1844, 1845] H183) (by decide)) (by decide)) (by decide), VR_eq hV7 rfl rfl rfl rfl rfl, h78⟩ (Nat.lt_succ_self _)
                    · refine h_run 2 (pc' := 211) (l' := [(0, .inr (.inr 1826)), (1, .inl (l : Int)), (2, .inl hx100r), (3, .inl hx162r)]) (st' := [.inl hx100r, .inl (l : Int), .inr (.inr 1844)]) rfl ?_
                      refine h_ist (c := 1844) (j := l) (i := (l : Int)) (x := hx100r) rfl rfl (by decide) (by decide) rfl (by omega) (by omega) ?_
                      refine h_run 5 (pc' := 221) (l' := [(0, .inr (.inr 1826)), (1, .inl (l : Int)), (2, .inl hx100r), (3, .inl hx162r)]) (st' := [.inl (H183.1 1826 39), .inl (l : Int), .inr (.inr 1845)]) rfl ?_
                      refine h_ist (c := 1845) (j := l) (i := (l : Int)) (x := (H183.1 1826 39)) rfl rfl (by decide) (by decide) rfl (by omega) (by omega) ?_
                      refine h_run 2 (pc' := 225) (l' := [(0, .inr (.inr 1826)), (1, .inl (l : Int)), (2, .inl hx100r), (3, .inl hx162r), (4, .inl 0)]) (st' := []) rfl ?_
                      have g218 : -2147483648 ≤ (H183.1 1826 30) ∧ (H183.1 1826 30) ≤ 2147483647 := hrg184.1 1826 13 30 _ .int rfl rfl
                      have e219 : (H183.1 1826 30) = (H162.1 1826 30) := hx183f.2.2 30 (by decide)
                      have g220 : -2147483648 ≤ (H183.1 1826 32) ∧ (H183.1 1826 32) ≤ 2147483647 := hrg184.1 1826 13 32 _ .int rfl rfl
                      have e221 : (H183.1 1826 32) = (H162.1 1826 32) := hx183f.2.2 32 (by decide)
                      have g222 : -2147483648 ≤ (H183.1 1826 31) ∧ (H183.1 1826 31) ≤ 2147483647 := hrg184.1 1826 13 31 _ .int rfl rfl
                      have e223 : (H183.1 1826 31) = (H162.1 1826 31) := hx183f.2.2 31 (by decide)
                      have g224 : -2147483648 ≤ (H183.1 1826 29) ∧ (H183.1 1826 29) ≤ 2147483647 := hrg184.1 1826 13 29 _ .int rfl rfl
                      have e225 : (H183.1 1826 29) = (H162.1 1826 29) := hx183f.2.2 29 (by decide)
                      have e226 : (H162.1 1826 29) = (H137.1 1826 29) := hx162f.2.2 29 (by decide)
                      have g227 : -2147483648 ≤ (H183.1 1826 3) ∧ (H183.1 1826 3) ≤ 2147483647 := hrg184.1 1826 13 3 _ .int rfl rfl
                      have e228 : (H183.1 1826 3) = (H162.1 1826 3) := hx183f.2.2 3 (by decide)
                      have e229 : (H162.1 1826 3) = (H137.1 1826 3) := hx162f.2.2 3 (by decide)
                      have g230 : -2147483648 ≤ (H183.1 1826 8) ∧ (H183.1 1826 8) ≤ 2147483647 := hrg184.1 1826 13 8 _ .int rfl rfl
                      have e231 : (H183.1 1826 8) = (H162.1 1826 8) := hx183f.2.2 8 (by decide)
                      have e232 : (H162.1 1826 8) = (H137.1 1826 8) := hx162f.2.2 8 (by decide)
                      have g233 : -2147483648 ≤ (H183.1 1826 13) ∧ (H183.1 1826 13) ≤ 2147483647 := hrg184.1 1826 13 13 _ .int rfl rfl
                      have e234 : (H183.1 1826 13) = (H162.1 1826 13) := hx183f.2.2 13 (by decide)
                      have e235 : (H162.1 1826 13) = (H137.1 1826 13) := hx162f.2.2 13 (by decide)
                      refine h_loc [0, 1, 4] rfl ?_
                      exact (n_tellLaw_cut hd h0 hw hst hP hw0 hR hmf hq htk _) _ (l) 0 (k0) (k1) (((H183.1 1826 39)).toNat) (fr_a (fr_a hf185 (by decide)) (by decide)) (by omega : (H.1 1826 30) ≤ (H183.1 1826 30) ∧ (H183.1 1826 30) ≤ (H.1 1826 29)) (by omega : 0 ≤ (H183.1 1826 35) ∧ (H183.1 1826 35) ≤ 5) (by omega : 0 ≤ (H183.1 1826 32) ∧ (H183.1 1826 32) ≤ 1000) (agp_1845 (agp_a ha186 (by decide)) (by omega : (H.1 1826 19) ≤ ((l : Nat) : Int))) (by omega : (H183.1 1826 35) = 0) (by omega : ((l) : Int) = (H.1 1826 19) ∧ (H.1 1826 19) ≤ 15) (by omega : (H183.1 1826 1) = (H.1 1826 1) ∧ (H183.1 1826 3) = (H.1 1826 3) ∧ (H183.1 1826 8) = (H.1 1826 8) ∧ (H183.1 1826 13) = (H.1 1826 13) ∧ (H183.1 1826 19) = (H.1 1826 19)) hs3 hs2 (show up (H183.1 1845) l ((H183.1 1826 39)) l = _ by rw [up_eq]; omega) (by omega : (H183.1 1826 39) = (((H183.1 1826 39)).toNat) ∧ (((H183.1 1826 39)).toNat) ≤ 6) hvt9 (by omega) (fun x hx => absurd hx (Nat.not_lt_zero _)) ⟨X7, hq7, RK_fr hR7 (fr_a (fr_a (fr_rf [] [1844, 1845] H183) (by decide)) (by decide)) (by decide) (by decide), hln, h77, WQ_fr hW0 (fr_a (fr_a (fr_rf [] [1844, 1845] H183) (by decide)) (by decide)) (by decide), WQ_fr hW1 (fr_a (fr_a (fr_rf [] [1844, 1845] H183) (by decide)) (by decide)) (by decide), VR_eq hV7 rfl rfl rfl rfl rfl, h78⟩ (Nat.lt_succ_self _)
                  · skip
                    clear hx162k
                    clear hx162w
                    refine h_run 7 (pc' := 186) (l' := [(0, .inr (.inr 1826)), (1, .inl (l : Int)), (2, .inl hx100r), (3, .inl hx162r)]) (st' := [.inl ((2 * (l : Int)) + 1), .inr (.inr 1826)]) rfl ?_
                    have g236 : -2147483648 ≤ (H162.1 1826 43) ∧ (H162.1 1826 43) ≤ 2147483647 := hrg175.1 1826 13 43 _ .int rfl rfl
                    have g237 : -2147483648 ≤ (H162.1 1826 19) ∧ (H162.1 1826 19) ≤ 2147483647 := hrg175.1 1826 13 19 _ .int rfl rfl
                    have e238 : (H162.1 1826 19) = (H137.1 1826 19) := hx162f.2.2 19 (by decide)
                    rw [show ((2 * (l : Int)) + 1) = ((2 * l + 1 : Nat) : Int) by omega]
                    refine h_cv (i := 390) (j := 188) (b := 1826) (M' := mt_188) (xs := [.inl ((2 * l + 1 : Nat) : Int)]) (rest := []) rfl rfl rfl rfl rfl rfl (Nat.le_of_ble_eq_true rfl) (Nat.le_of_ble_eq_true rfl) (by omega) (m_keepSide (by omega) (s := 2 * l + 1) (by omega : 2 * (H162.1 1826 19) ≤ ((2 * l + 1 : Nat) : Int) ∧ 2 * l + 1 ≤ 31) (by omega : (H162.1 1826 35) = 0 → 0 ≤ (H162.1 1826 43) ∧ (H162.1 1826 43) ≤ 40)) ?_
                    rintro _ H239 ⟨rfl, hx239f, hx239g, hx239z, hx239b, hx239c⟩
                    refine h_rng (fun hrg240 => ?_)
                    have hf241 : fr [30, 31, 32, 33, 35, 36, 19, 39, 40, 41, 43, 44, 47] [1841, 1842, 1843, 1844, 1845, 1846, 1847, 1849, 1850, 1851, 1852, 1853, 1854] H H239 := fr_t hf176 hx239f (by decide) (by decide)
                    have ha242 : agp H H239 := agp_tr ha177 hx239g
                    replace hx239c : hid _ := hx239c
                    refine h_run 0 (pc' := 189) (l' := [(0, .inr (.inr 1826)), (1, .inl (l : Int)), (2, .inl hx100r), (3, .inl hx162r)]) (st' := []) rfl ?_
                    have g243 : -2147483648 ≤ (H239.1 1826 35) ∧ (H239.1 1826 35) ≤ 2147483647 := hrg240.1 1826 13 35 _ .int rfl rfl
                    have e244 : (H239.1 1826 35) = (H162.1 1826 35) := hx239f.2.2 35 (by decide)
                    have hx239n : GB Y m c0 H239 False := Or.inr ⟨(by omega : (H239.1 1826 35) ≠ 0), BD_fr (BD_fr (GB_b hx162n (by omega)) (fr_rf [] [] H162) (by decide) (by decide)) hx239f (by decide) (by decide)⟩
                    refine h_run 1 (pc' := 190) (l' := [(0, .inr (.inr 1826)), (1, .inl (l : Int)), (2, .inl hx100r), (3, .inl hx162r)]) (st' := [.inr (.inr 1826)]) rfl ?_
                    refine h_cv (i := 293) (j := 158) (b := 1826) (M' := mt_158) (xs := []) (rest := []) rfl rfl rfl rfl rfl rfl (Nat.le_of_ble_eq_true rfl) (Nat.le_of_ble_eq_true rfl) (by omega) (m_good0 (by omega) (by omega : (H239.1 1826 35) ≠ 0)) ?_
                    rintro _ _ ⟨rfl, rfl⟩
                    refine h_run 0 (pc' := 193) (l' := [(0, .inr (.inr 1826)), (1, .inl (l : Int)), (2, .inl hx100r), (3, .inl hx162r)]) (st' := [.inl 0]) rfl ?_
                    refine h_zeq (off := 83) (t := 276) rfl rfl (by decide) (fun _ => ?_) (fun c => absurd c (by decide))
                    refine h_ret rfl rfl ?_
                    have g245 : -2147483648 ≤ (H239.1 1826 30) ∧ (H239.1 1826 30) ≤ 2147483647 := hrg240.1 1826 13 30 _ .int rfl rfl
                    have e246 : (H239.1 1826 30) = (H162.1 1826 30) := hx239f.2.2 30 (by decide)
                    have g247 : -2147483648 ≤ (H239.1 1826 32) ∧ (H239.1 1826 32) ≤ 2147483647 := hrg240.1 1826 13 32 _ .int rfl rfl
                    have e248 : (H239.1 1826 32) = (H162.1 1826 32) := hx239f.2.2 32 (by decide)
                    have g249 : -2147483648 ≤ (H239.1 1826 31) ∧ (H239.1 1826 31) ≤ 2147483647 := hrg240.1 1826 13 31 _ .int rfl rfl
                    have e250 : (H239.1 1826 31) = (H162.1 1826 31) := hx239f.2.2 31 (by decide)
                    have g251 : -2147483648 ≤ (H239.1 1826 29) ∧ (H239.1 1826 29) ≤ 2147483647 := hrg240.1 1826 13 29 _ .int rfl rfl
                    have e252 : (H239.1 1826 29) = (H162.1 1826 29) := hx239f.2.2 29 (by decide)
                    have e253 : (H162.1 1826 29) = (H137.1 1826 29) := hx162f.2.2 29 (by decide)
                    have g254 : -2147483648 ≤ (H239.1 1826 1) ∧ (H239.1 1826 1) ≤ 2147483647 := hrg240.1 1826 13 1 _ .int rfl rfl
                    have e255 : (H239.1 1826 1) = (H162.1 1826 1) := hx239f.2.2 1 (by decide)
                    have e256 : (H162.1 1826 1) = (H137.1 1826 1) := hx162f.2.2 1 (by decide)
                    have g257 : -2147483648 ≤ (H239.1 1826 3) ∧ (H239.1 1826 3) ≤ 2147483647 := hrg240.1 1826 13 3 _ .int rfl rfl
                    have e258 : (H239.1 1826 3) = (H162.1 1826 3) := hx239f.2.2 3 (by decide)
                    have e259 : (H162.1 1826 3) = (H137.1 1826 3) := hx162f.2.2 3 (by decide)
                    have g260 : -2147483648 ≤ (H239.1 1826 8) ∧ (H239.1 1826 8) ≤ 2147483647 := hrg240.1 1826 13 8 _ .int rfl rfl
                    have e261 : (H239.1 1826 8) = (H162.1 1826 8) := hx239f.2.2 8 (by decide)
                    have e262 : (H162.1 1826 8) = (H137.1 1826 8) := hx162f.2.2 8 (by decide)
                    have g263 : -2147483648 ≤ (H239.1 1826 13) ∧ (H239.1 1826 13) ≤ 2147483647 := hrg240.1 1826 13 13 _ .int rfl rfl
                    have e264 : (H239.1 1826 13) = (H162.1 1826 13) := hx239f.2.2 13 (by decide)
                    have e265 : (H162.1 1826 13) = (H137.1 1826 13) := hx162f.2.2 13 (by decide)
                    have g266 : -2147483648 ≤ (H239.1 1826 19) ∧ (H239.1 1826 19) ≤ 2147483647 := hrg240.1 1826 13 19 _ .int rfl rfl
                    have e267 : (H239.1 1826 19) = (H162.1 1826 19) := hx239f.2.2 19 (by decide)
                    have g268 : -2147483648 ≤ (H239.1 1826 39) ∧ (H239.1 1826 39) ≤ 2147483647 := hrg240.1 1826 13 39 _ .int rfl rfl
                    have e269 : (H239.1 1826 39) = (H162.1 1826 39) := hx239f.2.2 39 (by decide)
                    exact ⟨rfl, (Or.inr ⟨(by omega : (H239.1 1826 35) ≠ 0), GB_b hx239n (by omega)⟩), hf241, (by omega : (H.1 1826 30) ≤ (H239.1 1826 30) ∧ (H239.1 1826 30) ≤ (H.1 1826 29)), (by omega : 0 ≤ (H239.1 1826 35) ∧ (H239.1 1826 35) ≤ 5), (by omega : (H.1 1826 35) ≠ 0 → (H239.1 1826 35) ≠ 0), (by omega : 0 ≤ (H239.1 1826 32) ∧ (H239.1 1826 32) ≤ 1000), ha242, (fun (q : (H239.1 1826 35) = 0) => absurd q (by omega))⟩
                · skip
                  clear hx137g
                  refine h_run 2 (pc' := 150) (l' := [(0, .inr (.inr 1826)), (1, .inl (l : Int)), (2, .inl hx100r)]) (st' := [.inl 0, .inr (.inr 1826)]) rfl ?_
                  refine h_puti (i := 300) (ci := 13) (k := 40) (a := 1826) (x := 0) rfl rfl rfl rfl rfl rfl (by decide) (by decide) ?_
                  refine h_run 2 (pc' := 155) (l' := [(0, .inr (.inr 1826)), (1, .inl (l : Int)), (2, .inl hx100r)]) (st' := [.inl 0, .inr (.inr 1826)]) rfl ?_
                  refine h_puti (i := 335) (ci := 13) (k := 41) (a := 1826) (x := 0) rfl rfl rfl rfl rfl rfl (by decide) (by decide) ?_
                  refine h_run 2 (pc' := 160) (l' := [(0, .inr (.inr 1826)), (1, .inl (l : Int)), (2, .inl hx100r)]) (st' := [.inl 0, .inr (.inr 1826)]) rfl ?_
                  refine h_puti (i := 303) (ci := 13) (k := 43) (a := 1826) (x := 0) rfl rfl rfl rfl rfl rfl (by decide) (by decide) ?_
                  refine h_run 1 (pc' := 164) (l' := [(0, .inr (.inr 1826)), (1, .inl (l : Int)), (2, .inl hx100r)]) (st' := [.inr (.inr 1826)]) rfl ?_
                  refine h_cv (i := 293) (j := 158) (b := 1826) (M' := mt_158) (xs := []) (rest := []) rfl rfl rfl rfl rfl rfl (Nat.le_of_ble_eq_true rfl) (Nat.le_of_ble_eq_true rfl) (by omega) (m_good0 (by omega) (by omega : (H137.1 1826 35) ≠ 0)) ?_
                  rintro _ _ ⟨rfl, rfl⟩
                  refine h_run 0 (pc' := 167) (l' := [(0, .inr (.inr 1826)), (1, .inl (l : Int)), (2, .inl hx100r)]) (st' := [.inl 0]) rfl ?_
                  refine h_zeq (off := 11) (t := 178) rfl rfl (by decide) (fun _ => ?_) (fun c => absurd c (by decide))
                  refine h_run 1 (pc' := 179) (l' := [(0, .inr (.inr 1826)), (1, .inl (l : Int)), (2, .inl hx100r)]) (st' := [.inl (-1)]) rfl ?_
                  refine h_run 7 (pc' := 186) (l' := [(0, .inr (.inr 1826)), (1, .inl (l : Int)), (2, .inl hx100r), (3, .inl (-1))]) (st' := [.inl ((2 * (l : Int)) + 1), .inr (.inr 1826)]) rfl ?_
                  have g270 : -2147483648 ≤ (H137.1 1826 19) ∧ (H137.1 1826 19) ≤ 2147483647 := hrg140.1 1826 13 19 _ .int rfl rfl
                  have e271 : (H137.1 1826 19) = (H124.1 1826 19) := hx137f.2.2 19 (by decide)
                  have e272 : (H124.1 1826 19) = (H100.1 1826 19) := hx124f.2.2 19 (by decide)
                  rw [show ((2 * (l : Int)) + 1) = ((2 * l + 1 : Nat) : Int) by omega]
                  refine h_cv (i := 390) (j := 188) (b := 1826) (M' := mt_188) (xs := [.inl ((2 * l + 1 : Nat) : Int)]) (rest := []) rfl rfl rfl rfl rfl rfl (Nat.le_of_ble_eq_true rfl) (Nat.le_of_ble_eq_true rfl) (by omega) (m_keepSide (by omega) (s := 2 * l + 1) (by omega : 2 * (H137.1 1826 19) ≤ ((2 * l + 1 : Nat) : Int) ∧ 2 * l + 1 ≤ 31) (by omega : (H137.1 1826 35) = 0 → 0 ≤ (0 : Int) ∧ (0 : Int) ≤ 40)) ?_
                  rintro _ H273 ⟨rfl, hx273f, hx273g, hx273z, hx273b, hx273c⟩
                  refine h_rng (fun hrg274 => ?_)
                  have hf275 : fr [30, 31, 32, 33, 35, 36, 19, 39, 40, 41, 43, 44, 47] [1841, 1842, 1843, 1844, 1845, 1846, 1847, 1849, 1850, 1851, 1852, 1853, 1854] H H273 := fr_t (fr_o (fr_o (fr_o hf141 (by decide)) (by decide)) (by decide)) hx273f (by decide) (by decide)
                  have ha276 : agp H H273 := agp_tr (agp_o (agp_o (agp_o ha142 (by decide)) (by decide)) (by decide)) hx273g
                  replace hx273c : hid _ := hx273c
                  refine h_run 0 (pc' := 189) (l' := [(0, .inr (.inr 1826)), (1, .inl (l : Int)), (2, .inl hx100r), (3, .inl (-1))]) (st' := []) rfl ?_
                  have g277 : -2147483648 ≤ (H273.1 1826 35) ∧ (H273.1 1826 35) ≤ 2147483647 := hrg274.1 1826 13 35 _ .int rfl rfl
                  have e278 : (H273.1 1826 35) = (H137.1 1826 35) := hx273f.2.2 35 (by decide)
                  have hx273n : GB Y m c0 H273 False := Or.inr ⟨(by omega : (H273.1 1826 35) ≠ 0), BD_fr (BD_fr (GB_b hx137n (by omega)) (fr_o (fr_o (fr_o (fr_rf [40, 41, 43] [] H137) (by decide)) (by decide)) (by decide)) (by decide) (by decide)) hx273f (by decide) (by decide)⟩
                  refine h_run 1 (pc' := 190) (l' := [(0, .inr (.inr 1826)), (1, .inl (l : Int)), (2, .inl hx100r), (3, .inl (-1))]) (st' := [.inr (.inr 1826)]) rfl ?_
                  refine h_cv (i := 293) (j := 158) (b := 1826) (M' := mt_158) (xs := []) (rest := []) rfl rfl rfl rfl rfl rfl (Nat.le_of_ble_eq_true rfl) (Nat.le_of_ble_eq_true rfl) (by omega) (m_good0 (by omega) (by omega : (H273.1 1826 35) ≠ 0)) ?_
                  rintro _ _ ⟨rfl, rfl⟩
                  refine h_run 0 (pc' := 193) (l' := [(0, .inr (.inr 1826)), (1, .inl (l : Int)), (2, .inl hx100r), (3, .inl (-1))]) (st' := [.inl 0]) rfl ?_
                  refine h_zeq (off := 83) (t := 276) rfl rfl (by decide) (fun _ => ?_) (fun c => absurd c (by decide))
                  refine h_ret rfl rfl ?_
                  have g279 : -2147483648 ≤ (H273.1 1826 30) ∧ (H273.1 1826 30) ≤ 2147483647 := hrg274.1 1826 13 30 _ .int rfl rfl
                  have e280 : (H273.1 1826 30) = (H137.1 1826 30) := hx273f.2.2 30 (by decide)
                  have g281 : -2147483648 ≤ (H273.1 1826 32) ∧ (H273.1 1826 32) ≤ 2147483647 := hrg274.1 1826 13 32 _ .int rfl rfl
                  have e282 : (H273.1 1826 32) = (H137.1 1826 32) := hx273f.2.2 32 (by decide)
                  have g283 : -2147483648 ≤ (H273.1 1826 31) ∧ (H273.1 1826 31) ≤ 2147483647 := hrg274.1 1826 13 31 _ .int rfl rfl
                  have e284 : (H273.1 1826 31) = (H137.1 1826 31) := hx273f.2.2 31 (by decide)
                  have g285 : -2147483648 ≤ (H273.1 1826 29) ∧ (H273.1 1826 29) ≤ 2147483647 := hrg274.1 1826 13 29 _ .int rfl rfl
                  have e286 : (H273.1 1826 29) = (H137.1 1826 29) := hx273f.2.2 29 (by decide)
                  have e287 : (H137.1 1826 29) = (H124.1 1826 29) := hx137f.2.2 29 (by decide)
                  have g288 : -2147483648 ≤ (H273.1 1826 1) ∧ (H273.1 1826 1) ≤ 2147483647 := hrg274.1 1826 13 1 _ .int rfl rfl
                  have e289 : (H273.1 1826 1) = (H137.1 1826 1) := hx273f.2.2 1 (by decide)
                  have e290 : (H137.1 1826 1) = (H124.1 1826 1) := hx137f.2.2 1 (by decide)
                  have e291 : (H124.1 1826 1) = (H100.1 1826 1) := hx124f.2.2 1 (by decide)
                  have e292 : (H100.1 1826 1) = (H82.1 1826 1) := hx100f.2.2 1 (by decide)
                  have g293 : -2147483648 ≤ (H273.1 1826 3) ∧ (H273.1 1826 3) ≤ 2147483647 := hrg274.1 1826 13 3 _ .int rfl rfl
                  have e294 : (H273.1 1826 3) = (H137.1 1826 3) := hx273f.2.2 3 (by decide)
                  have e295 : (H137.1 1826 3) = (H124.1 1826 3) := hx137f.2.2 3 (by decide)
                  have e296 : (H124.1 1826 3) = (H100.1 1826 3) := hx124f.2.2 3 (by decide)
                  have e297 : (H100.1 1826 3) = (H82.1 1826 3) := hx100f.2.2 3 (by decide)
                  have g298 : -2147483648 ≤ (H273.1 1826 8) ∧ (H273.1 1826 8) ≤ 2147483647 := hrg274.1 1826 13 8 _ .int rfl rfl
                  have e299 : (H273.1 1826 8) = (H137.1 1826 8) := hx273f.2.2 8 (by decide)
                  have e300 : (H137.1 1826 8) = (H124.1 1826 8) := hx137f.2.2 8 (by decide)
                  have e301 : (H124.1 1826 8) = (H100.1 1826 8) := hx124f.2.2 8 (by decide)
                  have e302 : (H100.1 1826 8) = (H82.1 1826 8) := hx100f.2.2 8 (by decide)
                  have g303 : -2147483648 ≤ (H273.1 1826 13) ∧ (H273.1 1826 13) ≤ 2147483647 := hrg274.1 1826 13 13 _ .int rfl rfl
                  have e304 : (H273.1 1826 13) = (H137.1 1826 13) := hx273f.2.2 13 (by decide)
                  have e305 : (H137.1 1826 13) = (H124.1 1826 13) := hx137f.2.2 13 (by decide)
                  have e306 : (H124.1 1826 13) = (H100.1 1826 13) := hx124f.2.2 13 (by decide)
                  have e307 : (H100.1 1826 13) = (H82.1 1826 13) := hx100f.2.2 13 (by decide)
                  have g308 : -2147483648 ≤ (H273.1 1826 19) ∧ (H273.1 1826 19) ≤ 2147483647 := hrg274.1 1826 13 19 _ .int rfl rfl
                  have e309 : (H273.1 1826 19) = (H137.1 1826 19) := hx273f.2.2 19 (by decide)
                  have g310 : -2147483648 ≤ (H273.1 1826 39) ∧ (H273.1 1826 39) ≤ 2147483647 := hrg274.1 1826 13 39 _ .int rfl rfl
                  have e311 : (H273.1 1826 39) = (H137.1 1826 39) := hx273f.2.2 39 (by decide)
                  have e312 : (H137.1 1826 39) = (H124.1 1826 39) := hx137f.2.2 39 (by decide)
                  have e313 : (H124.1 1826 39) = (H100.1 1826 39) := hx124f.2.2 39 (by decide)
                  exact ⟨rfl, (Or.inr ⟨(by omega : (H273.1 1826 35) ≠ 0), GB_b hx273n (by omega)⟩), hf275, (by omega : (H.1 1826 30) ≤ (H273.1 1826 30) ∧ (H273.1 1826 30) ≤ (H.1 1826 29)), (by omega : 0 ≤ (H273.1 1826 35) ∧ (H273.1 1826 35) ≤ 5), (by omega : (H.1 1826 35) ≠ 0 → (H273.1 1826 35) ≠ 0), (by omega : 0 ≤ (H273.1 1826 32) ∧ (H273.1 1826 32) ≤ 1000), ha276, (fun (q : (H273.1 1826 35) = 0) => absurd q (by omega))⟩
              · skip
                clear hx100k
                clear hx100w
                refine h_run 1 (pc' := 135) (l' := [(0, .inr (.inr 1826)), (1, .inl (l : Int)), (2, .inl hx100r)]) (st' := []) rfl ?_
                skip
                refine h_run 4 (pc' := 139) (l' := [(0, .inr (.inr 1826)), (1, .inl (l : Int)), (2, .inl hx100r)]) (st' := [.inl (2 * (l : Int)), .inr (.inr 1826)]) rfl ?_
                have g314 : -2147483648 ≤ (H100.1 1826 43) ∧ (H100.1 1826 43) ≤ 2147483647 := hrg113.1 1826 13 43 _ .int rfl rfl
                have g315 : -2147483648 ≤ (H100.1 1826 19) ∧ (H100.1 1826 19) ≤ 2147483647 := hrg113.1 1826 13 19 _ .int rfl rfl
                have e316 : (H100.1 1826 19) = (H82.1 1826 19) := hx100f.2.2 19 (by decide)
                rw [show (2 * (l : Int)) = ((2 * l : Nat) : Int) by omega]
                refine h_cv (i := 390) (j := 188) (b := 1826) (M' := mt_188) (xs := [.inl ((2 * l : Nat) : Int)]) (rest := []) rfl rfl rfl rfl rfl rfl (Nat.le_of_ble_eq_true rfl) (Nat.le_of_ble_eq_true rfl) (by omega) (m_keepSide (by omega) (s := 2 * l) (by omega : 2 * (H100.1 1826 19) ≤ ((2 * l : Nat) : Int) ∧ 2 * l ≤ 31) (by omega : (H100.1 1826 35) = 0 → 0 ≤ (H100.1 1826 43) ∧ (H100.1 1826 43) ≤ 40)) ?_
                rintro _ H317 ⟨rfl, hx317f, hx317g, hx317z, hx317b, hx317c⟩
                refine h_rng (fun hrg318 => ?_)
                have hf319 : fr [30, 31, 32, 33, 35, 36, 19, 39, 40, 41, 43, 44, 47] [1841, 1842, 1843, 1844, 1845, 1846, 1847, 1849, 1850, 1851, 1852, 1853, 1854] H H317 := fr_t hf114 hx317f (by decide) (by decide)
                have ha320 : agp H H317 := agp_tr ha115 hx317g
                replace hx317c : hid _ := hx317c
                refine h_run 0 (pc' := 142) (l' := [(0, .inr (.inr 1826)), (1, .inl (l : Int)), (2, .inl hx100r)]) (st' := []) rfl ?_
                have g321 : -2147483648 ≤ (H317.1 1826 35) ∧ (H317.1 1826 35) ≤ 2147483647 := hrg318.1 1826 13 35 _ .int rfl rfl
                have e322 : (H317.1 1826 35) = (H100.1 1826 35) := hx317f.2.2 35 (by decide)
                have hx317n : GB Y m c0 H317 False := Or.inr ⟨(by omega : (H317.1 1826 35) ≠ 0), BD_fr (BD_fr (GB_b hx100n (by omega)) (fr_rf [] [] H100) (by decide) (by decide)) hx317f (by decide) (by decide)⟩
                refine h_run 2 (pc' := 145) (l' := [(0, .inr (.inr 1826)), (1, .inl (l : Int)), (2, .inl hx100r)]) (st' := [.inl 61, .inr (.inr 1826)]) rfl ?_
                refine h_cv (i := 313) (j := 166) (b := 1826) (M' := mt_166) (xs := [.inl 61]) (rest := []) rfl rfl rfl rfl rfl rfl (Nat.le_of_ble_eq_true rfl) (Nat.le_of_ble_eq_true rfl) (by omega) (n_want0 (by omega) (by omega : (H317.1 1826 35) ≠ 0)) ?_
                rintro _ _ ⟨rfl, rfl⟩
                refine h_run 0 (pc' := 148) (l' := [(0, .inr (.inr 1826)), (1, .inl (l : Int)), (2, .inl hx100r)]) (st' := []) rfl ?_
                refine h_run 2 (pc' := 150) (l' := [(0, .inr (.inr 1826)), (1, .inl (l : Int)), (2, .inl hx100r)]) (st' := [.inl 0, .inr (.inr 1826)]) rfl ?_
                refine h_puti (i := 300) (ci := 13) (k := 40) (a := 1826) (x := 0) rfl rfl rfl rfl rfl rfl (by decide) (by decide) ?_
                refine h_run 2 (pc' := 155) (l' := [(0, .inr (.inr 1826)), (1, .inl (l : Int)), (2, .inl hx100r)]) (st' := [.inl 0, .inr (.inr 1826)]) rfl ?_
                refine h_puti (i := 335) (ci := 13) (k := 41) (a := 1826) (x := 0) rfl rfl rfl rfl rfl rfl (by decide) (by decide) ?_
                refine h_run 2 (pc' := 160) (l' := [(0, .inr (.inr 1826)), (1, .inl (l : Int)), (2, .inl hx100r)]) (st' := [.inl 0, .inr (.inr 1826)]) rfl ?_
                refine h_puti (i := 303) (ci := 13) (k := 43) (a := 1826) (x := 0) rfl rfl rfl rfl rfl rfl (by decide) (by decide) ?_
                refine h_run 1 (pc' := 164) (l' := [(0, .inr (.inr 1826)), (1, .inl (l : Int)), (2, .inl hx100r)]) (st' := [.inr (.inr 1826)]) rfl ?_
                refine h_cv (i := 293) (j := 158) (b := 1826) (M' := mt_158) (xs := []) (rest := []) rfl rfl rfl rfl rfl rfl (Nat.le_of_ble_eq_true rfl) (Nat.le_of_ble_eq_true rfl) (by omega) (m_good0 (by omega) (by omega : (H317.1 1826 35) ≠ 0)) ?_
                rintro _ _ ⟨rfl, rfl⟩
                refine h_run 0 (pc' := 167) (l' := [(0, .inr (.inr 1826)), (1, .inl (l : Int)), (2, .inl hx100r)]) (st' := [.inl 0]) rfl ?_
                refine h_zeq (off := 11) (t := 178) rfl rfl (by decide) (fun _ => ?_) (fun c => absurd c (by decide))
                refine h_run 1 (pc' := 179) (l' := [(0, .inr (.inr 1826)), (1, .inl (l : Int)), (2, .inl hx100r)]) (st' := [.inl (-1)]) rfl ?_
                refine h_run 7 (pc' := 186) (l' := [(0, .inr (.inr 1826)), (1, .inl (l : Int)), (2, .inl hx100r), (3, .inl (-1))]) (st' := [.inl ((2 * (l : Int)) + 1), .inr (.inr 1826)]) rfl ?_
                have g323 : -2147483648 ≤ (H317.1 1826 19) ∧ (H317.1 1826 19) ≤ 2147483647 := hrg318.1 1826 13 19 _ .int rfl rfl
                have e324 : (H317.1 1826 19) = (H100.1 1826 19) := hx317f.2.2 19 (by decide)
                rw [show ((2 * (l : Int)) + 1) = ((2 * l + 1 : Nat) : Int) by omega]
                refine h_cv (i := 390) (j := 188) (b := 1826) (M' := mt_188) (xs := [.inl ((2 * l + 1 : Nat) : Int)]) (rest := []) rfl rfl rfl rfl rfl rfl (Nat.le_of_ble_eq_true rfl) (Nat.le_of_ble_eq_true rfl) (by omega) (m_keepSide (by omega) (s := 2 * l + 1) (by omega : 2 * (H317.1 1826 19) ≤ ((2 * l + 1 : Nat) : Int) ∧ 2 * l + 1 ≤ 31) (by omega : (H317.1 1826 35) = 0 → 0 ≤ (0 : Int) ∧ (0 : Int) ≤ 40)) ?_
                rintro _ H325 ⟨rfl, hx325f, hx325g, hx325z, hx325b, hx325c⟩
                refine h_rng (fun hrg326 => ?_)
                have hf327 : fr [30, 31, 32, 33, 35, 36, 19, 39, 40, 41, 43, 44, 47] [1841, 1842, 1843, 1844, 1845, 1846, 1847, 1849, 1850, 1851, 1852, 1853, 1854] H H325 := fr_t (fr_o (fr_o (fr_o hf319 (by decide)) (by decide)) (by decide)) hx325f (by decide) (by decide)
                have ha328 : agp H H325 := agp_tr (agp_o (agp_o (agp_o ha320 (by decide)) (by decide)) (by decide)) hx325g
                replace hx325c : hid _ := hx325c
                refine h_run 0 (pc' := 189) (l' := [(0, .inr (.inr 1826)), (1, .inl (l : Int)), (2, .inl hx100r), (3, .inl (-1))]) (st' := []) rfl ?_
                have g329 : -2147483648 ≤ (H325.1 1826 35) ∧ (H325.1 1826 35) ≤ 2147483647 := hrg326.1 1826 13 35 _ .int rfl rfl
                have e330 : (H325.1 1826 35) = (H317.1 1826 35) := hx325f.2.2 35 (by decide)
                have hx325n : GB Y m c0 H325 False := Or.inr ⟨(by omega : (H325.1 1826 35) ≠ 0), BD_fr (BD_fr (GB_b hx317n (by omega)) (fr_o (fr_o (fr_o (fr_rf [40, 41, 43] [] H317) (by decide)) (by decide)) (by decide)) (by decide) (by decide)) hx325f (by decide) (by decide)⟩
                refine h_run 1 (pc' := 190) (l' := [(0, .inr (.inr 1826)), (1, .inl (l : Int)), (2, .inl hx100r), (3, .inl (-1))]) (st' := [.inr (.inr 1826)]) rfl ?_
                refine h_cv (i := 293) (j := 158) (b := 1826) (M' := mt_158) (xs := []) (rest := []) rfl rfl rfl rfl rfl rfl (Nat.le_of_ble_eq_true rfl) (Nat.le_of_ble_eq_true rfl) (by omega) (m_good0 (by omega) (by omega : (H325.1 1826 35) ≠ 0)) ?_
                rintro _ _ ⟨rfl, rfl⟩
                refine h_run 0 (pc' := 193) (l' := [(0, .inr (.inr 1826)), (1, .inl (l : Int)), (2, .inl hx100r), (3, .inl (-1))]) (st' := [.inl 0]) rfl ?_
                refine h_zeq (off := 83) (t := 276) rfl rfl (by decide) (fun _ => ?_) (fun c => absurd c (by decide))
                refine h_ret rfl rfl ?_
                have g331 : -2147483648 ≤ (H325.1 1826 30) ∧ (H325.1 1826 30) ≤ 2147483647 := hrg326.1 1826 13 30 _ .int rfl rfl
                have e332 : (H325.1 1826 30) = (H317.1 1826 30) := hx325f.2.2 30 (by decide)
                have e333 : (H317.1 1826 30) = (H100.1 1826 30) := hx317f.2.2 30 (by decide)
                have g334 : -2147483648 ≤ (H325.1 1826 32) ∧ (H325.1 1826 32) ≤ 2147483647 := hrg326.1 1826 13 32 _ .int rfl rfl
                have e335 : (H325.1 1826 32) = (H317.1 1826 32) := hx325f.2.2 32 (by decide)
                have e336 : (H317.1 1826 32) = (H100.1 1826 32) := hx317f.2.2 32 (by decide)
                have g337 : -2147483648 ≤ (H325.1 1826 31) ∧ (H325.1 1826 31) ≤ 2147483647 := hrg326.1 1826 13 31 _ .int rfl rfl
                have e338 : (H325.1 1826 31) = (H317.1 1826 31) := hx325f.2.2 31 (by decide)
                have e339 : (H317.1 1826 31) = (H100.1 1826 31) := hx317f.2.2 31 (by decide)
                have g340 : -2147483648 ≤ (H325.1 1826 29) ∧ (H325.1 1826 29) ≤ 2147483647 := hrg326.1 1826 13 29 _ .int rfl rfl
                have e341 : (H325.1 1826 29) = (H317.1 1826 29) := hx325f.2.2 29 (by decide)
                have e342 : (H317.1 1826 29) = (H100.1 1826 29) := hx317f.2.2 29 (by decide)
                have e343 : (H100.1 1826 29) = (H82.1 1826 29) := hx100f.2.2 29 (by decide)
                have g344 : -2147483648 ≤ (H325.1 1826 1) ∧ (H325.1 1826 1) ≤ 2147483647 := hrg326.1 1826 13 1 _ .int rfl rfl
                have e345 : (H325.1 1826 1) = (H317.1 1826 1) := hx325f.2.2 1 (by decide)
                have e346 : (H317.1 1826 1) = (H100.1 1826 1) := hx317f.2.2 1 (by decide)
                have e347 : (H100.1 1826 1) = (H82.1 1826 1) := hx100f.2.2 1 (by decide)
                have g348 : -2147483648 ≤ (H325.1 1826 3) ∧ (H325.1 1826 3) ≤ 2147483647 := hrg326.1 1826 13 3 _ .int rfl rfl
                have e349 : (H325.1 1826 3) = (H317.1 1826 3) := hx325f.2.2 3 (by decide)
                have e350 : (H317.1 1826 3) = (H100.1 1826 3) := hx317f.2.2 3 (by decide)
                have e351 : (H100.1 1826 3) = (H82.1 1826 3) := hx100f.2.2 3 (by decide)
                have g352 : -2147483648 ≤ (H325.1 1826 8) ∧ (H325.1 1826 8) ≤ 2147483647 := hrg326.1 1826 13 8 _ .int rfl rfl
                have e353 : (H325.1 1826 8) = (H317.1 1826 8) := hx325f.2.2 8 (by decide)
                have e354 : (H317.1 1826 8) = (H100.1 1826 8) := hx317f.2.2 8 (by decide)
                have e355 : (H100.1 1826 8) = (H82.1 1826 8) := hx100f.2.2 8 (by decide)
                have g356 : -2147483648 ≤ (H325.1 1826 13) ∧ (H325.1 1826 13) ≤ 2147483647 := hrg326.1 1826 13 13 _ .int rfl rfl
                have e357 : (H325.1 1826 13) = (H317.1 1826 13) := hx325f.2.2 13 (by decide)
                have e358 : (H317.1 1826 13) = (H100.1 1826 13) := hx317f.2.2 13 (by decide)
                have e359 : (H100.1 1826 13) = (H82.1 1826 13) := hx100f.2.2 13 (by decide)
                have g360 : -2147483648 ≤ (H325.1 1826 19) ∧ (H325.1 1826 19) ≤ 2147483647 := hrg326.1 1826 13 19 _ .int rfl rfl
                have e361 : (H325.1 1826 19) = (H317.1 1826 19) := hx325f.2.2 19 (by decide)
                have g362 : -2147483648 ≤ (H325.1 1826 39) ∧ (H325.1 1826 39) ≤ 2147483647 := hrg326.1 1826 13 39 _ .int rfl rfl
                have e363 : (H325.1 1826 39) = (H317.1 1826 39) := hx325f.2.2 39 (by decide)
                have e364 : (H317.1 1826 39) = (H100.1 1826 39) := hx317f.2.2 39 (by decide)
                exact ⟨rfl, (Or.inr ⟨(by omega : (H325.1 1826 35) ≠ 0), GB_b hx325n (by omega)⟩), hf327, (by omega : (H.1 1826 30) ≤ (H325.1 1826 30) ∧ (H325.1 1826 30) ≤ (H.1 1826 29)), (by omega : 0 ≤ (H325.1 1826 35) ∧ (H325.1 1826 35) ≤ 5), (by omega : (H.1 1826 35) ≠ 0 → (H325.1 1826 35) ≠ 0), (by omega : 0 ≤ (H325.1 1826 32) ∧ (H325.1 1826 32) ≤ 1000), ha328, (fun (q : (H325.1 1826 35) = 0) => absurd q (by omega))⟩
            · skip
              clear hx82g
              refine h_run 1 (pc' := 110) (l' := [(0, .inr (.inr 1826)), (1, .inl (l : Int))]) (st' := [.inr (.inr 1826)]) rfl ?_
              refine h_cv (i := 379) (j := 185) (b := 1826) (M' := mt_185) (xs := []) (rest := []) rfl rfl rfl rfl rfl rfl (Nat.le_of_ble_eq_true rfl) (Nat.le_of_ble_eq_true rfl) (by omega) (m_beginTerm (by omega)) ?_
              rintro _ _ ⟨rfl, rfl⟩
              refine h_run 0 (pc' := 113) (l' := [(0, .inr (.inr 1826)), (1, .inl (l : Int))]) (st' := []) rfl ?_
              refine h_run 2 (pc' := 115) (l' := [(0, .inr (.inr 1826)), (1, .inl (l : Int))]) (st' := [.inl 2, .inr (.inr 1826)]) rfl ?_
              refine h_puti (i := 367) (ci := 13) (k := 44) (a := 1826) (x := 2) rfl rfl rfl rfl rfl rfl (by decide) (by decide) ?_
              refine h_run 1 (pc' := 119) (l' := [(0, .inr (.inr 1826)), (1, .inl (l : Int))]) (st' := [.inr (.inr 1826)]) rfl ?_
              refine h_cv (i := 293) (j := 158) (b := 1826) (M' := mt_158) (xs := []) (rest := []) rfl rfl rfl rfl rfl rfl (Nat.le_of_ble_eq_true rfl) (Nat.le_of_ble_eq_true rfl) (by omega) (m_good0 (by omega) (by omega : (H82.1 1826 35) ≠ 0)) ?_
              rintro _ _ ⟨rfl, rfl⟩
              refine h_run 0 (pc' := 122) (l' := [(0, .inr (.inr 1826)), (1, .inl (l : Int))]) (st' := [.inl 0]) rfl ?_
              refine h_zeq (off := 11) (t := 133) rfl rfl (by decide) (fun _ => ?_) (fun c => absurd c (by decide))
              refine h_run 1 (pc' := 134) (l' := [(0, .inr (.inr 1826)), (1, .inl (l : Int))]) (st' := [.inl (-1)]) rfl ?_
              refine h_run 1 (pc' := 135) (l' := [(0, .inr (.inr 1826)), (1, .inl (l : Int)), (2, .inl (-1))]) (st' := []) rfl ?_
              skip
              refine h_run 4 (pc' := 139) (l' := [(0, .inr (.inr 1826)), (1, .inl (l : Int)), (2, .inl (-1))]) (st' := [.inl (2 * (l : Int)), .inr (.inr 1826)]) rfl ?_
              have g365 : -2147483648 ≤ (H82.1 1826 19) ∧ (H82.1 1826 19) ≤ 2147483647 := hrg84.1 1826 13 19 _ .int rfl rfl
              have e366 : (H82.1 1826 19) = (H72.1 1826 19) := hx82f.2.2 19 (by decide)
              have e367 : (H72.1 1826 19) = (H39.1 1826 19) := hx72f.2.2 19 (by decide)
              rw [show (2 * (l : Int)) = ((2 * l : Nat) : Int) by omega]
              refine h_cv (i := 390) (j := 188) (b := 1826) (M' := mt_188) (xs := [.inl ((2 * l : Nat) : Int)]) (rest := []) rfl rfl rfl rfl rfl rfl (Nat.le_of_ble_eq_true rfl) (Nat.le_of_ble_eq_true rfl) (by omega) (m_keepSide (by omega) (s := 2 * l) (by omega : 2 * (H82.1 1826 19) ≤ ((2 * l : Nat) : Int) ∧ 2 * l ≤ 31) (by omega : (H82.1 1826 35) = 0 → 0 ≤ (0 : Int) ∧ (0 : Int) ≤ 40)) ?_
              rintro _ H368 ⟨rfl, hx368f, hx368g, hx368z, hx368b, hx368c⟩
              refine h_rng (fun hrg369 => ?_)
              have hf370 : fr [30, 31, 32, 33, 35, 36, 19, 39, 40, 41, 43, 44, 47] [1841, 1842, 1843, 1844, 1845, 1846, 1847, 1849, 1850, 1851, 1852, 1853, 1854] H H368 := fr_t (fr_o (fr_o (fr_o (fr_o (fr_o hf85 (by decide)) (by decide)) (by decide)) (by decide)) (by decide)) hx368f (by decide) (by decide)
              have ha371 : agp H H368 := agp_tr (agp_o (agp_o (agp_o (agp_o (agp_o ha86 (by decide)) (by decide)) (by decide)) (by decide)) (by decide)) hx368g
              replace hx368c : hid _ := hx368c
              refine h_run 0 (pc' := 142) (l' := [(0, .inr (.inr 1826)), (1, .inl (l : Int)), (2, .inl (-1))]) (st' := []) rfl ?_
              have g372 : -2147483648 ≤ (H368.1 1826 35) ∧ (H368.1 1826 35) ≤ 2147483647 := hrg369.1 1826 13 35 _ .int rfl rfl
              have e373 : (H368.1 1826 35) = (H82.1 1826 35) := hx368f.2.2 35 (by decide)
              have hx368n : GB Y m c0 H368 False := Or.inr ⟨(by omega : (H368.1 1826 35) ≠ 0), BD_fr (BD_fr (GB_b hx82n (by omega)) (fr_o (fr_o (fr_o (fr_o (fr_o (fr_rf [39, 40, 41, 43, 44] [] H82) (by decide)) (by decide)) (by decide)) (by decide)) (by decide)) (by decide) (by decide)) hx368f (by decide) (by decide)⟩
              refine h_run 2 (pc' := 145) (l' := [(0, .inr (.inr 1826)), (1, .inl (l : Int)), (2, .inl (-1))]) (st' := [.inl 61, .inr (.inr 1826)]) rfl ?_
              refine h_cv (i := 313) (j := 166) (b := 1826) (M' := mt_166) (xs := [.inl 61]) (rest := []) rfl rfl rfl rfl rfl rfl (Nat.le_of_ble_eq_true rfl) (Nat.le_of_ble_eq_true rfl) (by omega) (n_want0 (by omega) (by omega : (H368.1 1826 35) ≠ 0)) ?_
              rintro _ _ ⟨rfl, rfl⟩
              refine h_run 0 (pc' := 148) (l' := [(0, .inr (.inr 1826)), (1, .inl (l : Int)), (2, .inl (-1))]) (st' := []) rfl ?_
              refine h_run 2 (pc' := 150) (l' := [(0, .inr (.inr 1826)), (1, .inl (l : Int)), (2, .inl (-1))]) (st' := [.inl 0, .inr (.inr 1826)]) rfl ?_
              refine h_puti (i := 300) (ci := 13) (k := 40) (a := 1826) (x := 0) rfl rfl rfl rfl rfl rfl (by decide) (by decide) ?_
              refine h_run 2 (pc' := 155) (l' := [(0, .inr (.inr 1826)), (1, .inl (l : Int)), (2, .inl (-1))]) (st' := [.inl 0, .inr (.inr 1826)]) rfl ?_
              refine h_puti (i := 335) (ci := 13) (k := 41) (a := 1826) (x := 0) rfl rfl rfl rfl rfl rfl (by decide) (by decide) ?_
              refine h_run 2 (pc' := 160) (l' := [(0, .inr (.inr 1826)), (1, .inl (l : Int)), (2, .inl (-1))]) (st' := [.inl 0, .inr (.inr 1826)]) rfl ?_
              refine h_puti (i := 303) (ci := 13) (k := 43) (a := 1826) (x := 0) rfl rfl rfl rfl rfl rfl (by decide) (by decide) ?_
              refine h_run 1 (pc' := 164) (l' := [(0, .inr (.inr 1826)), (1, .inl (l : Int)), (2, .inl (-1))]) (st' := [.inr (.inr 1826)]) rfl ?_
              refine h_cv (i := 293) (j := 158) (b := 1826) (M' := mt_158) (xs := []) (rest := []) rfl rfl rfl rfl rfl rfl (Nat.le_of_ble_eq_true rfl) (Nat.le_of_ble_eq_true rfl) (by omega) (m_good0 (by omega) (by omega : (H368.1 1826 35) ≠ 0)) ?_
              rintro _ _ ⟨rfl, rfl⟩
              refine h_run 0 (pc' := 167) (l' := [(0, .inr (.inr 1826)), (1, .inl (l : Int)), (2, .inl (-1))]) (st' := [.inl 0]) rfl ?_
              refine h_zeq (off := 11) (t := 178) rfl rfl (by decide) (fun _ => ?_) (fun c => absurd c (by decide))
              refine h_run 1 (pc' := 179) (l' := [(0, .inr (.inr 1826)), (1, .inl (l : Int)), (2, .inl (-1))]) (st' := [.inl (-1)]) rfl ?_
              refine h_run 7 (pc' := 186) (l' := [(0, .inr (.inr 1826)), (1, .inl (l : Int)), (2, .inl (-1)), (3, .inl (-1))]) (st' := [.inl ((2 * (l : Int)) + 1), .inr (.inr 1826)]) rfl ?_
              have g374 : -2147483648 ≤ (H368.1 1826 19) ∧ (H368.1 1826 19) ≤ 2147483647 := hrg369.1 1826 13 19 _ .int rfl rfl
              have e375 : (H368.1 1826 19) = (H82.1 1826 19) := hx368f.2.2 19 (by decide)
              rw [show ((2 * (l : Int)) + 1) = ((2 * l + 1 : Nat) : Int) by omega]
              refine h_cv (i := 390) (j := 188) (b := 1826) (M' := mt_188) (xs := [.inl ((2 * l + 1 : Nat) : Int)]) (rest := []) rfl rfl rfl rfl rfl rfl (Nat.le_of_ble_eq_true rfl) (Nat.le_of_ble_eq_true rfl) (by omega) (m_keepSide (by omega) (s := 2 * l + 1) (by omega : 2 * (H368.1 1826 19) ≤ ((2 * l + 1 : Nat) : Int) ∧ 2 * l + 1 ≤ 31) (by omega : (H368.1 1826 35) = 0 → 0 ≤ (0 : Int) ∧ (0 : Int) ≤ 40)) ?_
              rintro _ H376 ⟨rfl, hx376f, hx376g, hx376z, hx376b, hx376c⟩
              refine h_rng (fun hrg377 => ?_)
              have hf378 : fr [30, 31, 32, 33, 35, 36, 19, 39, 40, 41, 43, 44, 47] [1841, 1842, 1843, 1844, 1845, 1846, 1847, 1849, 1850, 1851, 1852, 1853, 1854] H H376 := fr_t (fr_o (fr_o (fr_o hf370 (by decide)) (by decide)) (by decide)) hx376f (by decide) (by decide)
              have ha379 : agp H H376 := agp_tr (agp_o (agp_o (agp_o ha371 (by decide)) (by decide)) (by decide)) hx376g
              replace hx376c : hid _ := hx376c
              refine h_run 0 (pc' := 189) (l' := [(0, .inr (.inr 1826)), (1, .inl (l : Int)), (2, .inl (-1)), (3, .inl (-1))]) (st' := []) rfl ?_
              have g380 : -2147483648 ≤ (H376.1 1826 35) ∧ (H376.1 1826 35) ≤ 2147483647 := hrg377.1 1826 13 35 _ .int rfl rfl
              have e381 : (H376.1 1826 35) = (H368.1 1826 35) := hx376f.2.2 35 (by decide)
              have hx376n : GB Y m c0 H376 False := Or.inr ⟨(by omega : (H376.1 1826 35) ≠ 0), BD_fr (BD_fr (GB_b hx368n (by omega)) (fr_o (fr_o (fr_o (fr_rf [40, 41, 43] [] H368) (by decide)) (by decide)) (by decide)) (by decide) (by decide)) hx376f (by decide) (by decide)⟩
              refine h_run 1 (pc' := 190) (l' := [(0, .inr (.inr 1826)), (1, .inl (l : Int)), (2, .inl (-1)), (3, .inl (-1))]) (st' := [.inr (.inr 1826)]) rfl ?_
              refine h_cv (i := 293) (j := 158) (b := 1826) (M' := mt_158) (xs := []) (rest := []) rfl rfl rfl rfl rfl rfl (Nat.le_of_ble_eq_true rfl) (Nat.le_of_ble_eq_true rfl) (by omega) (m_good0 (by omega) (by omega : (H376.1 1826 35) ≠ 0)) ?_
              rintro _ _ ⟨rfl, rfl⟩
              refine h_run 0 (pc' := 193) (l' := [(0, .inr (.inr 1826)), (1, .inl (l : Int)), (2, .inl (-1)), (3, .inl (-1))]) (st' := [.inl 0]) rfl ?_
              refine h_zeq (off := 83) (t := 276) rfl rfl (by decide) (fun _ => ?_) (fun c => absurd c (by decide))
              refine h_ret rfl rfl ?_
              have g382 : -2147483648 ≤ (H376.1 1826 30) ∧ (H376.1 1826 30) ≤ 2147483647 := hrg377.1 1826 13 30 _ .int rfl rfl
              have e383 : (H376.1 1826 30) = (H368.1 1826 30) := hx376f.2.2 30 (by decide)
              have e384 : (H368.1 1826 30) = (H82.1 1826 30) := hx368f.2.2 30 (by decide)
              have g385 : -2147483648 ≤ (H376.1 1826 32) ∧ (H376.1 1826 32) ≤ 2147483647 := hrg377.1 1826 13 32 _ .int rfl rfl
              have e386 : (H376.1 1826 32) = (H368.1 1826 32) := hx376f.2.2 32 (by decide)
              have e387 : (H368.1 1826 32) = (H82.1 1826 32) := hx368f.2.2 32 (by decide)
              have g388 : -2147483648 ≤ (H376.1 1826 31) ∧ (H376.1 1826 31) ≤ 2147483647 := hrg377.1 1826 13 31 _ .int rfl rfl
              have e389 : (H376.1 1826 31) = (H368.1 1826 31) := hx376f.2.2 31 (by decide)
              have e390 : (H368.1 1826 31) = (H82.1 1826 31) := hx368f.2.2 31 (by decide)
              have g391 : -2147483648 ≤ (H376.1 1826 29) ∧ (H376.1 1826 29) ≤ 2147483647 := hrg377.1 1826 13 29 _ .int rfl rfl
              have e392 : (H376.1 1826 29) = (H368.1 1826 29) := hx376f.2.2 29 (by decide)
              have e393 : (H368.1 1826 29) = (H82.1 1826 29) := hx368f.2.2 29 (by decide)
              have e394 : (H82.1 1826 29) = (H72.1 1826 29) := hx82f.2.2 29 (by decide)
              have g395 : -2147483648 ≤ (H376.1 1826 1) ∧ (H376.1 1826 1) ≤ 2147483647 := hrg377.1 1826 13 1 _ .int rfl rfl
              have e396 : (H376.1 1826 1) = (H368.1 1826 1) := hx376f.2.2 1 (by decide)
              have e397 : (H368.1 1826 1) = (H82.1 1826 1) := hx368f.2.2 1 (by decide)
              have e398 : (H82.1 1826 1) = (H72.1 1826 1) := hx82f.2.2 1 (by decide)
              have e399 : (H72.1 1826 1) = (H39.1 1826 1) := hx72f.2.2 1 (by decide)
              have e400 : (H39.1 1826 1) = (H.1 1826 1) := hx39f.2.2 1 (by decide)
              have g401 : -2147483648 ≤ (H376.1 1826 3) ∧ (H376.1 1826 3) ≤ 2147483647 := hrg377.1 1826 13 3 _ .int rfl rfl
              have e402 : (H376.1 1826 3) = (H368.1 1826 3) := hx376f.2.2 3 (by decide)
              have e403 : (H368.1 1826 3) = (H82.1 1826 3) := hx368f.2.2 3 (by decide)
              have e404 : (H82.1 1826 3) = (H72.1 1826 3) := hx82f.2.2 3 (by decide)
              have e405 : (H72.1 1826 3) = (H39.1 1826 3) := hx72f.2.2 3 (by decide)
              have e406 : (H39.1 1826 3) = (H.1 1826 3) := hx39f.2.2 3 (by decide)
              have g407 : -2147483648 ≤ (H376.1 1826 8) ∧ (H376.1 1826 8) ≤ 2147483647 := hrg377.1 1826 13 8 _ .int rfl rfl
              have e408 : (H376.1 1826 8) = (H368.1 1826 8) := hx376f.2.2 8 (by decide)
              have e409 : (H368.1 1826 8) = (H82.1 1826 8) := hx368f.2.2 8 (by decide)
              have e410 : (H82.1 1826 8) = (H72.1 1826 8) := hx82f.2.2 8 (by decide)
              have e411 : (H72.1 1826 8) = (H39.1 1826 8) := hx72f.2.2 8 (by decide)
              have e412 : (H39.1 1826 8) = (H.1 1826 8) := hx39f.2.2 8 (by decide)
              have g413 : -2147483648 ≤ (H376.1 1826 13) ∧ (H376.1 1826 13) ≤ 2147483647 := hrg377.1 1826 13 13 _ .int rfl rfl
              have e414 : (H376.1 1826 13) = (H368.1 1826 13) := hx376f.2.2 13 (by decide)
              have e415 : (H368.1 1826 13) = (H82.1 1826 13) := hx368f.2.2 13 (by decide)
              have e416 : (H82.1 1826 13) = (H72.1 1826 13) := hx82f.2.2 13 (by decide)
              have e417 : (H72.1 1826 13) = (H39.1 1826 13) := hx72f.2.2 13 (by decide)
              have e418 : (H39.1 1826 13) = (H.1 1826 13) := hx39f.2.2 13 (by decide)
              have g419 : -2147483648 ≤ (H376.1 1826 19) ∧ (H376.1 1826 19) ≤ 2147483647 := hrg377.1 1826 13 19 _ .int rfl rfl
              have e420 : (H376.1 1826 19) = (H368.1 1826 19) := hx376f.2.2 19 (by decide)
              have g421 : -2147483648 ≤ (H376.1 1826 39) ∧ (H376.1 1826 39) ≤ 2147483647 := hrg377.1 1826 13 39 _ .int rfl rfl
              have e422 : (H376.1 1826 39) = (H368.1 1826 39) := hx376f.2.2 39 (by decide)
              have e423 : (H368.1 1826 39) = 0 := hx368f.2.2 39 (by decide)
              exact ⟨rfl, (Or.inr ⟨(by omega : (H376.1 1826 35) ≠ 0), GB_b hx376n (by omega)⟩), hf378, (by omega : (H.1 1826 30) ≤ (H376.1 1826 30) ∧ (H376.1 1826 30) ≤ (H.1 1826 29)), (by omega : 0 ≤ (H376.1 1826 35) ∧ (H376.1 1826 35) ≤ 5), (by omega : (H.1 1826 35) ≠ 0 → (H376.1 1826 35) ≠ 0), (by omega : 0 ≤ (H376.1 1826 32) ∧ (H376.1 1826 32) ≤ 1000), ha379, (fun (q : (H376.1 1826 35) = 0) => absurd q (by omega))⟩
          · skip
            clear hx72g
            refine h_run 2 (pc' := 106) (l' := [(0, .inr (.inr 1826)), (1, .inl (l : Int))]) (st' := [.inl 58, .inr (.inr 1826)]) rfl ?_
            refine h_cv (i := 313) (j := 166) (b := 1826) (M' := mt_166) (xs := [.inl 58]) (rest := []) rfl rfl rfl rfl rfl rfl (Nat.le_of_ble_eq_true rfl) (Nat.le_of_ble_eq_true rfl) (by omega) (n_want0 (by omega) (by omega : (H72.1 1826 35) ≠ 0)) ?_
            rintro _ _ ⟨rfl, rfl⟩
            refine h_run 0 (pc' := 109) (l' := [(0, .inr (.inr 1826)), (1, .inl (l : Int))]) (st' := []) rfl ?_
            refine h_run 1 (pc' := 110) (l' := [(0, .inr (.inr 1826)), (1, .inl (l : Int))]) (st' := [.inr (.inr 1826)]) rfl ?_
            refine h_cv (i := 379) (j := 185) (b := 1826) (M' := mt_185) (xs := []) (rest := []) rfl rfl rfl rfl rfl rfl (Nat.le_of_ble_eq_true rfl) (Nat.le_of_ble_eq_true rfl) (by omega) (m_beginTerm (by omega)) ?_
            rintro _ _ ⟨rfl, rfl⟩
            refine h_run 0 (pc' := 113) (l' := [(0, .inr (.inr 1826)), (1, .inl (l : Int))]) (st' := []) rfl ?_
            refine h_run 2 (pc' := 115) (l' := [(0, .inr (.inr 1826)), (1, .inl (l : Int))]) (st' := [.inl 2, .inr (.inr 1826)]) rfl ?_
            refine h_puti (i := 367) (ci := 13) (k := 44) (a := 1826) (x := 2) rfl rfl rfl rfl rfl rfl (by decide) (by decide) ?_
            refine h_run 1 (pc' := 119) (l' := [(0, .inr (.inr 1826)), (1, .inl (l : Int))]) (st' := [.inr (.inr 1826)]) rfl ?_
            refine h_cv (i := 293) (j := 158) (b := 1826) (M' := mt_158) (xs := []) (rest := []) rfl rfl rfl rfl rfl rfl (Nat.le_of_ble_eq_true rfl) (Nat.le_of_ble_eq_true rfl) (by omega) (m_good0 (by omega) (by omega : (H72.1 1826 35) ≠ 0)) ?_
            rintro _ _ ⟨rfl, rfl⟩
            refine h_run 0 (pc' := 122) (l' := [(0, .inr (.inr 1826)), (1, .inl (l : Int))]) (st' := [.inl 0]) rfl ?_
            refine h_zeq (off := 11) (t := 133) rfl rfl (by decide) (fun _ => ?_) (fun c => absurd c (by decide))
            refine h_run 1 (pc' := 134) (l' := [(0, .inr (.inr 1826)), (1, .inl (l : Int))]) (st' := [.inl (-1)]) rfl ?_
            refine h_run 1 (pc' := 135) (l' := [(0, .inr (.inr 1826)), (1, .inl (l : Int)), (2, .inl (-1))]) (st' := []) rfl ?_
            skip
            refine h_run 4 (pc' := 139) (l' := [(0, .inr (.inr 1826)), (1, .inl (l : Int)), (2, .inl (-1))]) (st' := [.inl (2 * (l : Int)), .inr (.inr 1826)]) rfl ?_
            have g424 : -2147483648 ≤ (H72.1 1826 19) ∧ (H72.1 1826 19) ≤ 2147483647 := hrg73.1 1826 13 19 _ .int rfl rfl
            have e425 : (H72.1 1826 19) = (H39.1 1826 19) := hx72f.2.2 19 (by decide)
            rw [show (2 * (l : Int)) = ((2 * l : Nat) : Int) by omega]
            refine h_cv (i := 390) (j := 188) (b := 1826) (M' := mt_188) (xs := [.inl ((2 * l : Nat) : Int)]) (rest := []) rfl rfl rfl rfl rfl rfl (Nat.le_of_ble_eq_true rfl) (Nat.le_of_ble_eq_true rfl) (by omega) (m_keepSide (by omega) (s := 2 * l) (by omega : 2 * (H72.1 1826 19) ≤ ((2 * l : Nat) : Int) ∧ 2 * l ≤ 31) (by omega : (H72.1 1826 35) = 0 → 0 ≤ (0 : Int) ∧ (0 : Int) ≤ 40)) ?_
            rintro _ H426 ⟨rfl, hx426f, hx426g, hx426z, hx426b, hx426c⟩
            refine h_rng (fun hrg427 => ?_)
            have hf428 : fr [30, 31, 32, 33, 35, 36, 19, 39, 40, 41, 43, 44, 47] [1841, 1842, 1843, 1844, 1845, 1846, 1847, 1849, 1850, 1851, 1852, 1853, 1854] H H426 := fr_t (fr_o (fr_o (fr_o (fr_o (fr_o hf74 (by decide)) (by decide)) (by decide)) (by decide)) (by decide)) hx426f (by decide) (by decide)
            have ha429 : agp H H426 := agp_tr (agp_o (agp_o (agp_o (agp_o (agp_o ha75 (by decide)) (by decide)) (by decide)) (by decide)) (by decide)) hx426g
            replace hx426c : hid _ := hx426c
            refine h_run 0 (pc' := 142) (l' := [(0, .inr (.inr 1826)), (1, .inl (l : Int)), (2, .inl (-1))]) (st' := []) rfl ?_
            have g430 : -2147483648 ≤ (H426.1 1826 35) ∧ (H426.1 1826 35) ≤ 2147483647 := hrg427.1 1826 13 35 _ .int rfl rfl
            have e431 : (H426.1 1826 35) = (H72.1 1826 35) := hx426f.2.2 35 (by decide)
            have hx426n : GB Y m c0 H426 False := Or.inr ⟨(by omega : (H426.1 1826 35) ≠ 0), BD_fr (BD_fr (GB_b hx72n (by omega)) (fr_o (fr_o (fr_o (fr_o (fr_o (fr_rf [39, 40, 41, 43, 44] [] H72) (by decide)) (by decide)) (by decide)) (by decide)) (by decide)) (by decide) (by decide)) hx426f (by decide) (by decide)⟩
            refine h_run 2 (pc' := 145) (l' := [(0, .inr (.inr 1826)), (1, .inl (l : Int)), (2, .inl (-1))]) (st' := [.inl 61, .inr (.inr 1826)]) rfl ?_
            refine h_cv (i := 313) (j := 166) (b := 1826) (M' := mt_166) (xs := [.inl 61]) (rest := []) rfl rfl rfl rfl rfl rfl (Nat.le_of_ble_eq_true rfl) (Nat.le_of_ble_eq_true rfl) (by omega) (n_want0 (by omega) (by omega : (H426.1 1826 35) ≠ 0)) ?_
            rintro _ _ ⟨rfl, rfl⟩
            refine h_run 0 (pc' := 148) (l' := [(0, .inr (.inr 1826)), (1, .inl (l : Int)), (2, .inl (-1))]) (st' := []) rfl ?_
            refine h_run 2 (pc' := 150) (l' := [(0, .inr (.inr 1826)), (1, .inl (l : Int)), (2, .inl (-1))]) (st' := [.inl 0, .inr (.inr 1826)]) rfl ?_
            refine h_puti (i := 300) (ci := 13) (k := 40) (a := 1826) (x := 0) rfl rfl rfl rfl rfl rfl (by decide) (by decide) ?_
            refine h_run 2 (pc' := 155) (l' := [(0, .inr (.inr 1826)), (1, .inl (l : Int)), (2, .inl (-1))]) (st' := [.inl 0, .inr (.inr 1826)]) rfl ?_
            refine h_puti (i := 335) (ci := 13) (k := 41) (a := 1826) (x := 0) rfl rfl rfl rfl rfl rfl (by decide) (by decide) ?_
            refine h_run 2 (pc' := 160) (l' := [(0, .inr (.inr 1826)), (1, .inl (l : Int)), (2, .inl (-1))]) (st' := [.inl 0, .inr (.inr 1826)]) rfl ?_
            refine h_puti (i := 303) (ci := 13) (k := 43) (a := 1826) (x := 0) rfl rfl rfl rfl rfl rfl (by decide) (by decide) ?_
            refine h_run 1 (pc' := 164) (l' := [(0, .inr (.inr 1826)), (1, .inl (l : Int)), (2, .inl (-1))]) (st' := [.inr (.inr 1826)]) rfl ?_
            refine h_cv (i := 293) (j := 158) (b := 1826) (M' := mt_158) (xs := []) (rest := []) rfl rfl rfl rfl rfl rfl (Nat.le_of_ble_eq_true rfl) (Nat.le_of_ble_eq_true rfl) (by omega) (m_good0 (by omega) (by omega : (H426.1 1826 35) ≠ 0)) ?_
            rintro _ _ ⟨rfl, rfl⟩
            refine h_run 0 (pc' := 167) (l' := [(0, .inr (.inr 1826)), (1, .inl (l : Int)), (2, .inl (-1))]) (st' := [.inl 0]) rfl ?_
            refine h_zeq (off := 11) (t := 178) rfl rfl (by decide) (fun _ => ?_) (fun c => absurd c (by decide))
            refine h_run 1 (pc' := 179) (l' := [(0, .inr (.inr 1826)), (1, .inl (l : Int)), (2, .inl (-1))]) (st' := [.inl (-1)]) rfl ?_
            refine h_run 7 (pc' := 186) (l' := [(0, .inr (.inr 1826)), (1, .inl (l : Int)), (2, .inl (-1)), (3, .inl (-1))]) (st' := [.inl ((2 * (l : Int)) + 1), .inr (.inr 1826)]) rfl ?_
            have g432 : -2147483648 ≤ (H426.1 1826 19) ∧ (H426.1 1826 19) ≤ 2147483647 := hrg427.1 1826 13 19 _ .int rfl rfl
            have e433 : (H426.1 1826 19) = (H72.1 1826 19) := hx426f.2.2 19 (by decide)
            rw [show ((2 * (l : Int)) + 1) = ((2 * l + 1 : Nat) : Int) by omega]
            refine h_cv (i := 390) (j := 188) (b := 1826) (M' := mt_188) (xs := [.inl ((2 * l + 1 : Nat) : Int)]) (rest := []) rfl rfl rfl rfl rfl rfl (Nat.le_of_ble_eq_true rfl) (Nat.le_of_ble_eq_true rfl) (by omega) (m_keepSide (by omega) (s := 2 * l + 1) (by omega : 2 * (H426.1 1826 19) ≤ ((2 * l + 1 : Nat) : Int) ∧ 2 * l + 1 ≤ 31) (by omega : (H426.1 1826 35) = 0 → 0 ≤ (0 : Int) ∧ (0 : Int) ≤ 40)) ?_
            rintro _ H434 ⟨rfl, hx434f, hx434g, hx434z, hx434b, hx434c⟩
            refine h_rng (fun hrg435 => ?_)
            have hf436 : fr [30, 31, 32, 33, 35, 36, 19, 39, 40, 41, 43, 44, 47] [1841, 1842, 1843, 1844, 1845, 1846, 1847, 1849, 1850, 1851, 1852, 1853, 1854] H H434 := fr_t (fr_o (fr_o (fr_o hf428 (by decide)) (by decide)) (by decide)) hx434f (by decide) (by decide)
            have ha437 : agp H H434 := agp_tr (agp_o (agp_o (agp_o ha429 (by decide)) (by decide)) (by decide)) hx434g
            replace hx434c : hid _ := hx434c
            refine h_run 0 (pc' := 189) (l' := [(0, .inr (.inr 1826)), (1, .inl (l : Int)), (2, .inl (-1)), (3, .inl (-1))]) (st' := []) rfl ?_
            have g438 : -2147483648 ≤ (H434.1 1826 35) ∧ (H434.1 1826 35) ≤ 2147483647 := hrg435.1 1826 13 35 _ .int rfl rfl
            have e439 : (H434.1 1826 35) = (H426.1 1826 35) := hx434f.2.2 35 (by decide)
            have hx434n : GB Y m c0 H434 False := Or.inr ⟨(by omega : (H434.1 1826 35) ≠ 0), BD_fr (BD_fr (GB_b hx426n (by omega)) (fr_o (fr_o (fr_o (fr_rf [40, 41, 43] [] H426) (by decide)) (by decide)) (by decide)) (by decide) (by decide)) hx434f (by decide) (by decide)⟩
            refine h_run 1 (pc' := 190) (l' := [(0, .inr (.inr 1826)), (1, .inl (l : Int)), (2, .inl (-1)), (3, .inl (-1))]) (st' := [.inr (.inr 1826)]) rfl ?_
            refine h_cv (i := 293) (j := 158) (b := 1826) (M' := mt_158) (xs := []) (rest := []) rfl rfl rfl rfl rfl rfl (Nat.le_of_ble_eq_true rfl) (Nat.le_of_ble_eq_true rfl) (by omega) (m_good0 (by omega) (by omega : (H434.1 1826 35) ≠ 0)) ?_
            rintro _ _ ⟨rfl, rfl⟩
            refine h_run 0 (pc' := 193) (l' := [(0, .inr (.inr 1826)), (1, .inl (l : Int)), (2, .inl (-1)), (3, .inl (-1))]) (st' := [.inl 0]) rfl ?_
            refine h_zeq (off := 83) (t := 276) rfl rfl (by decide) (fun _ => ?_) (fun c => absurd c (by decide))
            refine h_ret rfl rfl ?_
            have g440 : -2147483648 ≤ (H434.1 1826 30) ∧ (H434.1 1826 30) ≤ 2147483647 := hrg435.1 1826 13 30 _ .int rfl rfl
            have e441 : (H434.1 1826 30) = (H426.1 1826 30) := hx434f.2.2 30 (by decide)
            have e442 : (H426.1 1826 30) = (H72.1 1826 30) := hx426f.2.2 30 (by decide)
            have g443 : -2147483648 ≤ (H434.1 1826 32) ∧ (H434.1 1826 32) ≤ 2147483647 := hrg435.1 1826 13 32 _ .int rfl rfl
            have e444 : (H434.1 1826 32) = (H426.1 1826 32) := hx434f.2.2 32 (by decide)
            have e445 : (H426.1 1826 32) = (H72.1 1826 32) := hx426f.2.2 32 (by decide)
            have g446 : -2147483648 ≤ (H434.1 1826 31) ∧ (H434.1 1826 31) ≤ 2147483647 := hrg435.1 1826 13 31 _ .int rfl rfl
            have e447 : (H434.1 1826 31) = (H426.1 1826 31) := hx434f.2.2 31 (by decide)
            have e448 : (H426.1 1826 31) = (H72.1 1826 31) := hx426f.2.2 31 (by decide)
            have g449 : -2147483648 ≤ (H434.1 1826 29) ∧ (H434.1 1826 29) ≤ 2147483647 := hrg435.1 1826 13 29 _ .int rfl rfl
            have e450 : (H434.1 1826 29) = (H426.1 1826 29) := hx434f.2.2 29 (by decide)
            have e451 : (H426.1 1826 29) = (H72.1 1826 29) := hx426f.2.2 29 (by decide)
            have e452 : (H72.1 1826 29) = (H39.1 1826 29) := hx72f.2.2 29 (by decide)
            have g453 : -2147483648 ≤ (H434.1 1826 1) ∧ (H434.1 1826 1) ≤ 2147483647 := hrg435.1 1826 13 1 _ .int rfl rfl
            have e454 : (H434.1 1826 1) = (H426.1 1826 1) := hx434f.2.2 1 (by decide)
            have e455 : (H426.1 1826 1) = (H72.1 1826 1) := hx426f.2.2 1 (by decide)
            have e456 : (H72.1 1826 1) = (H39.1 1826 1) := hx72f.2.2 1 (by decide)
            have e457 : (H39.1 1826 1) = (H.1 1826 1) := hx39f.2.2 1 (by decide)
            have g458 : -2147483648 ≤ (H434.1 1826 3) ∧ (H434.1 1826 3) ≤ 2147483647 := hrg435.1 1826 13 3 _ .int rfl rfl
            have e459 : (H434.1 1826 3) = (H426.1 1826 3) := hx434f.2.2 3 (by decide)
            have e460 : (H426.1 1826 3) = (H72.1 1826 3) := hx426f.2.2 3 (by decide)
            have e461 : (H72.1 1826 3) = (H39.1 1826 3) := hx72f.2.2 3 (by decide)
            have e462 : (H39.1 1826 3) = (H.1 1826 3) := hx39f.2.2 3 (by decide)
            have g463 : -2147483648 ≤ (H434.1 1826 8) ∧ (H434.1 1826 8) ≤ 2147483647 := hrg435.1 1826 13 8 _ .int rfl rfl
            have e464 : (H434.1 1826 8) = (H426.1 1826 8) := hx434f.2.2 8 (by decide)
            have e465 : (H426.1 1826 8) = (H72.1 1826 8) := hx426f.2.2 8 (by decide)
            have e466 : (H72.1 1826 8) = (H39.1 1826 8) := hx72f.2.2 8 (by decide)
            have e467 : (H39.1 1826 8) = (H.1 1826 8) := hx39f.2.2 8 (by decide)
            have g468 : -2147483648 ≤ (H434.1 1826 13) ∧ (H434.1 1826 13) ≤ 2147483647 := hrg435.1 1826 13 13 _ .int rfl rfl
            have e469 : (H434.1 1826 13) = (H426.1 1826 13) := hx434f.2.2 13 (by decide)
            have e470 : (H426.1 1826 13) = (H72.1 1826 13) := hx426f.2.2 13 (by decide)
            have e471 : (H72.1 1826 13) = (H39.1 1826 13) := hx72f.2.2 13 (by decide)
            have e472 : (H39.1 1826 13) = (H.1 1826 13) := hx39f.2.2 13 (by decide)
            have g473 : -2147483648 ≤ (H434.1 1826 19) ∧ (H434.1 1826 19) ≤ 2147483647 := hrg435.1 1826 13 19 _ .int rfl rfl
            have e474 : (H434.1 1826 19) = (H426.1 1826 19) := hx434f.2.2 19 (by decide)
            have g475 : -2147483648 ≤ (H434.1 1826 39) ∧ (H434.1 1826 39) ≤ 2147483647 := hrg435.1 1826 13 39 _ .int rfl rfl
            have e476 : (H434.1 1826 39) = (H426.1 1826 39) := hx434f.2.2 39 (by decide)
            have e477 : (H426.1 1826 39) = 0 := hx426f.2.2 39 (by decide)
            exact ⟨rfl, (Or.inr ⟨(by omega : (H434.1 1826 35) ≠ 0), GB_b hx434n (by omega)⟩), hf436, (by omega : (H.1 1826 30) ≤ (H434.1 1826 30) ∧ (H434.1 1826 30) ≤ (H.1 1826 29)), (by omega : 0 ≤ (H434.1 1826 35) ∧ (H434.1 1826 35) ≤ 5), (by omega : (H.1 1826 35) ≠ 0 → (H434.1 1826 35) ≠ 0), (by omega : 0 ≤ (H434.1 1826 32) ∧ (H434.1 1826 32) ≤ 1000), ha437, (fun (q : (H434.1 1826 35) = 0) => absurd q (by omega))⟩
        · refine h_run 2 (pc' := 73) (l' := [(0, .inr (.inr 1826))]) (st' := [.inl 5, .inr (.inr 1826)]) rfl ?_
          refine h_cv (i := 278) (j := 159) (b := 1826) (M' := mt_159) (xs := [.inl 5]) (rest := []) rfl rfl rfl rfl rfl rfl (Nat.le_of_ble_eq_true rfl) (Nat.le_of_ble_eq_true rfl) (by omega) (m_bad0 (by omega) (by omega) (by omega : (H39.1 1826 35) = 0)) ?_
          rintro _ _ ⟨rfl, rfl⟩
          refine h_run 0 (pc' := 76) (l' := [(0, .inr (.inr 1826))]) (st' := []) rfl ?_
          refine h_run 1 (pc' := 77) (l' := [(0, .inr (.inr 1826))]) (st' := [.inr (.inr 1826)]) rfl ?_
          refine h_cv (i := 293) (j := 158) (b := 1826) (M' := mt_158) (xs := []) (rest := []) rfl rfl rfl rfl rfl rfl (Nat.le_of_ble_eq_true rfl) (Nat.le_of_ble_eq_true rfl) (by omega) (m_good0 (by omega) (by omega : (5 : Int) ≠ 0)) ?_
          rintro _ _ ⟨rfl, rfl⟩
          refine h_run 0 (pc' := 80) (l' := [(0, .inr (.inr 1826))]) (st' := [.inl 0]) rfl ?_
          refine h_zne (off := 4) (t := 84) rfl rfl (by decide) (fun c => absurd c (by decide)) (fun _ => ?_)
          refine h_ret rfl rfl ?_
          have g478 : -2147483648 ≤ (H39.1 1826 30) ∧ (H39.1 1826 30) ≤ 2147483647 := hrg40.1 1826 13 30 _ .int rfl rfl
          have g479 : -2147483648 ≤ (H39.1 1826 32) ∧ (H39.1 1826 32) ≤ 2147483647 := hrg40.1 1826 13 32 _ .int rfl rfl
          have g480 : -2147483648 ≤ (H39.1 1826 29) ∧ (H39.1 1826 29) ≤ 2147483647 := hrg40.1 1826 13 29 _ .int rfl rfl
          have e481 : (H39.1 1826 29) = (H.1 1826 29) := hx39f.2.2 29 (by decide)
          have g482 : -2147483648 ≤ (H39.1 1826 1) ∧ (H39.1 1826 1) ≤ 2147483647 := hrg40.1 1826 13 1 _ .int rfl rfl
          have e483 : (H39.1 1826 1) = (H.1 1826 1) := hx39f.2.2 1 (by decide)
          have g484 : -2147483648 ≤ (H39.1 1826 3) ∧ (H39.1 1826 3) ≤ 2147483647 := hrg40.1 1826 13 3 _ .int rfl rfl
          have e485 : (H39.1 1826 3) = (H.1 1826 3) := hx39f.2.2 3 (by decide)
          have g486 : -2147483648 ≤ (H39.1 1826 8) ∧ (H39.1 1826 8) ≤ 2147483647 := hrg40.1 1826 13 8 _ .int rfl rfl
          have e487 : (H39.1 1826 8) = (H.1 1826 8) := hx39f.2.2 8 (by decide)
          have g488 : -2147483648 ≤ (H39.1 1826 13) ∧ (H39.1 1826 13) ≤ 2147483647 := hrg40.1 1826 13 13 _ .int rfl rfl
          have e489 : (H39.1 1826 13) = (H.1 1826 13) := hx39f.2.2 13 (by decide)
          have g490 : -2147483648 ≤ (H39.1 1826 39) ∧ (H39.1 1826 39) ≤ 2147483647 := hrg40.1 1826 13 39 _ .int rfl rfl
          have e491 : (H39.1 1826 39) = (H.1 1826 39) := hx39f.2.2 39 (by decide)
          exact ⟨rfl, (Or.inr ⟨(by omega : (5 : Int) ≠ 0), (BD_mk hR1 (fr_o (fr_o (fr_rf [35, 36] [] H39) (by decide)) (by decide)) (by decide) (by decide) (by decide : (5 : Int) ≠ 0) rfl rfl (rch_st hq (by show stDec Y nn K X = _; unfold stDec miss; (repeat (first | rw [if_pos (by omega)] | rw [if_neg (by omega)])); try (first | rfl | (exfalso; omega)))))⟩), (fr_o (fr_o hf41 (by decide)) (by decide)), (by omega : (H.1 1826 30) ≤ (H39.1 1826 30) ∧ (H39.1 1826 30) ≤ (H.1 1826 29)), (by omega : 0 ≤ (5 : Int) ∧ (5 : Int) ≤ 5), (by omega : (H.1 1826 35) ≠ 0 → (5 : Int) ≠ 0), (by omega : 0 ≤ (H39.1 1826 32) ∧ (H39.1 1826 32) ≤ 1000), (agp_o (agp_o ha42 (by decide)) (by decide)), (fun (q : (5 : Int) = 0) => absurd q (by omega))⟩
    · refine h_run 2 (pc' := 21) (l' := [(0, .inr (.inr 1826))]) (st' := [.inl 2, .inr (.inr 1826)]) rfl ?_
      refine h_cv (i := 278) (j := 159) (b := 1826) (M' := mt_159) (xs := [.inl 2]) (rest := []) rfl rfl rfl rfl rfl rfl (Nat.le_of_ble_eq_true rfl) (Nat.le_of_ble_eq_true rfl) (by omega) (m_bad0 (by omega) (by omega) (by omega : (H39.1 1826 35) = 0)) ?_
      rintro _ _ ⟨rfl, rfl⟩
      refine h_run 0 (pc' := 24) (l' := [(0, .inr (.inr 1826))]) (st' := []) rfl ?_
      refine h_run 1 (pc' := 25) (l' := [(0, .inr (.inr 1826))]) (st' := [.inr (.inr 1826)]) rfl ?_
      refine h_cv (i := 293) (j := 158) (b := 1826) (M' := mt_158) (xs := []) (rest := []) rfl rfl rfl rfl rfl rfl (Nat.le_of_ble_eq_true rfl) (Nat.le_of_ble_eq_true rfl) (by omega) (m_good0 (by omega) (by omega : (2 : Int) ≠ 0)) ?_
      rintro _ _ ⟨rfl, rfl⟩
      refine h_run 0 (pc' := 28) (l' := [(0, .inr (.inr 1826))]) (st' := [.inl 0]) rfl ?_
      refine h_zeq (off := 27) (t := 55) rfl rfl (by decide) (fun _ => ?_) (fun c => absurd c (by decide))
      refine h_run 1 (pc' := 56) (l' := [(0, .inr (.inr 1826))]) (st' := [.inr (.inr 1826)]) rfl ?_
      refine h_cv (i := 293) (j := 158) (b := 1826) (M' := mt_158) (xs := []) (rest := []) rfl rfl rfl rfl rfl rfl (Nat.le_of_ble_eq_true rfl) (Nat.le_of_ble_eq_true rfl) (by omega) (m_good0 (by omega) (by omega : (2 : Int) ≠ 0)) ?_
      rintro _ _ ⟨rfl, rfl⟩
      refine h_run 0 (pc' := 59) (l' := [(0, .inr (.inr 1826))]) (st' := [.inl 0]) rfl ?_
      refine h_zeq (off := 17) (t := 76) rfl rfl (by decide) (fun _ => ?_) (fun c => absurd c (by decide))
      refine h_run 1 (pc' := 77) (l' := [(0, .inr (.inr 1826))]) (st' := [.inr (.inr 1826)]) rfl ?_
      refine h_cv (i := 293) (j := 158) (b := 1826) (M' := mt_158) (xs := []) (rest := []) rfl rfl rfl rfl rfl rfl (Nat.le_of_ble_eq_true rfl) (Nat.le_of_ble_eq_true rfl) (by omega) (m_good0 (by omega) (by omega : (2 : Int) ≠ 0)) ?_
      rintro _ _ ⟨rfl, rfl⟩
      refine h_run 0 (pc' := 80) (l' := [(0, .inr (.inr 1826))]) (st' := [.inl 0]) rfl ?_
      refine h_zne (off := 4) (t := 84) rfl rfl (by decide) (fun c => absurd c (by decide)) (fun _ => ?_)
      refine h_ret rfl rfl ?_
      have g492 : -2147483648 ≤ (H39.1 1826 30) ∧ (H39.1 1826 30) ≤ 2147483647 := hrg40.1 1826 13 30 _ .int rfl rfl
      have g493 : -2147483648 ≤ (H39.1 1826 32) ∧ (H39.1 1826 32) ≤ 2147483647 := hrg40.1 1826 13 32 _ .int rfl rfl
      have g494 : -2147483648 ≤ (H39.1 1826 29) ∧ (H39.1 1826 29) ≤ 2147483647 := hrg40.1 1826 13 29 _ .int rfl rfl
      have e495 : (H39.1 1826 29) = (H.1 1826 29) := hx39f.2.2 29 (by decide)
      have g496 : -2147483648 ≤ (H39.1 1826 1) ∧ (H39.1 1826 1) ≤ 2147483647 := hrg40.1 1826 13 1 _ .int rfl rfl
      have e497 : (H39.1 1826 1) = (H.1 1826 1) := hx39f.2.2 1 (by decide)
      have g498 : -2147483648 ≤ (H39.1 1826 3) ∧ (H39.1 1826 3) ≤ 2147483647 := hrg40.1 1826 13 3 _ .int rfl rfl
      have e499 : (H39.1 1826 3) = (H.1 1826 3) := hx39f.2.2 3 (by decide)
      have g500 : -2147483648 ≤ (H39.1 1826 8) ∧ (H39.1 1826 8) ≤ 2147483647 := hrg40.1 1826 13 8 _ .int rfl rfl
      have e501 : (H39.1 1826 8) = (H.1 1826 8) := hx39f.2.2 8 (by decide)
      have g502 : -2147483648 ≤ (H39.1 1826 13) ∧ (H39.1 1826 13) ≤ 2147483647 := hrg40.1 1826 13 13 _ .int rfl rfl
      have e503 : (H39.1 1826 13) = (H.1 1826 13) := hx39f.2.2 13 (by decide)
      have g504 : -2147483648 ≤ (H39.1 1826 19) ∧ (H39.1 1826 19) ≤ 2147483647 := hrg40.1 1826 13 19 _ .int rfl rfl
      have e505 : (H39.1 1826 19) = (H.1 1826 19) := hx39f.2.2 19 (by decide)
      have g506 : -2147483648 ≤ (H39.1 1826 39) ∧ (H39.1 1826 39) ≤ 2147483647 := hrg40.1 1826 13 39 _ .int rfl rfl
      have e507 : (H39.1 1826 39) = (H.1 1826 39) := hx39f.2.2 39 (by decide)
      exact ⟨rfl, (Or.inr ⟨(by omega : (2 : Int) ≠ 0), (BD_mk hR1 (fr_o (fr_o (fr_rf [35, 36] [] H39) (by decide)) (by decide)) (by decide) (by decide) (by decide : (2 : Int) ≠ 0) rfl rfl (rch_st hq (by show stDec Y nn K X = _; unfold stDec miss; (repeat (first | rw [if_pos (by omega)] | rw [if_neg (by omega)])); try (first | rfl | (exfalso; omega)))))⟩), (fr_o (fr_o hf41 (by decide)) (by decide)), (by omega : (H.1 1826 30) ≤ (H39.1 1826 30) ∧ (H39.1 1826 30) ≤ (H.1 1826 29)), (by omega : 0 ≤ (2 : Int) ∧ (2 : Int) ≤ 5), (by omega : (H.1 1826 35) ≠ 0 → (2 : Int) ≠ 0), (by omega : 0 ≤ (H39.1 1826 32) ∧ (H39.1 1826 32) ≤ 1000), (agp_o (agp_o ha42 (by decide)) (by decide)), (fun (q : (2 : Int) = 0) => absurd q (by omega))⟩
  · have b44x : (H39.1 1826 35) ≠ 0 := b44
    clear hx39g
    refine h_run 0 (pc' := 8) (l' := [(0, .inr (.inr 1826))]) (st' := [.inl 0]) rfl ?_
    refine h_zeq (off := 16) (t := 24) rfl rfl (by decide) (fun _ => ?_) (fun c => absurd c (by decide))
    refine h_run 1 (pc' := 25) (l' := [(0, .inr (.inr 1826))]) (st' := [.inr (.inr 1826)]) rfl ?_
    refine h_cv (i := 293) (j := 158) (b := 1826) (M' := mt_158) (xs := []) (rest := []) rfl rfl rfl rfl rfl rfl (Nat.le_of_ble_eq_true rfl) (Nat.le_of_ble_eq_true rfl) (by omega) (m_good0 (by omega) (by omega : (H39.1 1826 35) ≠ 0)) ?_
    rintro _ _ ⟨rfl, rfl⟩
    refine h_run 0 (pc' := 28) (l' := [(0, .inr (.inr 1826))]) (st' := [.inl 0]) rfl ?_
    refine h_zeq (off := 27) (t := 55) rfl rfl (by decide) (fun _ => ?_) (fun c => absurd c (by decide))
    refine h_run 1 (pc' := 56) (l' := [(0, .inr (.inr 1826))]) (st' := [.inr (.inr 1826)]) rfl ?_
    refine h_cv (i := 293) (j := 158) (b := 1826) (M' := mt_158) (xs := []) (rest := []) rfl rfl rfl rfl rfl rfl (Nat.le_of_ble_eq_true rfl) (Nat.le_of_ble_eq_true rfl) (by omega) (m_good0 (by omega) (by omega : (H39.1 1826 35) ≠ 0)) ?_
    rintro _ _ ⟨rfl, rfl⟩
    refine h_run 0 (pc' := 59) (l' := [(0, .inr (.inr 1826))]) (st' := [.inl 0]) rfl ?_
    refine h_zeq (off := 17) (t := 76) rfl rfl (by decide) (fun _ => ?_) (fun c => absurd c (by decide))
    refine h_run 1 (pc' := 77) (l' := [(0, .inr (.inr 1826))]) (st' := [.inr (.inr 1826)]) rfl ?_
    refine h_cv (i := 293) (j := 158) (b := 1826) (M' := mt_158) (xs := []) (rest := []) rfl rfl rfl rfl rfl rfl (Nat.le_of_ble_eq_true rfl) (Nat.le_of_ble_eq_true rfl) (by omega) (m_good0 (by omega) (by omega : (H39.1 1826 35) ≠ 0)) ?_
    rintro _ _ ⟨rfl, rfl⟩
    refine h_run 0 (pc' := 80) (l' := [(0, .inr (.inr 1826))]) (st' := [.inl 0]) rfl ?_
    refine h_zne (off := 4) (t := 84) rfl rfl (by decide) (fun c => absurd c (by decide)) (fun _ => ?_)
    refine h_ret rfl rfl ?_
    have g508 : -2147483648 ≤ (H39.1 1826 30) ∧ (H39.1 1826 30) ≤ 2147483647 := hrg40.1 1826 13 30 _ .int rfl rfl
    have g509 : -2147483648 ≤ (H39.1 1826 32) ∧ (H39.1 1826 32) ≤ 2147483647 := hrg40.1 1826 13 32 _ .int rfl rfl
    have g510 : -2147483648 ≤ (H39.1 1826 31) ∧ (H39.1 1826 31) ≤ 2147483647 := hrg40.1 1826 13 31 _ .int rfl rfl
    have g511 : -2147483648 ≤ (H39.1 1826 29) ∧ (H39.1 1826 29) ≤ 2147483647 := hrg40.1 1826 13 29 _ .int rfl rfl
    have e512 : (H39.1 1826 29) = (H.1 1826 29) := hx39f.2.2 29 (by decide)
    have g513 : -2147483648 ≤ (H39.1 1826 1) ∧ (H39.1 1826 1) ≤ 2147483647 := hrg40.1 1826 13 1 _ .int rfl rfl
    have e514 : (H39.1 1826 1) = (H.1 1826 1) := hx39f.2.2 1 (by decide)
    have g515 : -2147483648 ≤ (H39.1 1826 3) ∧ (H39.1 1826 3) ≤ 2147483647 := hrg40.1 1826 13 3 _ .int rfl rfl
    have e516 : (H39.1 1826 3) = (H.1 1826 3) := hx39f.2.2 3 (by decide)
    have g517 : -2147483648 ≤ (H39.1 1826 8) ∧ (H39.1 1826 8) ≤ 2147483647 := hrg40.1 1826 13 8 _ .int rfl rfl
    have e518 : (H39.1 1826 8) = (H.1 1826 8) := hx39f.2.2 8 (by decide)
    have g519 : -2147483648 ≤ (H39.1 1826 13) ∧ (H39.1 1826 13) ≤ 2147483647 := hrg40.1 1826 13 13 _ .int rfl rfl
    have e520 : (H39.1 1826 13) = (H.1 1826 13) := hx39f.2.2 13 (by decide)
    have g521 : -2147483648 ≤ (H39.1 1826 19) ∧ (H39.1 1826 19) ≤ 2147483647 := hrg40.1 1826 13 19 _ .int rfl rfl
    have e522 : (H39.1 1826 19) = (H.1 1826 19) := hx39f.2.2 19 (by decide)
    have g523 : -2147483648 ≤ (H39.1 1826 39) ∧ (H39.1 1826 39) ≤ 2147483647 := hrg40.1 1826 13 39 _ .int rfl rfl
    have e524 : (H39.1 1826 39) = (H.1 1826 39) := hx39f.2.2 39 (by decide)
    exact ⟨rfl, (Or.inr ⟨(by omega : (H39.1 1826 35) ≠ 0), GB_b hx39n (by omega)⟩), hf41, (by omega : (H.1 1826 30) ≤ (H39.1 1826 30) ∧ (H39.1 1826 30) ≤ (H.1 1826 29)), (by omega : 0 ≤ (H39.1 1826 35) ∧ (H39.1 1826 35) ≤ 5), (by omega : (H.1 1826 35) ≠ 0 → (H39.1 1826 35) ≠ 0), (by omega : 0 ≤ (H39.1 1826 32) ∧ (H39.1 1826 32) ≤ 1000), ha42, (fun (q : (H39.1 1826 35) = 0) => absurd q (by omega))⟩
