/-! the reference reads laws -/
/-- a side of the law that is being read was kept: the vn variables -/
def LSd (H : hp) (s k : Nat) (vn : Int) : Prop := ((H.1 1843) s = k ∧ k ≤ 40) ∧ tm (ma (H.1 1833) (H.1 1830)) (m_sg (H.1 1826 3) (H.1 1826 8) vn) (H.1 1842) k (48 * s) 1
theorem LS_keep {H K : hp} {s k : Nat} {vn : Int} (f : fr [] [1842, 1843] H K) (hz : (K.1 1843) = up (H.1 1843) s (H.1 1826 43)) (hc : ∀ x : Nat, (x : Int) < (H.1 1826 43) → (K.1 1842) (48 * s + x) = (H.1 1851) x) (hk : (H.1 1826 43) = k) (hk2 : k ≤ 40) (ht : tm (ma (H.1 1833) (H.1 1830)) (m_sg (H.1 1826 3) (H.1 1826 8) vn) (H.1 1851) k 0 1) : LSd K s k vn := by
  refine ⟨⟨by rw [hz, up_eq]; exact hk, hk2⟩, ?_⟩
  rw [f.2.1 1833 (by decide) (by decide), f.2.1 1830 (by decide) (by decide), f.2.2 3 (by decide), f.2.2 8 (by decide)]
  exact tm_at ht (fun x hx => by rw [Nat.zero_add]; exact hc x (by omega))
theorem LS_fr {ob ar : List Nat} {H K : hp} {s k : Nat} {vn : Int} (h : LSd H s k vn) (g : fr ob ar H K) (h1 : ∀ c ∈ [1830, 1833, 1842, 1843], c ∉ ar) (h2 : ∀ j ∈ [3, 8], j ∉ ob) : LSd K s k vn := by
  have e : ∀ c ∈ [1830, 1833, 1842, 1843], c ≠ 1826 → K.1 c = H.1 c := fun c hc hn => g.2.1 c hn (h1 c hc)
  unfold LSd
  rw [e 1830 (by decide) (by decide), e 1833 (by decide) (by decide), e 1842 (by decide) (by decide), e 1843 (by decide) (by decide), g.2.2 3 (h2 3 (by decide)), g.2.2 8 (h2 8 (by decide))]
  exact h
theorem LS_keep2 {H K : hp} {s s' k : Nat} {vn r : Int} (h : LSd H s k vn) (f : fr [] [1842, 1843] H K) (hz : (K.1 1843) = up (H.1 1843) s' r) (hb : ∀ x, x < 48 * s' → (K.1 1842) x = (H.1 1842) x) (hs : s < s') : LSd K s k vn := by
  obtain ⟨⟨h1, h2⟩, h3⟩ := h
  refine ⟨⟨by rw [hz, up_ne _ _ (by omega)]; exact h1, h2⟩, ?_⟩
  rw [f.2.1 1833 (by decide) (by decide), f.2.1 1830 (by decide) (by decide), f.2.2 3 (by decide), f.2.2 8 (by decide)]
  exact tm_at h3 (fun x hx => hb _ (by omega))
theorem LS_mono {H : hp} {s k : Nat} {vn vn' : Int} (h : LSd H s k vn) (hv : vn ≤ vn') : LSd H s k vn' := ⟨h.1, tm_mono h.2 (fun j _ _ ho => ⟨rfl, m_sg_mono (Int.le_refl _) (Int.le_refl _) hv ho, rfl⟩)⟩
theorem PW_law {H K : hp} {l k0 k1 v : Nat} (h : PWc H) (g : agp H K) (e : (K.1 1826 1) = (H.1 1826 1) ∧ (K.1 1826 3) = (H.1 1826 3) ∧ (K.1 1826 8) = (H.1 1826 8) ∧ (K.1 1826 13) = (H.1 1826 13)) (hl : (H.1 1826 19) = l ∧ l ≤ 15 ∧ (K.1 1826 19) = (H.1 1826 19) + 1) (s0 : LSd K (2 * l) k0 v) (s1 : LSd K (2 * l + 1) k1 v) (hv : (K.1 1845) l = v ∧ v ≤ 6) (ht : ∀ x, x < v → 0 ≤ (K.1 1846) (6 * l + x) ∧ (K.1 1846) (6 * l + x) < (K.1 1826 1)) : PWc K := by
  have h1 : PW K (H.1 1826 1) (H.1 1826 3) (H.1 1826 8) (H.1 1826 13) (H.1 1826 19) := PW_agp h g (Int.le_refl _) (Int.le_refl _) (Int.le_refl _) (Int.le_refl _)
  unfold PWc
  obtain ⟨⟨b1, b2, b3, b4, b5⟩, p1, p2, p3, p4⟩ := h1
  obtain ⟨c1, c2⟩ := s0
  obtain ⟨d1, d2⟩ := s1
  rw [e.2.1, e.2.2.1] at c2 d2
  rw [e.1] at ht
  rw [e.1, e.2.1, e.2.2.1, e.2.2.2, hl.2.2]
  refine ⟨⟨b1, b2, b3, b4, by omega⟩, p1, p2, p3, fun x hx => ?_⟩
  by_cases hx2 : (x : Int) < (H.1 1826 19)
  · exact p4 x hx2
  · obtain rfl : x = l := by omega
    refine ⟨v, hv, ht, fun s hs => ?_⟩
    rcases (show s = 0 ∨ s = 1 by omega) with rfl | rfl
    · exact ⟨k0, c1, c2⟩
    · exact ⟨k1, d1, d2⟩

/-! keepSide -/
set_option maxRecDepth 100000 in
theorem m_keepSide_cut {zC : Nat → Option zsh} {d : Nat} (hd : 2 ≤ d) {H : hp} {s : Nat} (hs : 2 * (H.1 1826 19) ≤ (s : Int) ∧ s ≤ 31) (hr : (H.1 1826 35) = 0 → 0 ≤ (H.1 1826 43) ∧ (H.1 1826 43) ≤ 40) : ∀ w : Nat, (∀ (H1 : hp) (i : Nat), (fr [] [1842, 1843] H H1) → (agp H H1) → ((H1.1 1843) = (H.1 1843)) → (∀ x, x < 48 * s → (H1.1 1842) x = (H.1 1842) x) → (i = 0 ∨ ((i : Int) ≤ (H.1 1826 43) ∧ i ≤ 40)) → (∀ x, x < i → (H1.1 1842) (48 * s + x) = (H1.1 1851) x) → ((H.1 1826 43)).toNat - i < w → hG (zs zC) d mt_188 2 [(0, .inr (.inr 1826)), (1, .inl (s : Int)), (2, .inl (i : Int))] [] H1 (fun r H2 => r = none ∧ fr [] [1842, 1843] H H2 ∧ agp H H2 ∧ (H2.1 1843) = up (H.1 1843) s (H.1 1826 43) ∧ (∀ x, x < 48 * s → (H2.1 1842) x = (H.1 1842) x) ∧ ((H.1 1826 35) = 0 → ∀ x : Nat, (x : Int) < (H.1 1826 43) → (H2.1 1842) (48 * s + x) = (H.1 1851) x))) := by
  intro w
  induction w with
  | zero => exact fun _ _ _ _ _ _ _ _ h => absurd h (Nat.not_lt_zero _)
  | succ w ih =>
    intro H1 i hf hag hz hb hi hcp hw
    refine h_rng (fun hrg1 => ?_)
    refine h_run 3 (pc' := 7) (l' := [(0, .inr (.inr 1826)), (1, .inl (s : Int)), (2, .inl (i : Int))]) (st' := [.inl (H1.1 1826 43), .inl (i : Int)]) rfl ?_
    have g2 : -2147483648 ≤ (H1.1 1826 43) ∧ (H1.1 1826 43) ≤ 2147483647 := hrg1.1 1826 13 43 _ .int rfl rfl
    have e3 : (H1.1 1826 43) = (H.1 1826 43) := hf.2.2 43 (by decide)
    refine h_ige (off := 33) (t := 40) rfl rfl (by omega) (by omega) (fun c4 => ?_) (fun c4 => ?_)
    · refine h_run 5 (pc' := 49) (l' := [(0, .inr (.inr 1826)), (1, .inl (s : Int)), (2, .inl (i : Int))]) (st' := [.inl (H1.1 1826 43), .inl (s : Int), .inr (.inr 1843)]) rfl ?_
      refine h_ist (c := 1843) (j := s) (i := (s : Int)) (x := (H1.1 1826 43)) rfl rfl (by decide) (by decide) rfl (by omega) (by omega) ?_
      refine h_ret rfl rfl ?_
      have g5 : -2147483648 ≤ (H1.1 1826 35) ∧ (H1.1 1826 35) ≤ 2147483647 := hrg1.1 1826 13 35 _ .int rfl rfl
      have e6 : (H1.1 1826 35) = (H.1 1826 35) := hf.2.2 35 (by decide)
      exact ⟨rfl, (fr_a hf (by decide)), (agp_1843 hag (by omega : 2 * (H.1 1826 19) ≤ ((s : Nat) : Int))), (show up (H1.1 1843) s (H1.1 1826 43) = _ by rw [hz, hf.2.2 43 (by decide)]), hb, fun q9 x hx => (hcp x (by omega)).trans (congrFun (hf.2.1 1851 (by decide) (by decide)) x)⟩
    · refine h_run 1 (pc' := 11) (l' := [(0, .inr (.inr 1826)), (1, .inl (s : Int)), (2, .inl (i : Int))]) (st' := [.inr (.inr 1826)]) rfl ?_
      have g7 : -2147483648 ≤ (H1.1 1826 35) ∧ (H1.1 1826 35) ≤ 2147483647 := hrg1.1 1826 13 35 _ .int rfl rfl
      have e8 : (H1.1 1826 35) = (H.1 1826 35) := hf.2.2 35 (by decide)
      refine h_cv (i := 293) (j := 158) (b := 1826) (M' := mt_158) (xs := []) (rest := []) rfl rfl rfl rfl rfl rfl (Nat.le_of_ble_eq_true rfl) (Nat.le_of_ble_eq_true rfl) (by omega) (m_good (by omega)) ?_
      rintro _ _ ⟨⟨rfl, b9⟩ | ⟨rfl, b9⟩, rfl⟩
      · have b9x : (H1.1 1826 35) = 0 := b9
        refine h_run 0 (pc' := 14) (l' := [(0, .inr (.inr 1826)), (1, .inl (s : Int)), (2, .inl (i : Int))]) (st' := [.inl 1]) rfl ?_
        refine h_zeq (off := 26) (t := 40) rfl rfl (by decide) (fun c => absurd c (by decide)) (fun _ => ?_)
        refine h_run 10 (pc' := 32) (l' := [(0, .inr (.inr 1826)), (1, .inl (s : Int)), (2, .inl (i : Int))]) (st' := [.inl (i : Int), .inr (.inr 1851), .inl ((48 * (s : Int)) + (i : Int)), .inr (.inr 1842)]) rfl ?_
        refine h_ild (c := 1851) (j := i) (i := (i : Int)) rfl rfl (by decide) rfl (by omega) ?_
        have g10 : -2147483648 ≤ (H1.1 1851 i) ∧ (H1.1 1851 i) ≤ 2147483647 := hrg1.2 1851 i 48 .int rfl (by omega)
        have e11 : (H1.1 1851 i) = (H.1 1851 i) := congrFun (hf.2.1 1851 (by decide) (by decide)) i
        refine h_run 0 (pc' := 33) (l' := [(0, .inr (.inr 1826)), (1, .inl (s : Int)), (2, .inl (i : Int))]) (st' := [.inl (H1.1 1851 i), .inl ((48 * (s : Int)) + (i : Int)), .inr (.inr 1842)]) rfl ?_
        refine h_ist (c := 1842) (j := ((48 * s) + i)) (i := ((48 * (s : Int)) + (i : Int))) (x := (H1.1 1851 i)) rfl rfl (by decide) (by decide) (by omega) (by omega) (by omega) ?_
        refine h_run 2 (pc' := 2) (l' := [(0, .inr (.inr 1826)), (1, .inl (s : Int)), (2, .inl ((i : Int) + 1))]) (st' := []) rfl ?_
        rw [show ((i : Int) + 1) = (((i + 1) : Nat) : Int) by omega]
        exact ih _ (i + 1) (fr_a hf (by decide)) (agp_1842 hag (by omega : 96 * (H.1 1826 19) ≤ ((((48 * s) + i) : Nat) : Int))) hz (fun x hx => (show up (H1.1 1842) (48 * s + i) ((H1.1 1851) i) x = (H.1 1842) x from (up_ne _ _ (by omega)).trans (hb x hx))) (by omega) (cp_up hcp : ∀ x, x < i + 1 → up (H1.1 1842) (48 * s + i) ((H1.1 1851) i) (48 * s + x) = (H1.1 1851) x) (by omega : ((H.1 1826 43)).toNat - (i + 1) < w)
      · have b9x : (H1.1 1826 35) ≠ 0 := b9
        refine h_run 0 (pc' := 14) (l' := [(0, .inr (.inr 1826)), (1, .inl (s : Int)), (2, .inl (i : Int))]) (st' := [.inl 0]) rfl ?_
        refine h_zeq (off := 26) (t := 40) rfl rfl (by decide) (fun _ => ?_) (fun c => absurd c (by decide))
        refine h_run 5 (pc' := 49) (l' := [(0, .inr (.inr 1826)), (1, .inl (s : Int)), (2, .inl (i : Int))]) (st' := [.inl (H1.1 1826 43), .inl (s : Int), .inr (.inr 1843)]) rfl ?_
        refine h_ist (c := 1843) (j := s) (i := (s : Int)) (x := (H1.1 1826 43)) rfl rfl (by decide) (by decide) rfl (by omega) (by omega) ?_
        refine h_ret rfl rfl ?_
        exact ⟨rfl, (fr_a hf (by decide)), (agp_1843 hag (by omega : 2 * (H.1 1826 19) ≤ ((s : Nat) : Int))), (show up (H1.1 1843) s (H1.1 1826 43) = _ by rw [hz, hf.2.2 43 (by decide)]), hb, fun q9 x hx => (hcp x (by omega)).trans (congrFun (hf.2.1 1851 (by decide) (by decide)) x)⟩
set_option maxRecDepth 100000 in
theorem m_keepSide {zC : Nat → Option zsh} {d : Nat} (hd : 2 ≤ d) {H : hp} {s : Nat} (hs : 2 * (H.1 1826 19) ≤ (s : Int) ∧ s ≤ 31) (hr : (H.1 1826 35) = 0 → 0 ≤ (H.1 1826 43) ∧ (H.1 1826 43) ≤ 40) : hG (zs zC) d mt_188 0 (zargs 0 [.inr (.inr 1826), .inl (s : Int)]) [] H (fun r H2 => r = none ∧ fr [] [1842, 1843] H H2 ∧ agp H H2 ∧ (H2.1 1843) = up (H.1 1843) s (H.1 1826 43) ∧ (∀ x, x < 48 * s → (H2.1 1842) x = (H.1 1842) x) ∧ ((H.1 1826 35) = 0 → ∀ x : Nat, (x : Int) < (H.1 1826 43) → (H2.1 1842) (48 * s + x) = (H.1 1851) x)) := by
  refine h_rng (fun hrg0 => ?_)
  refine h_run 0 (pc' := 0) (l' := [(0, .inr (.inr 1826)), (1, .inl (s : Int))]) (st' := []) rfl ?_
  refine h_run 2 (pc' := 2) (l' := [(0, .inr (.inr 1826)), (1, .inl (s : Int)), (2, .inl 0)]) (st' := []) rfl ?_
  have g12 : -2147483648 ≤ (H.1 1826 43) ∧ (H.1 1826 43) ≤ 2147483647 := hrg0.1 1826 13 43 _ .int rfl rfl
  have g13 : -2147483648 ≤ (H.1 1826 35) ∧ (H.1 1826 35) ≤ 2147483647 := hrg0.1 1826 13 35 _ .int rfl rfl
  exact (m_keepSide_cut hd hs hr _) _ 0 (fr_rf _ _ _) (agp_rf _) rfl (fun _ _ => rfl) (by omega) (fun x hx => absurd hx (Nat.not_lt_zero _)) (Nat.lt_succ_self _)

/-! tellLaw -/
set_option maxRecDepth 100000 in
theorem m_tellLaw_cut {zC : Nat → Option zsh} {d : Nat} (hd : 8 ≤ d) {H : hp}  (h0 : 0 ≤ (H.1 1826 30) ∧ (H.1 1826 30) ≤ (H.1 1826 29) ∧ (H.1 1826 29) ≤ 1000) (hw : 0 ≤ (H.1 1826 35) ∧ (H.1 1826 35) ≤ 5) (hst : 0 ≤ (H.1 1826 32) ∧ (H.1 1826 32) ≤ 1000) (hP : PWc H) (hw0 : (H.1 1826 35) = 0) : ∀ w : Nat, (∀ (H1 : hp) (l : Nat) (i : Nat) (k0 : Nat) (k1 : Nat) (v : Nat), (fr [30, 31, 32, 33, 35, 36, 19, 39, 40, 41, 43, 44, 47] [1841, 1842, 1843, 1844, 1845, 1846, 1847, 1849, 1850, 1851, 1852, 1853, 1854] H H1) → ((H.1 1826 30) ≤ (H1.1 1826 30) ∧ (H1.1 1826 30) ≤ (H.1 1826 29)) → (0 ≤ (H1.1 1826 35) ∧ (H1.1 1826 35) ≤ 5) → (0 ≤ (H1.1 1826 32) ∧ (H1.1 1826 32) ≤ 1000) → (agp H H1) → ((H.1 1826 35) = 0) → ((H1.1 1826 35) = 0) → ((l : Int) = (H.1 1826 19) ∧ (H.1 1826 19) ≤ 15) → ((H1.1 1826 1) = (H.1 1826 1) ∧ (H1.1 1826 3) = (H.1 1826 3) ∧ (H1.1 1826 8) = (H.1 1826 8) ∧ (H1.1 1826 13) = (H.1 1826 13) ∧ (H1.1 1826 19) = (H.1 1826 19)) → (LSd H1 (2 * l) k0 v) → (LSd H1 (2 * l + 1) k1 v) → ((H1.1 1845) l = v) → ((H1.1 1826 39) = v ∧ v ≤ 6) → (∀ x : Nat, (x : Int) < (H1.1 1826 39) → 0 ≤ (H1.1 1850) x ∧ (H1.1 1850) x < (H1.1 1826 1)) → (i ≤ v) → (∀ x, x < i → (H1.1 1846) (6 * l + x) = (H1.1 1850) x) → (v - i) < w → hG (zs zC) d mt_187 225 [(0, .inr (.inr 1826)), (1, .inl (l : Int)), (4, .inl (i : Int))] [] H1 (fun r H2 => r = none ∧ fr [30, 31, 32, 33, 35, 36, 19, 39, 40, 41, 43, 44, 47] [1841, 1842, 1843, 1844, 1845, 1846, 1847, 1849, 1850, 1851, 1852, 1853, 1854] H H2 ∧ ((H.1 1826 30) ≤ (H2.1 1826 30) ∧ (H2.1 1826 30) ≤ (H.1 1826 29)) ∧ (0 ≤ (H2.1 1826 35) ∧ (H2.1 1826 35) ≤ 5) ∧ ((H.1 1826 35) ≠ 0 → (H2.1 1826 35) ≠ 0) ∧ (0 ≤ (H2.1 1826 32) ∧ (H2.1 1826 32) ≤ 1000) ∧ agp H H2 ∧ ((H2.1 1826 35) = 0 → PWc H2))) := by
  intro w
  induction w with
  | zero => exact fun _ _ _ _ _ _ _ _ _ _ _ _ _ _ _ _ _ _ _ _ _ _ h => absurd h (Nat.not_lt_zero _)
  | succ w ih =>
    intro H1 l i k0 k1 v hf ha hk hst1 hag hw0 hgd hr hcn hl0 hl1 hlv hv hvt9 hi hcp hw
    refine h_rng (fun hrg1 => ?_)
    obtain ⟨⟨pb1, pb2, pb3, pb4, pb5⟩, pw1, pw2, pw3, pw4⟩ := (id hP : PW H (H.1 1826 1) (H.1 1826 3) (H.1 1826 8) (H.1 1826 13) (H.1 1826 19))
    refine h_run 3 (pc' := 231) (l' := [(0, .inr (.inr 1826)), (1, .inl (l : Int)), (4, .inl (i : Int))]) (st' := [.inl (H1.1 1826 39), .inl (i : Int)]) rfl ?_
    have g2 : -2147483648 ≤ (H1.1 1826 39) ∧ (H1.1 1826 39) ≤ 2147483647 := hrg1.1 1826 13 39 _ .int rfl rfl
    refine h_ige (off := 28) (t := 259) rfl rfl (by omega) (by omega) (fun c3 => ?_) (fun c3 => ?_)
    · refine h_run 4 (pc' := 265) (l' := [(0, .inr (.inr 1826)), (1, .inl (l : Int)), (4, .inl (i : Int))]) (st' := [.inl 0, .inl (l : Int), .inr (.inr 1847)]) rfl ?_
      refine h_ist (c := 1847) (j := l) (i := (l : Int)) (x := 0) rfl rfl (by decide) (by decide) rfl (by omega) (by decide) ?_
      refine h_run 3 (pc' := 271) (l' := [(0, .inr (.inr 1826)), (1, .inl (l : Int)), (4, .inl (i : Int))]) (st' := [.inl (H1.1 1826 19), .inr (.inr 1826)]) rfl ?_
      have g4 : -2147483648 ≤ (H1.1 1826 19) ∧ (H1.1 1826 19) ≤ 2147483647 := hrg1.1 1826 13 19 _ .int rfl rfl
      refine h_run 2 (pc' := 273) (l' := [(0, .inr (.inr 1826)), (1, .inl (l : Int)), (4, .inl (i : Int))]) (st' := [.inl ((H1.1 1826 19) + 1), .inr (.inr 1826)]) rfl ?_
      refine h_puti (i := 387) (ci := 13) (k := 19) (a := 1826) (x := ((H1.1 1826 19) + 1)) rfl rfl rfl rfl rfl rfl (by decide) (by omega) ?_
      refine h_ret rfl rfl ?_
      have g5 : -2147483648 ≤ (H1.1 1826 30) ∧ (H1.1 1826 30) ≤ 2147483647 := hrg1.1 1826 13 30 _ .int rfl rfl
      have g6 : -2147483648 ≤ (H1.1 1826 35) ∧ (H1.1 1826 35) ≤ 2147483647 := hrg1.1 1826 13 35 _ .int rfl rfl
      have g7 : -2147483648 ≤ (H1.1 1826 32) ∧ (H1.1 1826 32) ≤ 2147483647 := hrg1.1 1826 13 32 _ .int rfl rfl
      have g8 : -2147483648 ≤ (H1.1 1826 31) ∧ (H1.1 1826 31) ≤ 2147483647 := hrg1.1 1826 13 31 _ .int rfl rfl
      have g9 : -2147483648 ≤ (H1.1 1826 29) ∧ (H1.1 1826 29) ≤ 2147483647 := hrg1.1 1826 13 29 _ .int rfl rfl
      have e10 : (H1.1 1826 29) = (H.1 1826 29) := hf.2.2 29 (by decide)
      have g11 : -2147483648 ≤ (H1.1 1826 1) ∧ (H1.1 1826 1) ≤ 2147483647 := hrg1.1 1826 13 1 _ .int rfl rfl
      have e12 : (H1.1 1826 1) = (H.1 1826 1) := hf.2.2 1 (by decide)
      have g13 : -2147483648 ≤ (H1.1 1826 3) ∧ (H1.1 1826 3) ≤ 2147483647 := hrg1.1 1826 13 3 _ .int rfl rfl
      have e14 : (H1.1 1826 3) = (H.1 1826 3) := hf.2.2 3 (by decide)
      have g15 : -2147483648 ≤ (H1.1 1826 8) ∧ (H1.1 1826 8) ≤ 2147483647 := hrg1.1 1826 13 8 _ .int rfl rfl
      have e16 : (H1.1 1826 8) = (H.1 1826 8) := hf.2.2 8 (by decide)
      have g17 : -2147483648 ≤ (H1.1 1826 13) ∧ (H1.1 1826 13) ≤ 2147483647 := hrg1.1 1826 13 13 _ .int rfl rfl
      have e18 : (H1.1 1826 13) = (H.1 1826 13) := hf.2.2 13 (by decide)
      exact ⟨rfl, (fr_o (fr_a hf (by decide)) (by decide)), (by omega : (H.1 1826 30) ≤ (H1.1 1826 30) ∧ (H1.1 1826 30) ≤ (H.1 1826 29)), (by omega : 0 ≤ (H1.1 1826 35) ∧ (H1.1 1826 35) ≤ 5), (by omega : (H.1 1826 35) ≠ 0 → (H1.1 1826 35) ≠ 0), (by omega : 0 ≤ (H1.1 1826 32) ∧ (H1.1 1826 32) ≤ 1000), (agp_n19 (agp_a hag (by decide)) (by omega : (H.1 1826 19) ≤ ((H1.1 1826 19) + 1))), (fun _ => PW_law (l := l) (k0 := k0) (k1 := k1) (v := v) hP (agp_n19 (agp_a hag (by decide)) (by omega : (H.1 1826 19) ≤ ((H1.1 1826 19) + 1))) ⟨hcn.1, hcn.2.1, hcn.2.2.1, hcn.2.2.2.1⟩ ⟨by omega, by omega, (by omega : ((H1.1 1826 19) + 1) = (H.1 1826 19) + 1)⟩ hl0 hl1 ⟨hlv, by omega⟩ (fun x hx => by show 0 ≤ (H1.1 1846) (6 * l + x) ∧ (H1.1 1846) (6 * l + x) < (H1.1 1826 1); rw [hcp x (by omega)]; exact hvt9 x (by omega)))⟩
    · refine h_run 10 (pc' := 251) (l' := [(0, .inr (.inr 1826)), (1, .inl (l : Int)), (4, .inl (i : Int))]) (st' := [.inl (i : Int), .inr (.inr 1850), .inl ((6 * (l : Int)) + (i : Int)), .inr (.inr 1846)]) rfl ?_
      refine h_ild (c := 1850) (j := i) (i := (i : Int)) rfl rfl (by decide) rfl (by omega) ?_
      have g19 : -2147483648 ≤ (H1.1 1850 i) ∧ (H1.1 1850 i) ≤ 2147483647 := hrg1.2 1850 i 48 .int rfl (by omega)
      refine h_run 0 (pc' := 252) (l' := [(0, .inr (.inr 1826)), (1, .inl (l : Int)), (4, .inl (i : Int))]) (st' := [.inl (H1.1 1850 i), .inl ((6 * (l : Int)) + (i : Int)), .inr (.inr 1846)]) rfl ?_
      refine h_ist (c := 1846) (j := ((6 * l) + i)) (i := ((6 * (l : Int)) + (i : Int))) (x := (H1.1 1850 i)) rfl rfl (by decide) (by decide) (by omega) (by omega) (by omega) ?_
      refine h_run 2 (pc' := 225) (l' := [(0, .inr (.inr 1826)), (1, .inl (l : Int)), (4, .inl ((i : Int) + 1))]) (st' := []) rfl ?_
      have g20 : -2147483648 ≤ (H1.1 1826 30) ∧ (H1.1 1826 30) ≤ 2147483647 := hrg1.1 1826 13 30 _ .int rfl rfl
      have g21 : -2147483648 ≤ (H1.1 1826 35) ∧ (H1.1 1826 35) ≤ 2147483647 := hrg1.1 1826 13 35 _ .int rfl rfl
      have g22 : -2147483648 ≤ (H1.1 1826 32) ∧ (H1.1 1826 32) ≤ 2147483647 := hrg1.1 1826 13 32 _ .int rfl rfl
      have g23 : -2147483648 ≤ (H1.1 1826 31) ∧ (H1.1 1826 31) ≤ 2147483647 := hrg1.1 1826 13 31 _ .int rfl rfl
      have g24 : -2147483648 ≤ (H1.1 1826 29) ∧ (H1.1 1826 29) ≤ 2147483647 := hrg1.1 1826 13 29 _ .int rfl rfl
      have e25 : (H1.1 1826 29) = (H.1 1826 29) := hf.2.2 29 (by decide)
      have g26 : -2147483648 ≤ (H1.1 1826 1) ∧ (H1.1 1826 1) ≤ 2147483647 := hrg1.1 1826 13 1 _ .int rfl rfl
      have e27 : (H1.1 1826 1) = (H.1 1826 1) := hf.2.2 1 (by decide)
      have g28 : -2147483648 ≤ (H1.1 1826 3) ∧ (H1.1 1826 3) ≤ 2147483647 := hrg1.1 1826 13 3 _ .int rfl rfl
      have e29 : (H1.1 1826 3) = (H.1 1826 3) := hf.2.2 3 (by decide)
      have g30 : -2147483648 ≤ (H1.1 1826 8) ∧ (H1.1 1826 8) ≤ 2147483647 := hrg1.1 1826 13 8 _ .int rfl rfl
      have e31 : (H1.1 1826 8) = (H.1 1826 8) := hf.2.2 8 (by decide)
      have g32 : -2147483648 ≤ (H1.1 1826 13) ∧ (H1.1 1826 13) ≤ 2147483647 := hrg1.1 1826 13 13 _ .int rfl rfl
      have e33 : (H1.1 1826 13) = (H.1 1826 13) := hf.2.2 13 (by decide)
      have g34 : -2147483648 ≤ (H1.1 1826 19) ∧ (H1.1 1826 19) ≤ 2147483647 := hrg1.1 1826 13 19 _ .int rfl rfl
      rw [show ((i : Int) + 1) = (((i + 1) : Nat) : Int) by omega]
      exact ih _ (l) (i + 1) (k0) (k1) (v) (fr_a hf (by decide)) (by omega : (H.1 1826 30) ≤ (H1.1 1826 30) ∧ (H1.1 1826 30) ≤ (H.1 1826 29)) (by omega : 0 ≤ (H1.1 1826 35) ∧ (H1.1 1826 35) ≤ 5) (by omega : 0 ≤ (H1.1 1826 32) ∧ (H1.1 1826 32) ≤ 1000) (agp_1846 hag (by omega : 6 * (H.1 1826 19) ≤ ((((6 * l) + i) : Nat) : Int))) (by omega) (by omega : (H1.1 1826 35) = 0) (by omega : ((l) : Int) = (H.1 1826 19) ∧ (H.1 1826 19) ≤ 15) (by omega : (H1.1 1826 1) = (H.1 1826 1) ∧ (H1.1 1826 3) = (H.1 1826 3) ∧ (H1.1 1826 8) = (H.1 1826 8) ∧ (H1.1 1826 13) = (H.1 1826 13) ∧ (H1.1 1826 19) = (H.1 1826 19)) hl0 hl1 hlv (by omega : (H1.1 1826 39) = (v) ∧ (v) ≤ 6) hvt9 (by omega) (cp_up hcp : ∀ x, x < i + 1 → up (H1.1 1846) (6 * l + i) ((H1.1 1850) i) (6 * l + x) = (H1.1 1850) x) (by omega : ((v) - (i + 1)) < w)
set_option maxRecDepth 100000 in
theorem m_tellLaw {zC : Nat → Option zsh} {d : Nat} (hd : 8 ≤ d) {H : hp}  (h0 : 0 ≤ (H.1 1826 30) ∧ (H.1 1826 30) ≤ (H.1 1826 29) ∧ (H.1 1826 29) ≤ 1000) (hw : 0 ≤ (H.1 1826 35) ∧ (H.1 1826 35) ≤ 5) (hst : 0 ≤ (H.1 1826 32) ∧ (H.1 1826 32) ≤ 1000) (hP : PWc H) (hw0 : (H.1 1826 35) = 0) : hG (zs zC) d mt_187 0 (zargs 0 [.inr (.inr 1826)]) [] H (fun r H2 => r = none ∧ fr [30, 31, 32, 33, 35, 36, 19, 39, 40, 41, 43, 44, 47] [1841, 1842, 1843, 1844, 1845, 1846, 1847, 1849, 1850, 1851, 1852, 1853, 1854] H H2 ∧ ((H.1 1826 30) ≤ (H2.1 1826 30) ∧ (H2.1 1826 30) ≤ (H.1 1826 29)) ∧ (0 ≤ (H2.1 1826 35) ∧ (H2.1 1826 35) ≤ 5) ∧ ((H.1 1826 35) ≠ 0 → (H2.1 1826 35) ≠ 0) ∧ (0 ≤ (H2.1 1826 32) ∧ (H2.1 1826 32) ≤ 1000) ∧ agp H H2 ∧ ((H2.1 1826 35) = 0 → PWc H2)) := by
  refine h_rng (fun hrg0 => ?_)
  refine h_run 0 (pc' := 0) (l' := [(0, .inr (.inr 1826))]) (st' := []) rfl ?_
  obtain ⟨⟨pb1, pb2, pb3, pb4, pb5⟩, pw1, pw2, pw3, pw4⟩ := (id hP : PW H (H.1 1826 1) (H.1 1826 3) (H.1 1826 8) (H.1 1826 13) (H.1 1826 19))
  refine h_run 1 (pc' := 1) (l' := [(0, .inr (.inr 1826))]) (st' := [.inr (.inr 1826)]) rfl ?_
  have g35 : -2147483648 ≤ (H.1 1826 30) ∧ (H.1 1826 30) ≤ 2147483647 := hrg0.1 1826 13 30 _ .int rfl rfl
  have g36 : -2147483648 ≤ (H.1 1826 29) ∧ (H.1 1826 29) ≤ 2147483647 := hrg0.1 1826 13 29 _ .int rfl rfl
  have g37 : -2147483648 ≤ (H.1 1826 35) ∧ (H.1 1826 35) ≤ 2147483647 := hrg0.1 1826 13 35 _ .int rfl rfl
  have g38 : -2147483648 ≤ (H.1 1826 32) ∧ (H.1 1826 32) ≤ 2147483647 := hrg0.1 1826 13 32 _ .int rfl rfl
  refine h_cv (i := 297) (j := 165) (b := 1826) (M' := mt_165) (xs := []) (rest := []) rfl rfl rfl rfl rfl rfl (Nat.le_of_ble_eq_true rfl) (Nat.le_of_ble_eq_true rfl) (by omega) (m_next (by omega) (by omega : 0 ≤ (H.1 1826 30) ∧ (H.1 1826 30) ≤ (H.1 1826 29) ∧ (H.1 1826 29) ≤ 1000) (by omega : 0 ≤ (H.1 1826 35) ∧ (H.1 1826 35) ≤ 5) (by omega : 0 ≤ (H.1 1826 32) ∧ (H.1 1826 32) ≤ 1000)) ?_
  rintro _ H39 ⟨rfl, hx39f, hx39a, hx39b, hx39c, -, hx39e, hx39g⟩
  refine h_rng (fun hrg40 => ?_)
  have hf41 : fr [30, 31, 32, 33, 35, 36, 19, 39, 40, 41, 43, 44, 47] [1841, 1842, 1843, 1844, 1845, 1846, 1847, 1849, 1850, 1851, 1852, 1853, 1854] H H39 := fr_t (fr_rf _ _ _) hx39f (by decide) (by decide)
  have ha42 : agp H H39 := agp_tr (agp_rf _) (agp_fr hx39f (by decide) (by decide))
  replace hx39a : (H.1 1826 30) ≤ (H39.1 1826 30) := hx39a
  replace hx39b : (H39.1 1826 30) ≤ (H.1 1826 29) := hx39b
  replace hx39g : (H39.1 1826 35) = 0 → ((H39.1 1826 31) = 0 ∨ (H.1 1826 30) < (H39.1 1826 30)) := hx39g
  refine h_run 0 (pc' := 4) (l' := [(0, .inr (.inr 1826))]) (st' := []) rfl ?_
  refine h_run 1 (pc' := 5) (l' := [(0, .inr (.inr 1826))]) (st' := [.inr (.inr 1826)]) rfl ?_
  have g43 : -2147483648 ≤ (H39.1 1826 35) ∧ (H39.1 1826 35) ≤ 2147483647 := hrg40.1 1826 13 35 _ .int rfl rfl
  refine h_cv (i := 293) (j := 158) (b := 1826) (M' := mt_158) (xs := []) (rest := []) rfl rfl rfl rfl rfl rfl (Nat.le_of_ble_eq_true rfl) (Nat.le_of_ble_eq_true rfl) (by omega) (m_good (by omega)) ?_
  rintro _ _ ⟨⟨rfl, b44⟩ | ⟨rfl, b44⟩, rfl⟩
  · have b44x : (H39.1 1826 35) = 0 := b44
    replace hx39g := hx39g b44x
    refine h_run 0 (pc' := 8) (l' := [(0, .inr (.inr 1826))]) (st' := [.inl 1]) rfl ?_
    refine h_zeq (off := 16) (t := 24) rfl rfl (by decide) (fun c => absurd c (by decide)) (fun _ => ?_)
    refine h_run 2 (pc' := 15) (l' := [(0, .inr (.inr 1826))]) (st' := [.inl (H39.1 1826 31)]) rfl ?_
    have g45 : -2147483648 ≤ (H39.1 1826 31) ∧ (H39.1 1826 31) ≤ 2147483647 := hrg40.1 1826 13 31 _ .int rfl rfl
    refine h_run 1 (pc' := 16) (l' := [(0, .inr (.inr 1826))]) (st' := [.inl 1, .inl (H39.1 1826 31)]) rfl ?_
    refine h_ieq (off := 8) (t := 24) rfl rfl (by omega) (by decide) (fun c46 => ?_) (fun c46 => ?_)
    · refine h_run 1 (pc' := 25) (l' := [(0, .inr (.inr 1826))]) (st' := [.inr (.inr 1826)]) rfl ?_
      refine h_cv (i := 293) (j := 158) (b := 1826) (M' := mt_158) (xs := []) (rest := []) rfl rfl rfl rfl rfl rfl (Nat.le_of_ble_eq_true rfl) (Nat.le_of_ble_eq_true rfl) (by omega) (m_good1 (by omega) (by omega : (H39.1 1826 35) = 0)) ?_
      rintro _ _ ⟨rfl, rfl⟩
      refine h_run 0 (pc' := 28) (l' := [(0, .inr (.inr 1826))]) (st' := [.inl 1]) rfl ?_
      refine h_zeq (off := 27) (t := 55) rfl rfl (by decide) (fun c => absurd c (by decide)) (fun _ => ?_)
      refine h_run 4 (pc' := 39) (l' := [(0, .inr (.inr 1826))]) (st' := [.inl (H39.1 1826 19), .inr (.inr 1841)]) rfl ?_
      have g47 : -2147483648 ≤ (H39.1 1826 19) ∧ (H39.1 1826 19) ≤ 2147483647 := hrg40.1 1826 13 19 _ .int rfl rfl
      have e48 : (H39.1 1826 19) = (H.1 1826 19) := hx39f.2.2 19 (by decide)
      refine h_run 2 (pc' := 43) (l' := [(0, .inr (.inr 1826))]) (st' := [.inr (.inl (H39.1 1826 33)), .inl (H39.1 1826 19), .inr (.inr 1841)]) rfl ?_
      have g49 : -9223372036854775808 ≤ (H39.1 1826 33) ∧ (H39.1 1826 33) ≤ 9223372036854775807 := hrg40.1 1826 13 33 _ .long rfl rfl
      refine h_cs (i := 309) (j := 167) (M' := mt_167) (xs := [.inr (.inl (H39.1 1826 33)), .inl (H39.1 1826 19), .inr (.inr 1841)]) (rest := []) rfl rfl rfl rfl rfl (Nat.le_of_ble_eq_true rfl) (Nat.le_of_ble_eq_true rfl) (by omega) (m_find (by omega) (m := 16) rfl (by omega : 0 ≤ (H39.1 1826 19) ∧ (H39.1 1826 19) ≤ ((16 : Nat) : Int) ∧ 16 ≤ 100) (by omega)) ?_
      rintro _ _ ⟨⟨k50, rfl, f51, f51x⟩ | ⟨rfl, f51⟩, rfl⟩
      · refine h_run 0 (pc' := 46) (l' := [(0, .inr (.inr 1826))]) (st' := [.inl (k50 : Int)]) rfl ?_
        refine h_run 1 (pc' := 47) (l' := [(0, .inr (.inr 1826))]) (st' := [.inl (-1), .inl (k50 : Int)]) rfl ?_
        refine h_ieq (off := 8) (t := 55) rfl rfl (by omega) (by decide) (fun c52 => ?_) (fun c52 => ?_)
        · refine h_run 1 (pc' := 56) (l' := [(0, .inr (.inr 1826))]) (st' := [.inr (.inr 1826)]) rfl ?_
          refine h_cv (i := 293) (j := 158) (b := 1826) (M' := mt_158) (xs := []) (rest := []) rfl rfl rfl rfl rfl rfl (Nat.le_of_ble_eq_true rfl) (Nat.le_of_ble_eq_true rfl) (by omega) (m_good1 (by omega) (by omega : (H39.1 1826 35) = 0)) ?_
          rintro _ _ ⟨rfl, rfl⟩
          refine h_run 0 (pc' := 59) (l' := [(0, .inr (.inr 1826))]) (st' := [.inl 1]) rfl ?_
          refine h_zeq (off := 17) (t := 76) rfl rfl (by decide) (fun c => absurd c (by decide)) (fun _ => ?_)
          refine h_run 2 (pc' := 66) (l' := [(0, .inr (.inr 1826))]) (st' := [.inl (H39.1 1826 19)]) rfl ?_
          refine h_run 1 (pc' := 68) (l' := [(0, .inr (.inr 1826))]) (st' := [.inl 16, .inl (H39.1 1826 19)]) rfl ?_
          refine h_ine (off := 8) (t := 76) rfl rfl (by omega) (by decide) (fun c53 => ?_) (fun c53 => ?_)
          · refine h_run 1 (pc' := 77) (l' := [(0, .inr (.inr 1826))]) (st' := [.inr (.inr 1826)]) rfl ?_
            refine h_cv (i := 293) (j := 158) (b := 1826) (M' := mt_158) (xs := []) (rest := []) rfl rfl rfl rfl rfl rfl (Nat.le_of_ble_eq_true rfl) (Nat.le_of_ble_eq_true rfl) (by omega) (m_good1 (by omega) (by omega : (H39.1 1826 35) = 0)) ?_
            rintro _ _ ⟨rfl, rfl⟩
            refine h_run 0 (pc' := 80) (l' := [(0, .inr (.inr 1826))]) (st' := [.inl 1]) rfl ?_
            refine h_zne (off := 4) (t := 84) rfl rfl (by decide) (fun _ => ?_) (fun c => absurd c (by decide))
            refine h_run 2 (pc' := 88) (l' := [(0, .inr (.inr 1826))]) (st' := [.inl (H39.1 1826 19)]) rfl ?_
            refine h_run 1 (pc' := 89) (l' := [(0, .inr (.inr 1826)), (1, .inl (H39.1 1826 19))]) (st' := []) rfl ?_
            obtain ⟨l, hl⟩ : ∃ k9 : Nat, (H39.1 1826 19) = (k9 : Int) := ⟨((H39.1 1826 19)).toNat, by omega⟩
            rw [show (H39.1 1826 19) = (l : Int) from hl]
            refine h_run 5 (pc' := 98) (l' := [(0, .inr (.inr 1826)), (1, .inl (l : Int))]) (st' := [.inr (.inl (H39.1 1826 33)), .inl (l : Int), .inr (.inr 1841)]) rfl ?_
            refine h_lst (c := 1841) (j := l) (i := (l : Int)) (x := (H39.1 1826 33)) rfl rfl (by decide) (by decide) rfl (by omega) (by first | omega | exact z_long _) ?_
            refine h_run 1 (pc' := 100) (l' := [(0, .inr (.inr 1826)), (1, .inl (l : Int))]) (st' := [.inr (.inr 1826)]) rfl ?_
            have g54 : -2147483648 ≤ (H39.1 1826 30) ∧ (H39.1 1826 30) ≤ 2147483647 := hrg40.1 1826 13 30 _ .int rfl rfl
            have g55 : -2147483648 ≤ (H39.1 1826 29) ∧ (H39.1 1826 29) ≤ 2147483647 := hrg40.1 1826 13 29 _ .int rfl rfl
            have e56 : (H39.1 1826 29) = (H.1 1826 29) := hx39f.2.2 29 (by decide)
            have g57 : -2147483648 ≤ (H39.1 1826 32) ∧ (H39.1 1826 32) ≤ 2147483647 := hrg40.1 1826 13 32 _ .int rfl rfl
            refine h_cv (i := 297) (j := 165) (b := 1826) (M' := mt_165) (xs := []) (rest := []) rfl rfl rfl rfl rfl rfl (Nat.le_of_ble_eq_true rfl) (Nat.le_of_ble_eq_true rfl) (by omega) (m_next (by omega) (by omega : 0 ≤ (H39.1 1826 30) ∧ (H39.1 1826 30) ≤ (H39.1 1826 29) ∧ (H39.1 1826 29) ≤ 1000) (by omega : 0 ≤ (H39.1 1826 35) ∧ (H39.1 1826 35) ≤ 5) (by omega : 0 ≤ (H39.1 1826 32) ∧ (H39.1 1826 32) ≤ 1000)) ?_
            rintro _ H58 ⟨rfl, hx58f, hx58a, hx58b, hx58c, -, hx58e, hx58g⟩
            refine h_rng (fun hrg59 => ?_)
            have hf60 : fr [30, 31, 32, 33, 35, 36, 19, 39, 40, 41, 43, 44, 47] [1841, 1842, 1843, 1844, 1845, 1846, 1847, 1849, 1850, 1851, 1852, 1853, 1854] H H58 := fr_t (fr_a hf41 (by decide)) hx58f (by decide) (by decide)
            have ha61 : agp H H58 := agp_tr (agp_a ha42 (by decide)) (agp_fr hx58f (by decide) (by decide))
            replace hx58a : (H39.1 1826 30) ≤ (H58.1 1826 30) := hx58a
            replace hx58b : (H58.1 1826 30) ≤ (H39.1 1826 29) := hx58b
            replace hx58g : (H58.1 1826 35) = 0 → ((H58.1 1826 31) = 0 ∨ (H39.1 1826 30) < (H58.1 1826 30)) := hx58g
            refine h_run 0 (pc' := 103) (l' := [(0, .inr (.inr 1826)), (1, .inl (l : Int))]) (st' := []) rfl ?_
            have g62 : -2147483648 ≤ (H58.1 1826 35) ∧ (H58.1 1826 35) ≤ 2147483647 := hrg59.1 1826 13 35 _ .int rfl rfl
            by_cases b63 : (H58.1 1826 35) = 0
            · skip
              replace hx58g := hx58g b63
              refine h_run 2 (pc' := 106) (l' := [(0, .inr (.inr 1826)), (1, .inl (l : Int))]) (st' := [.inl 58, .inr (.inr 1826)]) rfl ?_
              have g64 : -2147483648 ≤ (H58.1 1826 30) ∧ (H58.1 1826 30) ≤ 2147483647 := hrg59.1 1826 13 30 _ .int rfl rfl
              have g65 : -2147483648 ≤ (H58.1 1826 29) ∧ (H58.1 1826 29) ≤ 2147483647 := hrg59.1 1826 13 29 _ .int rfl rfl
              have e66 : (H58.1 1826 29) = (H39.1 1826 29) := hx58f.2.2 29 (by decide)
              have g67 : -2147483648 ≤ (H58.1 1826 31) ∧ (H58.1 1826 31) ≤ 2147483647 := hrg59.1 1826 13 31 _ .int rfl rfl
              have g69 : -2147483648 ≤ (H58.1 1826 32) ∧ (H58.1 1826 32) ≤ 2147483647 := hrg59.1 1826 13 32 _ .int rfl rfl
              refine h_cv (i := 313) (j := 166) (b := 1826) (M' := mt_166) (xs := [.inl 58]) (rest := []) rfl rfl rfl rfl rfl rfl (Nat.le_of_ble_eq_true rfl) (Nat.le_of_ble_eq_true rfl) (by omega) (m_want (by omega) (by omega : 0 ≤ (H58.1 1826 30) ∧ (H58.1 1826 30) ≤ (H58.1 1826 29) ∧ (H58.1 1826 29) ≤ 1000) (by omega : 0 ≤ (H58.1 1826 35) ∧ (H58.1 1826 35) ≤ 5) (by omega : 0 ≤ (H58.1 1826 32) ∧ (H58.1 1826 32) ≤ 1000) (by omega)) ?_
              rintro _ H68 ⟨rfl, hx68f, hx68a, hx68b, hx68c, -, hx68e, hx68g⟩
              refine h_rng (fun hrg70 => ?_)
              have hf71 : fr [30, 31, 32, 33, 35, 36, 19, 39, 40, 41, 43, 44, 47] [1841, 1842, 1843, 1844, 1845, 1846, 1847, 1849, 1850, 1851, 1852, 1853, 1854] H H68 := fr_t hf60 hx68f (by decide) (by decide)
              have ha72 : agp H H68 := agp_tr ha61 (agp_fr hx68f (by decide) (by decide))
              replace hx68a : (H58.1 1826 30) ≤ (H68.1 1826 30) := hx68a
              replace hx68b : (H68.1 1826 30) ≤ (H58.1 1826 29) := hx68b
              replace hx68g : (H68.1 1826 35) = 0 → (H58.1 1826 31) = (58 : Int) ∧ ((H68.1 1826 31) = 0 ∨ (H58.1 1826 30) < (H68.1 1826 30)) := hx68g
              refine h_run 0 (pc' := 109) (l' := [(0, .inr (.inr 1826)), (1, .inl (l : Int))]) (st' := []) rfl ?_
              have g73 : -2147483648 ≤ (H68.1 1826 35) ∧ (H68.1 1826 35) ≤ 2147483647 := hrg70.1 1826 13 35 _ .int rfl rfl
              by_cases b74 : (H68.1 1826 35) = 0
              · skip
                replace hx68g := hx68g b74
                refine h_run 1 (pc' := 110) (l' := [(0, .inr (.inr 1826)), (1, .inl (l : Int))]) (st' := [.inr (.inr 1826)]) rfl ?_
                refine h_cv (i := 379) (j := 185) (b := 1826) (M' := mt_185) (xs := []) (rest := []) rfl rfl rfl rfl rfl rfl (Nat.le_of_ble_eq_true rfl) (Nat.le_of_ble_eq_true rfl) (by omega) (m_beginTerm (by omega)) ?_
                rintro _ _ ⟨rfl, rfl⟩
                refine h_run 0 (pc' := 113) (l' := [(0, .inr (.inr 1826)), (1, .inl (l : Int))]) (st' := []) rfl ?_
                refine h_run 2 (pc' := 115) (l' := [(0, .inr (.inr 1826)), (1, .inl (l : Int))]) (st' := [.inl 2, .inr (.inr 1826)]) rfl ?_
                refine h_puti (i := 367) (ci := 13) (k := 44) (a := 1826) (x := 2) rfl rfl rfl rfl rfl rfl (by decide) (by decide) ?_
                refine h_run 1 (pc' := 119) (l' := [(0, .inr (.inr 1826)), (1, .inl (l : Int))]) (st' := [.inr (.inr 1826)]) rfl ?_
                refine h_cv (i := 293) (j := 158) (b := 1826) (M' := mt_158) (xs := []) (rest := []) rfl rfl rfl rfl rfl rfl (Nat.le_of_ble_eq_true rfl) (Nat.le_of_ble_eq_true rfl) (by omega) (m_good1 (by omega) (by omega : (H68.1 1826 35) = 0)) ?_
                rintro _ _ ⟨rfl, rfl⟩
                refine h_run 0 (pc' := 122) (l' := [(0, .inr (.inr 1826)), (1, .inl (l : Int))]) (st' := [.inl 1]) rfl ?_
                refine h_zeq (off := 11) (t := 133) rfl rfl (by decide) (fun c => absurd c (by decide)) (fun _ => ?_)
                refine h_run 2 (pc' := 127) (l' := [(0, .inr (.inr 1826)), (1, .inl (l : Int))]) (st' := [.inl (-1), .inr (.inr 1826)]) rfl ?_
                have g75 : -2147483648 ≤ (H68.1 1826 30) ∧ (H68.1 1826 30) ≤ 2147483647 := hrg70.1 1826 13 30 _ .int rfl rfl
                have g76 : -2147483648 ≤ (H68.1 1826 29) ∧ (H68.1 1826 29) ≤ 2147483647 := hrg70.1 1826 13 29 _ .int rfl rfl
                have e77 : (H68.1 1826 29) = (H58.1 1826 29) := hx68f.2.2 29 (by decide)
                have g78 : -2147483648 ≤ (H68.1 1826 1) ∧ (H68.1 1826 1) ≤ 2147483647 := hrg70.1 1826 13 1 _ .int rfl rfl
                have e79 : (H68.1 1826 1) = (H58.1 1826 1) := hx68f.2.2 1 (by decide)
                have e80 : (H58.1 1826 1) = (H39.1 1826 1) := hx58f.2.2 1 (by decide)
                have e81 : (H39.1 1826 1) = (H.1 1826 1) := hx39f.2.2 1 (by decide)
                have g83 : -2147483648 ≤ (H68.1 1826 32) ∧ (H68.1 1826 32) ≤ 2147483647 := hrg70.1 1826 13 32 _ .int rfl rfl
                have g84 : -2147483648 ≤ (H68.1 1826 3) ∧ (H68.1 1826 3) ≤ 2147483647 := hrg70.1 1826 13 3 _ .int rfl rfl
                have e85 : (H68.1 1826 3) = (H58.1 1826 3) := hx68f.2.2 3 (by decide)
                have e86 : (H58.1 1826 3) = (H39.1 1826 3) := hx58f.2.2 3 (by decide)
                have e87 : (H39.1 1826 3) = (H.1 1826 3) := hx39f.2.2 3 (by decide)
                have g88 : -2147483648 ≤ (H68.1 1826 8) ∧ (H68.1 1826 8) ≤ 2147483647 := hrg70.1 1826 13 8 _ .int rfl rfl
                have e89 : (H68.1 1826 8) = (H58.1 1826 8) := hx68f.2.2 8 (by decide)
                have e90 : (H58.1 1826 8) = (H39.1 1826 8) := hx58f.2.2 8 (by decide)
                have e91 : (H39.1 1826 8) = (H.1 1826 8) := hx39f.2.2 8 (by decide)
                have g92 : -2147483648 ≤ (H68.1 1826 13) ∧ (H68.1 1826 13) ≤ 2147483647 := hrg70.1 1826 13 13 _ .int rfl rfl
                have e93 : (H68.1 1826 13) = (H58.1 1826 13) := hx68f.2.2 13 (by decide)
                have e94 : (H58.1 1826 13) = (H39.1 1826 13) := hx58f.2.2 13 (by decide)
                have e95 : (H39.1 1826 13) = (H.1 1826 13) := hx39f.2.2 13 (by decide)
                have g96 : -2147483648 ≤ (H68.1 1826 19) ∧ (H68.1 1826 19) ≤ 2147483647 := hrg70.1 1826 13 19 _ .int rfl rfl
                have e97 : (H68.1 1826 19) = (H58.1 1826 19) := hx68f.2.2 19 (by decide)
                have e98 : (H58.1 1826 19) = (H39.1 1826 19) := hx58f.2.2 19 (by decide)
                refine h_cv (i := 385) (j := 180) (b := 1826) (M' := mt_180) (xs := [.inl (-1)]) (rest := []) rfl rfl rfl rfl rfl rfl (Nat.le_of_ble_eq_true rfl) (Nat.le_of_ble_eq_true rfl) (by omega) (m_term (by omega) (by omega : 0 ≤ (H68.1 1826 30) ∧ (H68.1 1826 30) ≤ (H68.1 1826 29) ∧ (H68.1 1826 29) ≤ 1000) (by omega : 0 ≤ (H68.1 1826 35) ∧ (H68.1 1826 35) ≤ 5) (by omega : 0 ≤ (H68.1 1826 32) ∧ (H68.1 1826 32) ≤ 1000) (PWc_agp hP (agp_o (agp_o (agp_o (agp_o (agp_o ha72 (by decide)) (by decide)) (by decide)) (by decide)) (by decide)) ⟨(by omega : (H68.1 1826 1) = (H.1 1826 1)), (by omega : (H68.1 1826 3) = (H.1 1826 3)), (by omega : (H68.1 1826 8) = (H.1 1826 8)), (by omega : (H68.1 1826 13) = (H.1 1826 13)), (by omega : (H68.1 1826 19) = (H.1 1826 19))⟩) (by omega : 1 ≤ (2 : Int) ∧ (2 : Int) ≤ 3) (by omega : -1 ≤ (-1 : Int) ∧ (-1 : Int) < (H68.1 1826 1)) (by omega : 0 ≤ (0 : Int) ∧ (0 : Int) ≤ 10) (fun _ => ⟨rfl, rfl, rfl, (by omega : 0 ≤ (0 : Int) ∧ (0 : Int) ≤ 39 ∧ ((2 : Int) = 2 → (0 : Int) ≤ 6)), fun _ v hv => absurd (id hv : (v : Int) < 0) (by omega)⟩)) ?_
                rintro _ H82 ⟨⟨hx82r, rfl, hx82x, hx82y⟩, hx82f, hx82a, hx82c, -, hx82e, hx82v, hx82p⟩
                refine h_rng (fun hrg99 => ?_)
                have hf100 : fr [30, 31, 32, 33, 35, 36, 19, 39, 40, 41, 43, 44, 47] [1841, 1842, 1843, 1844, 1845, 1846, 1847, 1849, 1850, 1851, 1852, 1853, 1854] H H82 := fr_t (fr_o (fr_o (fr_o (fr_o (fr_o hf71 (by decide)) (by decide)) (by decide)) (by decide)) (by decide)) hx82f (by decide) (by decide)
                have ha101 : agp H H82 := agp_tr (agp_o (agp_o (agp_o (agp_o (agp_o ha72 (by decide)) (by decide)) (by decide)) (by decide)) (by decide)) (agp_fr hx82f (by decide) (by decide))
                replace hx82y : hx82r < (H68.1 1826 1) := hx82y
                replace hx82a : (H68.1 1826 30) ≤ (H82.1 1826 30) ∧ (H82.1 1826 30) ≤ (H68.1 1826 29) := hx82a
                replace hx82v : ((2 : Int) ≠ 2 → (H82.1 1826 39) = (0 : Int)) ∧ (0 : Int) ≤ (H82.1 1826 39) := hx82v
                have hx82k : (H82.1 1826 35) = 0 → 0 ≤ (H82.1 1826 43) ∧ (H82.1 1826 43) ≤ 40 := fun q9 => by obtain ⟨⟨k9, h9, h8, -⟩, -⟩ := hx82p q9; omega
                have hx82w : (H82.1 1826 35) = 0 → 0 ≤ (H82.1 1826 39) ∧ (H82.1 1826 39) ≤ 39 ∧ ((H82.1 1826 44) = 2 → (H82.1 1826 39) ≤ 6) := fun q9 => (TT_vars (hx82p q9).2).1
                refine h_run 0 (pc' := 130) (l' := [(0, .inr (.inr 1826)), (1, .inl (l : Int))]) (st' := [.inl hx82r]) rfl ?_
                refine h_run 1 (pc' := 134) (l' := [(0, .inr (.inr 1826)), (1, .inl (l : Int))]) (st' := [.inl hx82r]) rfl ?_
                have g102 : -2147483648 ≤ (H82.1 1826 35) ∧ (H82.1 1826 35) ≤ 2147483647 := hrg99.1 1826 13 35 _ .int rfl rfl
                by_cases b103 : (H82.1 1826 35) = 0
                · skip
                  replace hx82k := hx82k b103
                  replace hx82w := hx82w b103
                  refine h_run 5 (pc' := 139) (l' := [(0, .inr (.inr 1826)), (1, .inl (l : Int)), (2, .inl hx82r)]) (st' := [.inl (2 * (l : Int)), .inr (.inr 1826)]) rfl ?_
                  have g104 : -2147483648 ≤ (H82.1 1826 43) ∧ (H82.1 1826 43) ≤ 2147483647 := hrg99.1 1826 13 43 _ .int rfl rfl
                  have g105 : -2147483648 ≤ (H82.1 1826 19) ∧ (H82.1 1826 19) ≤ 2147483647 := hrg99.1 1826 13 19 _ .int rfl rfl
                  have e106 : (H82.1 1826 19) = (H68.1 1826 19) := hx82f.2.2 19 (by decide)
                  rw [show (2 * (l : Int)) = ((2 * l : Nat) : Int) by omega]
                  refine h_cv (i := 390) (j := 188) (b := 1826) (M' := mt_188) (xs := [.inl ((2 * l : Nat) : Int)]) (rest := []) rfl rfl rfl rfl rfl rfl (Nat.le_of_ble_eq_true rfl) (Nat.le_of_ble_eq_true rfl) (by omega) (m_keepSide (by omega) (s := 2 * l) (by omega : 2 * (H82.1 1826 19) ≤ ((2 * l : Nat) : Int) ∧ 2 * l ≤ 31) (by omega : (H82.1 1826 35) = 0 → 0 ≤ (H82.1 1826 43) ∧ (H82.1 1826 43) ≤ 40)) ?_
                  rintro _ H107 ⟨rfl, hx107f, hx107g, hx107z, hx107b, hx107c⟩
                  refine h_rng (fun hrg108 => ?_)
                  have hf109 : fr [30, 31, 32, 33, 35, 36, 19, 39, 40, 41, 43, 44, 47] [1841, 1842, 1843, 1844, 1845, 1846, 1847, 1849, 1850, 1851, 1852, 1853, 1854] H H107 := fr_t hf100 hx107f (by decide) (by decide)
                  have ha110 : agp H H107 := agp_tr ha101 hx107g
                  replace hx107c : hid _ := hx107c
                  refine h_run 0 (pc' := 142) (l' := [(0, .inr (.inr 1826)), (1, .inl (l : Int)), (2, .inl hx82r)]) (st' := []) rfl ?_
                  refine h_run 2 (pc' := 145) (l' := [(0, .inr (.inr 1826)), (1, .inl (l : Int)), (2, .inl hx82r)]) (st' := [.inl 61, .inr (.inr 1826)]) rfl ?_
                  have g111 : -2147483648 ≤ (H107.1 1826 30) ∧ (H107.1 1826 30) ≤ 2147483647 := hrg108.1 1826 13 30 _ .int rfl rfl
                  have e112 : (H107.1 1826 30) = (H82.1 1826 30) := hx107f.2.2 30 (by decide)
                  have g113 : -2147483648 ≤ (H107.1 1826 29) ∧ (H107.1 1826 29) ≤ 2147483647 := hrg108.1 1826 13 29 _ .int rfl rfl
                  have e114 : (H107.1 1826 29) = (H82.1 1826 29) := hx107f.2.2 29 (by decide)
                  have e115 : (H82.1 1826 29) = (H68.1 1826 29) := hx82f.2.2 29 (by decide)
                  have g116 : -2147483648 ≤ (H107.1 1826 35) ∧ (H107.1 1826 35) ≤ 2147483647 := hrg108.1 1826 13 35 _ .int rfl rfl
                  have e117 : (H107.1 1826 35) = (H82.1 1826 35) := hx107f.2.2 35 (by decide)
                  have g118 : -2147483648 ≤ (H107.1 1826 31) ∧ (H107.1 1826 31) ≤ 2147483647 := hrg108.1 1826 13 31 _ .int rfl rfl
                  have e119 : (H107.1 1826 31) = (H82.1 1826 31) := hx107f.2.2 31 (by decide)
                  have g121 : -2147483648 ≤ (H107.1 1826 32) ∧ (H107.1 1826 32) ≤ 2147483647 := hrg108.1 1826 13 32 _ .int rfl rfl
                  have e122 : (H107.1 1826 32) = (H82.1 1826 32) := hx107f.2.2 32 (by decide)
                  refine h_cv (i := 313) (j := 166) (b := 1826) (M' := mt_166) (xs := [.inl 61]) (rest := []) rfl rfl rfl rfl rfl rfl (Nat.le_of_ble_eq_true rfl) (Nat.le_of_ble_eq_true rfl) (by omega) (m_want (by omega) (by omega : 0 ≤ (H107.1 1826 30) ∧ (H107.1 1826 30) ≤ (H107.1 1826 29) ∧ (H107.1 1826 29) ≤ 1000) (by omega : 0 ≤ (H107.1 1826 35) ∧ (H107.1 1826 35) ≤ 5) (by omega : 0 ≤ (H107.1 1826 32) ∧ (H107.1 1826 32) ≤ 1000) (by omega)) ?_
                  rintro _ H120 ⟨rfl, hx120f, hx120a, hx120b, hx120c, -, hx120e, hx120g⟩
                  refine h_rng (fun hrg123 => ?_)
                  have hf124 : fr [30, 31, 32, 33, 35, 36, 19, 39, 40, 41, 43, 44, 47] [1841, 1842, 1843, 1844, 1845, 1846, 1847, 1849, 1850, 1851, 1852, 1853, 1854] H H120 := fr_t hf109 hx120f (by decide) (by decide)
                  have ha125 : agp H H120 := agp_tr ha110 (agp_fr hx120f (by decide) (by decide))
                  replace hx120a : (H107.1 1826 30) ≤ (H120.1 1826 30) := hx120a
                  replace hx120b : (H120.1 1826 30) ≤ (H107.1 1826 29) := hx120b
                  replace hx120g : (H120.1 1826 35) = 0 → (H107.1 1826 31) = (61 : Int) ∧ ((H120.1 1826 31) = 0 ∨ (H107.1 1826 30) < (H120.1 1826 30)) := hx120g
                  refine h_run 0 (pc' := 148) (l' := [(0, .inr (.inr 1826)), (1, .inl (l : Int)), (2, .inl hx82r)]) (st' := []) rfl ?_
                  have g126 : -2147483648 ≤ (H120.1 1826 35) ∧ (H120.1 1826 35) ≤ 2147483647 := hrg123.1 1826 13 35 _ .int rfl rfl
                  by_cases b127 : (H120.1 1826 35) = 0
                  · skip
                    replace hx120g := hx120g b127
                    refine h_run 2 (pc' := 150) (l' := [(0, .inr (.inr 1826)), (1, .inl (l : Int)), (2, .inl hx82r)]) (st' := [.inl 0, .inr (.inr 1826)]) rfl ?_
                    refine h_puti (i := 300) (ci := 13) (k := 40) (a := 1826) (x := 0) rfl rfl rfl rfl rfl rfl (by decide) (by decide) ?_
                    refine h_run 2 (pc' := 155) (l' := [(0, .inr (.inr 1826)), (1, .inl (l : Int)), (2, .inl hx82r)]) (st' := [.inl 0, .inr (.inr 1826)]) rfl ?_
                    refine h_puti (i := 335) (ci := 13) (k := 41) (a := 1826) (x := 0) rfl rfl rfl rfl rfl rfl (by decide) (by decide) ?_
                    refine h_run 2 (pc' := 160) (l' := [(0, .inr (.inr 1826)), (1, .inl (l : Int)), (2, .inl hx82r)]) (st' := [.inl 0, .inr (.inr 1826)]) rfl ?_
                    refine h_puti (i := 303) (ci := 13) (k := 43) (a := 1826) (x := 0) rfl rfl rfl rfl rfl rfl (by decide) (by decide) ?_
                    refine h_run 1 (pc' := 164) (l' := [(0, .inr (.inr 1826)), (1, .inl (l : Int)), (2, .inl hx82r)]) (st' := [.inr (.inr 1826)]) rfl ?_
                    refine h_cv (i := 293) (j := 158) (b := 1826) (M' := mt_158) (xs := []) (rest := []) rfl rfl rfl rfl rfl rfl (Nat.le_of_ble_eq_true rfl) (Nat.le_of_ble_eq_true rfl) (by omega) (m_good1 (by omega) (by omega : (H120.1 1826 35) = 0)) ?_
                    rintro _ _ ⟨rfl, rfl⟩
                    refine h_run 0 (pc' := 167) (l' := [(0, .inr (.inr 1826)), (1, .inl (l : Int)), (2, .inl hx82r)]) (st' := [.inl 1]) rfl ?_
                    refine h_zeq (off := 11) (t := 178) rfl rfl (by decide) (fun c => absurd c (by decide)) (fun _ => ?_)
                    have g128 : -2147483648 ≤ (H120.1 1826 44) ∧ (H120.1 1826 44) ≤ 2147483647 := hrg123.1 1826 13 44 _ .int rfl rfl
                    have e129 : (H120.1 1826 44) = (H107.1 1826 44) := hx120f.2.2 44 (by decide)
                    have e130 : (H107.1 1826 44) = (H82.1 1826 44) := hx107f.2.2 44 (by decide)
                    have e131 : (H82.1 1826 44) = 2 := hx82f.2.2 44 (by decide)
                    have g132 : -2147483648 ≤ (H120.1 1826 39) ∧ (H120.1 1826 39) ≤ 2147483647 := hrg123.1 1826 13 39 _ .int rfl rfl
                    have e133 : (H120.1 1826 39) = (H107.1 1826 39) := hx120f.2.2 39 (by decide)
                    have e134 : (H107.1 1826 39) = (H82.1 1826 39) := hx107f.2.2 39 (by decide)
                    have g135 : -2147483648 ≤ (H120.1 1826 1) ∧ (H120.1 1826 1) ≤ 2147483647 := hrg123.1 1826 13 1 _ .int rfl rfl
                    have e136 : (H120.1 1826 1) = (H107.1 1826 1) := hx120f.2.2 1 (by decide)
                    have e137 : (H107.1 1826 1) = (H82.1 1826 1) := hx107f.2.2 1 (by decide)
                    have e138 : (H82.1 1826 1) = (H68.1 1826 1) := hx82f.2.2 1 (by decide)
                    have hvt8 : ∀ v : Nat, (v : Int) < (H120.1 1826 39) → 0 ≤ (H120.1 1850) v ∧ (H120.1 1850) v < (H120.1 1826 1) := fun v hv => by rw [show (H120.1 1850) = (H82.1 1850) from (hx120f.2.1 1850 (by decide) (by decide)).trans (hx107f.2.1 1850 (by decide) (by decide)), show (H120.1 1826 1) = (H82.1 1826 1) from (hx120f.2.2 1 (by decide)).trans (hx107f.2.2 1 (by decide))]; exact (TT_vars (hx82p (by omega)).2).2 (by omega) v (by omega)
                    refine h_run 2 (pc' := 172) (l' := [(0, .inr (.inr 1826)), (1, .inl (l : Int)), (2, .inl hx82r)]) (st' := [.inl hx82r, .inr (.inr 1826)]) rfl ?_
                    have g139 : -2147483648 ≤ (H120.1 1826 30) ∧ (H120.1 1826 30) ≤ 2147483647 := hrg123.1 1826 13 30 _ .int rfl rfl
                    have g140 : -2147483648 ≤ (H120.1 1826 29) ∧ (H120.1 1826 29) ≤ 2147483647 := hrg123.1 1826 13 29 _ .int rfl rfl
                    have e141 : (H120.1 1826 29) = (H107.1 1826 29) := hx120f.2.2 29 (by decide)
                    have g143 : -2147483648 ≤ (H120.1 1826 32) ∧ (H120.1 1826 32) ≤ 2147483647 := hrg123.1 1826 13 32 _ .int rfl rfl
                    have g144 : -2147483648 ≤ (H120.1 1826 3) ∧ (H120.1 1826 3) ≤ 2147483647 := hrg123.1 1826 13 3 _ .int rfl rfl
                    have e145 : (H120.1 1826 3) = (H107.1 1826 3) := hx120f.2.2 3 (by decide)
                    have e146 : (H107.1 1826 3) = (H82.1 1826 3) := hx107f.2.2 3 (by decide)
                    have e147 : (H82.1 1826 3) = (H68.1 1826 3) := hx82f.2.2 3 (by decide)
                    have g148 : -2147483648 ≤ (H120.1 1826 8) ∧ (H120.1 1826 8) ≤ 2147483647 := hrg123.1 1826 13 8 _ .int rfl rfl
                    have e149 : (H120.1 1826 8) = (H107.1 1826 8) := hx120f.2.2 8 (by decide)
                    have e150 : (H107.1 1826 8) = (H82.1 1826 8) := hx107f.2.2 8 (by decide)
                    have e151 : (H82.1 1826 8) = (H68.1 1826 8) := hx82f.2.2 8 (by decide)
                    have g152 : -2147483648 ≤ (H120.1 1826 13) ∧ (H120.1 1826 13) ≤ 2147483647 := hrg123.1 1826 13 13 _ .int rfl rfl
                    have e153 : (H120.1 1826 13) = (H107.1 1826 13) := hx120f.2.2 13 (by decide)
                    have e154 : (H107.1 1826 13) = (H82.1 1826 13) := hx107f.2.2 13 (by decide)
                    have e155 : (H82.1 1826 13) = (H68.1 1826 13) := hx82f.2.2 13 (by decide)
                    have g156 : -2147483648 ≤ (H120.1 1826 19) ∧ (H120.1 1826 19) ≤ 2147483647 := hrg123.1 1826 13 19 _ .int rfl rfl
                    have e157 : (H120.1 1826 19) = (H107.1 1826 19) := hx120f.2.2 19 (by decide)
                    have e158 : (H107.1 1826 19) = (H82.1 1826 19) := hx107f.2.2 19 (by decide)
                    refine h_cv (i := 385) (j := 180) (b := 1826) (M' := mt_180) (xs := [.inl hx82r]) (rest := []) rfl rfl rfl rfl rfl rfl (Nat.le_of_ble_eq_true rfl) (Nat.le_of_ble_eq_true rfl) (by omega) (m_term (by omega) (by omega : 0 ≤ (H120.1 1826 30) ∧ (H120.1 1826 30) ≤ (H120.1 1826 29) ∧ (H120.1 1826 29) ≤ 1000) (by omega : 0 ≤ (H120.1 1826 35) ∧ (H120.1 1826 35) ≤ 5) (by omega : 0 ≤ (H120.1 1826 32) ∧ (H120.1 1826 32) ≤ 1000) (PWc_agp hP (agp_o (agp_o (agp_o ha125 (by decide)) (by decide)) (by decide)) ⟨(by omega : (H120.1 1826 1) = (H.1 1826 1)), (by omega : (H120.1 1826 3) = (H.1 1826 3)), (by omega : (H120.1 1826 8) = (H.1 1826 8)), (by omega : (H120.1 1826 13) = (H.1 1826 13)), (by omega : (H120.1 1826 19) = (H.1 1826 19))⟩) (by omega : 1 ≤ (H120.1 1826 44) ∧ (H120.1 1826 44) ≤ 3) (by omega : -1 ≤ hx82r ∧ hx82r < (H120.1 1826 1)) (by omega : 0 ≤ (0 : Int) ∧ (0 : Int) ≤ 10) (fun _ => ⟨rfl, rfl, rfl, (by omega : 0 ≤ (H120.1 1826 39) ∧ (H120.1 1826 39) ≤ 39 ∧ ((H120.1 1826 44) = 2 → (H120.1 1826 39) ≤ 6)), fun _ => hvt8⟩)) ?_
                    rintro _ H142 ⟨⟨hx142r, rfl, hx142x, hx142y⟩, hx142f, hx142a, hx142c, -, hx142e, hx142v, hx142p⟩
                    refine h_rng (fun hrg159 => ?_)
                    have hf160 : fr [30, 31, 32, 33, 35, 36, 19, 39, 40, 41, 43, 44, 47] [1841, 1842, 1843, 1844, 1845, 1846, 1847, 1849, 1850, 1851, 1852, 1853, 1854] H H142 := fr_t (fr_o (fr_o (fr_o hf124 (by decide)) (by decide)) (by decide)) hx142f (by decide) (by decide)
                    have ha161 : agp H H142 := agp_tr (agp_o (agp_o (agp_o ha125 (by decide)) (by decide)) (by decide)) (agp_fr hx142f (by decide) (by decide))
                    replace hx142y : hx142r < (H120.1 1826 1) := hx142y
                    replace hx142a : (H120.1 1826 30) ≤ (H142.1 1826 30) ∧ (H142.1 1826 30) ≤ (H120.1 1826 29) := hx142a
                    replace hx142v : ((H120.1 1826 44) ≠ 2 → (H142.1 1826 39) = (H120.1 1826 39)) ∧ (H120.1 1826 39) ≤ (H142.1 1826 39) := hx142v
                    have hx142k : (H142.1 1826 35) = 0 → 0 ≤ (H142.1 1826 43) ∧ (H142.1 1826 43) ≤ 40 := fun q9 => by obtain ⟨⟨k9, h9, h8, -⟩, -⟩ := hx142p q9; omega
                    have hx142w : (H142.1 1826 35) = 0 → 0 ≤ (H142.1 1826 39) ∧ (H142.1 1826 39) ≤ 39 ∧ ((H142.1 1826 44) = 2 → (H142.1 1826 39) ≤ 6) := fun q9 => (TT_vars (hx142p q9).2).1
                    refine h_run 0 (pc' := 175) (l' := [(0, .inr (.inr 1826)), (1, .inl (l : Int)), (2, .inl hx82r)]) (st' := [.inl hx142r]) rfl ?_
                    refine h_run 1 (pc' := 179) (l' := [(0, .inr (.inr 1826)), (1, .inl (l : Int)), (2, .inl hx82r)]) (st' := [.inl hx142r]) rfl ?_
                    have g162 : -2147483648 ≤ (H142.1 1826 35) ∧ (H142.1 1826 35) ≤ 2147483647 := hrg159.1 1826 13 35 _ .int rfl rfl
                    by_cases b163 : (H142.1 1826 35) = 0
                    · skip
                      replace hx142k := hx142k b163
                      replace hx142w := hx142w b163
                      refine h_run 7 (pc' := 186) (l' := [(0, .inr (.inr 1826)), (1, .inl (l : Int)), (2, .inl hx82r), (3, .inl hx142r)]) (st' := [.inl ((2 * (l : Int)) + 1), .inr (.inr 1826)]) rfl ?_
                      have g164 : -2147483648 ≤ (H142.1 1826 43) ∧ (H142.1 1826 43) ≤ 2147483647 := hrg159.1 1826 13 43 _ .int rfl rfl
                      have g165 : -2147483648 ≤ (H142.1 1826 19) ∧ (H142.1 1826 19) ≤ 2147483647 := hrg159.1 1826 13 19 _ .int rfl rfl
                      have e166 : (H142.1 1826 19) = (H120.1 1826 19) := hx142f.2.2 19 (by decide)
                      rw [show ((2 * (l : Int)) + 1) = ((2 * l + 1 : Nat) : Int) by omega]
                      refine h_cv (i := 390) (j := 188) (b := 1826) (M' := mt_188) (xs := [.inl ((2 * l + 1 : Nat) : Int)]) (rest := []) rfl rfl rfl rfl rfl rfl (Nat.le_of_ble_eq_true rfl) (Nat.le_of_ble_eq_true rfl) (by omega) (m_keepSide (by omega) (s := 2 * l + 1) (by omega : 2 * (H142.1 1826 19) ≤ ((2 * l + 1 : Nat) : Int) ∧ 2 * l + 1 ≤ 31) (by omega : (H142.1 1826 35) = 0 → 0 ≤ (H142.1 1826 43) ∧ (H142.1 1826 43) ≤ 40)) ?_
                      rintro _ H167 ⟨rfl, hx167f, hx167g, hx167z, hx167b, hx167c⟩
                      refine h_rng (fun hrg168 => ?_)
                      have hf169 : fr [30, 31, 32, 33, 35, 36, 19, 39, 40, 41, 43, 44, 47] [1841, 1842, 1843, 1844, 1845, 1846, 1847, 1849, 1850, 1851, 1852, 1853, 1854] H H167 := fr_t hf160 hx167f (by decide) (by decide)
                      have ha170 : agp H H167 := agp_tr ha161 hx167g
                      replace hx167c : hid _ := hx167c
                      refine h_run 0 (pc' := 189) (l' := [(0, .inr (.inr 1826)), (1, .inl (l : Int)), (2, .inl hx82r), (3, .inl hx142r)]) (st' := []) rfl ?_
                      refine h_run 1 (pc' := 190) (l' := [(0, .inr (.inr 1826)), (1, .inl (l : Int)), (2, .inl hx82r), (3, .inl hx142r)]) (st' := [.inr (.inr 1826)]) rfl ?_
                      have g171 : -2147483648 ≤ (H167.1 1826 35) ∧ (H167.1 1826 35) ≤ 2147483647 := hrg168.1 1826 13 35 _ .int rfl rfl
                      have e172 : (H167.1 1826 35) = (H142.1 1826 35) := hx167f.2.2 35 (by decide)
                      refine h_cv (i := 293) (j := 158) (b := 1826) (M' := mt_158) (xs := []) (rest := []) rfl rfl rfl rfl rfl rfl (Nat.le_of_ble_eq_true rfl) (Nat.le_of_ble_eq_true rfl) (by omega) (m_good1 (by omega) (by omega : (H167.1 1826 35) = 0)) ?_
                      rintro _ _ ⟨rfl, rfl⟩
                      refine h_run 0 (pc' := 193) (l' := [(0, .inr (.inr 1826)), (1, .inl (l : Int)), (2, .inl hx82r), (3, .inl hx142r)]) (st' := [.inl 1]) rfl ?_
                      refine h_zeq (off := 83) (t := 276) rfl rfl (by decide) (fun c => absurd c (by decide)) (fun _ => ?_)
                      have g173 : -2147483648 ≤ (H167.1 1826 44) ∧ (H167.1 1826 44) ≤ 2147483647 := hrg168.1 1826 13 44 _ .int rfl rfl
                      have e174 : (H167.1 1826 44) = (H142.1 1826 44) := hx167f.2.2 44 (by decide)
                      have e175 : (H142.1 1826 44) = (H120.1 1826 44) := hx142f.2.2 44 (by decide)
                      have g176 : -2147483648 ≤ (H167.1 1826 39) ∧ (H167.1 1826 39) ≤ 2147483647 := hrg168.1 1826 13 39 _ .int rfl rfl
                      have e177 : (H167.1 1826 39) = (H142.1 1826 39) := hx167f.2.2 39 (by decide)
                      have g178 : -2147483648 ≤ (H167.1 1826 1) ∧ (H167.1 1826 1) ≤ 2147483647 := hrg168.1 1826 13 1 _ .int rfl rfl
                      have e179 : (H167.1 1826 1) = (H142.1 1826 1) := hx167f.2.2 1 (by decide)
                      have e180 : (H142.1 1826 1) = (H120.1 1826 1) := hx142f.2.2 1 (by decide)
                      have g181 : -2147483648 ≤ (H167.1 1826 19) ∧ (H167.1 1826 19) ≤ 2147483647 := hrg168.1 1826 13 19 _ .int rfl rfl
                      have e182 : (H167.1 1826 19) = (H142.1 1826 19) := hx167f.2.2 19 (by decide)
                      have gk2 : (H142.1 1826 35) = 0 := by omega
                      have gk1 : (H82.1 1826 35) = 0 := by omega
                      obtain ⟨⟨k0, p1, p2, p3⟩, pT1⟩ := hx82p gk1
                      obtain ⟨⟨k1, q1, q2, q3⟩, qT2⟩ := hx142p gk2
                      have hs0 := LS_fr (LS_keep hx107f hx107z (hx107c gk1) p1 p2 p3) hx120f (by decide) (by decide)
                      have hs1 := LS_keep2 (LS_fr (id hs0 : LSd (zu (zu (zu H120 1826 (up (H120.1 1826) 40 0)) 1826 (up ((zu H120 1826 (up (H120.1 1826) 40 0)).1 1826) 41 0)) 1826 (up ((zu (zu H120 1826 (up (H120.1 1826) 40 0)) 1826 (up ((zu H120 1826 (up (H120.1 1826) 40 0)).1 1826) 41 0)).1 1826) 43 0)) _ _ _) hx142f (by decide) (by decide)) hx167f hx167z hx167b (by omega)
                      have hs2 := LS_keep hx167f hx167z (hx167c gk2) q1 q2 q3
                      have hvt := (TT_vars qT2).2 (by omega)
                      have hv9 : (H142.1 1826 39) = (((H167.1 1826 39)).toNat : Int) := by omega
                      have hs3 : LSd H167 (2 * l) k0 (((H167.1 1826 39)).toNat : Int) := LS_mono hs1 (by omega)
                      rw [hv9] at hs2
                      have hvt9 : ∀ x : Nat, (x : Int) < (H167.1 1826 39) → 0 ≤ (H167.1 1850) x ∧ (H167.1 1850) x < (H167.1 1826 1) := fun x hx => by rw [show (H167.1 1850) = (H142.1 1850) from (hx167f.2.1 1850 (by decide) (by decide)), show (H167.1 1826 1) = (H142.1 1826 1) from (hx167f.2.2 1 (by decide))]; exact hvt x (by omega)
                      refine h_run 5 (pc' := 203) (l' := [(0, .inr (.inr 1826)), (1, .inl (l : Int)), (2, .inl hx82r), (3, .inl hx142r)]) (st' := [.inl (-1), .inl hx82r, .inl (l : Int), .inr (.inr 1844)]) rfl ?_
                      refine h_ieq (off := 7) (t := 210) rfl rfl (by omega) (by decide) (fun c183 => ?_) (fun c183 => ?_)
                      · refine h_run 1 (pc' := 211) (l' := [(0, .inr (.inr 1826)), (1, .inl (l : Int)), (2, .inl hx82r), (3, .inl hx142r)]) (st' := [.inl hx142r, .inl (l : Int), .inr (.inr 1844)]) rfl ?_
                        refine h_ist (c := 1844) (j := l) (i := (l : Int)) (x := hx142r) rfl rfl (by decide) (by decide) rfl (by omega) (by omega) ?_
                        refine h_run 5 (pc' := 221) (l' := [(0, .inr (.inr 1826)), (1, .inl (l : Int)), (2, .inl hx82r), (3, .inl hx142r)]) (st' := [.inl (H167.1 1826 39), .inl (l : Int), .inr (.inr 1845)]) rfl ?_
                        refine h_ist (c := 1845) (j := l) (i := (l : Int)) (x := (H167.1 1826 39)) rfl rfl (by decide) (by decide) rfl (by omega) (by omega) ?_
                        refine h_run 2 (pc' := 225) (l' := [(0, .inr (.inr 1826)), (1, .inl (l : Int)), (2, .inl hx82r), (3, .inl hx142r), (4, .inl 0)]) (st' := []) rfl ?_
                        have g184 : -2147483648 ≤ (H167.1 1826 30) ∧ (H167.1 1826 30) ≤ 2147483647 := hrg168.1 1826 13 30 _ .int rfl rfl
                        have e185 : (H167.1 1826 30) = (H142.1 1826 30) := hx167f.2.2 30 (by decide)
                        have g186 : -2147483648 ≤ (H167.1 1826 32) ∧ (H167.1 1826 32) ≤ 2147483647 := hrg168.1 1826 13 32 _ .int rfl rfl
                        have e187 : (H167.1 1826 32) = (H142.1 1826 32) := hx167f.2.2 32 (by decide)
                        have g188 : -2147483648 ≤ (H167.1 1826 31) ∧ (H167.1 1826 31) ≤ 2147483647 := hrg168.1 1826 13 31 _ .int rfl rfl
                        have e189 : (H167.1 1826 31) = (H142.1 1826 31) := hx167f.2.2 31 (by decide)
                        have g190 : -2147483648 ≤ (H167.1 1826 29) ∧ (H167.1 1826 29) ≤ 2147483647 := hrg168.1 1826 13 29 _ .int rfl rfl
                        have e191 : (H167.1 1826 29) = (H142.1 1826 29) := hx167f.2.2 29 (by decide)
                        have e192 : (H142.1 1826 29) = (H120.1 1826 29) := hx142f.2.2 29 (by decide)
                        have g193 : -2147483648 ≤ (H167.1 1826 3) ∧ (H167.1 1826 3) ≤ 2147483647 := hrg168.1 1826 13 3 _ .int rfl rfl
                        have e194 : (H167.1 1826 3) = (H142.1 1826 3) := hx167f.2.2 3 (by decide)
                        have e195 : (H142.1 1826 3) = (H120.1 1826 3) := hx142f.2.2 3 (by decide)
                        have g196 : -2147483648 ≤ (H167.1 1826 8) ∧ (H167.1 1826 8) ≤ 2147483647 := hrg168.1 1826 13 8 _ .int rfl rfl
                        have e197 : (H167.1 1826 8) = (H142.1 1826 8) := hx167f.2.2 8 (by decide)
                        have e198 : (H142.1 1826 8) = (H120.1 1826 8) := hx142f.2.2 8 (by decide)
                        have g199 : -2147483648 ≤ (H167.1 1826 13) ∧ (H167.1 1826 13) ≤ 2147483647 := hrg168.1 1826 13 13 _ .int rfl rfl
                        have e200 : (H167.1 1826 13) = (H142.1 1826 13) := hx167f.2.2 13 (by decide)
                        have e201 : (H142.1 1826 13) = (H120.1 1826 13) := hx142f.2.2 13 (by decide)
                        refine h_loc [0, 1, 4] rfl ?_
                        exact (m_tellLaw_cut hd h0 hw hst hP hw0 _) _ (l) 0 (k0) (k1) (((H167.1 1826 39)).toNat) (fr_a (fr_a hf169 (by decide)) (by decide)) (by omega : (H.1 1826 30) ≤ (H167.1 1826 30) ∧ (H167.1 1826 30) ≤ (H.1 1826 29)) (by omega : 0 ≤ (H167.1 1826 35) ∧ (H167.1 1826 35) ≤ 5) (by omega : 0 ≤ (H167.1 1826 32) ∧ (H167.1 1826 32) ≤ 1000) (agp_1845 (agp_a ha170 (by decide)) (by omega : (H.1 1826 19) ≤ ((l : Nat) : Int))) (by omega) (by omega : (H167.1 1826 35) = 0) (by omega : ((l) : Int) = (H.1 1826 19) ∧ (H.1 1826 19) ≤ 15) (by omega : (H167.1 1826 1) = (H.1 1826 1) ∧ (H167.1 1826 3) = (H.1 1826 3) ∧ (H167.1 1826 8) = (H.1 1826 8) ∧ (H167.1 1826 13) = (H.1 1826 13) ∧ (H167.1 1826 19) = (H.1 1826 19)) hs3 hs2 (show up (H167.1 1845) l ((H167.1 1826 39)) l = _ by rw [up_eq]; omega) (by omega : (H167.1 1826 39) = (((H167.1 1826 39)).toNat) ∧ (((H167.1 1826 39)).toNat) ≤ 6) hvt9 (by omega) (fun x hx => absurd hx (Nat.not_lt_zero _)) (Nat.lt_succ_self _)
                      · refine h_run 2 (pc' := 211) (l' := [(0, .inr (.inr 1826)), (1, .inl (l : Int)), (2, .inl hx82r), (3, .inl hx142r)]) (st' := [.inl hx82r, .inl (l : Int), .inr (.inr 1844)]) rfl ?_
                        refine h_ist (c := 1844) (j := l) (i := (l : Int)) (x := hx82r) rfl rfl (by decide) (by decide) rfl (by omega) (by omega) ?_
                        refine h_run 5 (pc' := 221) (l' := [(0, .inr (.inr 1826)), (1, .inl (l : Int)), (2, .inl hx82r), (3, .inl hx142r)]) (st' := [.inl (H167.1 1826 39), .inl (l : Int), .inr (.inr 1845)]) rfl ?_
                        refine h_ist (c := 1845) (j := l) (i := (l : Int)) (x := (H167.1 1826 39)) rfl rfl (by decide) (by decide) rfl (by omega) (by omega) ?_
                        refine h_run 2 (pc' := 225) (l' := [(0, .inr (.inr 1826)), (1, .inl (l : Int)), (2, .inl hx82r), (3, .inl hx142r), (4, .inl 0)]) (st' := []) rfl ?_
                        have g202 : -2147483648 ≤ (H167.1 1826 30) ∧ (H167.1 1826 30) ≤ 2147483647 := hrg168.1 1826 13 30 _ .int rfl rfl
                        have e203 : (H167.1 1826 30) = (H142.1 1826 30) := hx167f.2.2 30 (by decide)
                        have g204 : -2147483648 ≤ (H167.1 1826 32) ∧ (H167.1 1826 32) ≤ 2147483647 := hrg168.1 1826 13 32 _ .int rfl rfl
                        have e205 : (H167.1 1826 32) = (H142.1 1826 32) := hx167f.2.2 32 (by decide)
                        have g206 : -2147483648 ≤ (H167.1 1826 31) ∧ (H167.1 1826 31) ≤ 2147483647 := hrg168.1 1826 13 31 _ .int rfl rfl
                        have e207 : (H167.1 1826 31) = (H142.1 1826 31) := hx167f.2.2 31 (by decide)
                        have g208 : -2147483648 ≤ (H167.1 1826 29) ∧ (H167.1 1826 29) ≤ 2147483647 := hrg168.1 1826 13 29 _ .int rfl rfl
                        have e209 : (H167.1 1826 29) = (H142.1 1826 29) := hx167f.2.2 29 (by decide)
                        have e210 : (H142.1 1826 29) = (H120.1 1826 29) := hx142f.2.2 29 (by decide)
                        have g211 : -2147483648 ≤ (H167.1 1826 3) ∧ (H167.1 1826 3) ≤ 2147483647 := hrg168.1 1826 13 3 _ .int rfl rfl
                        have e212 : (H167.1 1826 3) = (H142.1 1826 3) := hx167f.2.2 3 (by decide)
                        have e213 : (H142.1 1826 3) = (H120.1 1826 3) := hx142f.2.2 3 (by decide)
                        have g214 : -2147483648 ≤ (H167.1 1826 8) ∧ (H167.1 1826 8) ≤ 2147483647 := hrg168.1 1826 13 8 _ .int rfl rfl
                        have e215 : (H167.1 1826 8) = (H142.1 1826 8) := hx167f.2.2 8 (by decide)
                        have e216 : (H142.1 1826 8) = (H120.1 1826 8) := hx142f.2.2 8 (by decide)
                        have g217 : -2147483648 ≤ (H167.1 1826 13) ∧ (H167.1 1826 13) ≤ 2147483647 := hrg168.1 1826 13 13 _ .int rfl rfl
                        have e218 : (H167.1 1826 13) = (H142.1 1826 13) := hx167f.2.2 13 (by decide)
                        have e219 : (H142.1 1826 13) = (H120.1 1826 13) := hx142f.2.2 13 (by decide)
                        refine h_loc [0, 1, 4] rfl ?_
                        exact (m_tellLaw_cut hd h0 hw hst hP hw0 _) _ (l) 0 (k0) (k1) (((H167.1 1826 39)).toNat) (fr_a (fr_a hf169 (by decide)) (by decide)) (by omega : (H.1 1826 30) ≤ (H167.1 1826 30) ∧ (H167.1 1826 30) ≤ (H.1 1826 29)) (by omega : 0 ≤ (H167.1 1826 35) ∧ (H167.1 1826 35) ≤ 5) (by omega : 0 ≤ (H167.1 1826 32) ∧ (H167.1 1826 32) ≤ 1000) (agp_1845 (agp_a ha170 (by decide)) (by omega : (H.1 1826 19) ≤ ((l : Nat) : Int))) (by omega) (by omega : (H167.1 1826 35) = 0) (by omega : ((l) : Int) = (H.1 1826 19) ∧ (H.1 1826 19) ≤ 15) (by omega : (H167.1 1826 1) = (H.1 1826 1) ∧ (H167.1 1826 3) = (H.1 1826 3) ∧ (H167.1 1826 8) = (H.1 1826 8) ∧ (H167.1 1826 13) = (H.1 1826 13) ∧ (H167.1 1826 19) = (H.1 1826 19)) hs3 hs2 (show up (H167.1 1845) l ((H167.1 1826 39)) l = _ by rw [up_eq]; omega) (by omega : (H167.1 1826 39) = (((H167.1 1826 39)).toNat) ∧ (((H167.1 1826 39)).toNat) ≤ 6) hvt9 (by omega) (fun x hx => absurd hx (Nat.not_lt_zero _)) (Nat.lt_succ_self _)
                    · skip
                      clear hx142k
                      clear hx142w
                      refine h_run 7 (pc' := 186) (l' := [(0, .inr (.inr 1826)), (1, .inl (l : Int)), (2, .inl hx82r), (3, .inl hx142r)]) (st' := [.inl ((2 * (l : Int)) + 1), .inr (.inr 1826)]) rfl ?_
                      have g220 : -2147483648 ≤ (H142.1 1826 43) ∧ (H142.1 1826 43) ≤ 2147483647 := hrg159.1 1826 13 43 _ .int rfl rfl
                      have g221 : -2147483648 ≤ (H142.1 1826 19) ∧ (H142.1 1826 19) ≤ 2147483647 := hrg159.1 1826 13 19 _ .int rfl rfl
                      have e222 : (H142.1 1826 19) = (H120.1 1826 19) := hx142f.2.2 19 (by decide)
                      rw [show ((2 * (l : Int)) + 1) = ((2 * l + 1 : Nat) : Int) by omega]
                      refine h_cv (i := 390) (j := 188) (b := 1826) (M' := mt_188) (xs := [.inl ((2 * l + 1 : Nat) : Int)]) (rest := []) rfl rfl rfl rfl rfl rfl (Nat.le_of_ble_eq_true rfl) (Nat.le_of_ble_eq_true rfl) (by omega) (m_keepSide (by omega) (s := 2 * l + 1) (by omega : 2 * (H142.1 1826 19) ≤ ((2 * l + 1 : Nat) : Int) ∧ 2 * l + 1 ≤ 31) (by omega : (H142.1 1826 35) = 0 → 0 ≤ (H142.1 1826 43) ∧ (H142.1 1826 43) ≤ 40)) ?_
                      rintro _ H223 ⟨rfl, hx223f, hx223g, hx223z, hx223b, hx223c⟩
                      refine h_rng (fun hrg224 => ?_)
                      have hf225 : fr [30, 31, 32, 33, 35, 36, 19, 39, 40, 41, 43, 44, 47] [1841, 1842, 1843, 1844, 1845, 1846, 1847, 1849, 1850, 1851, 1852, 1853, 1854] H H223 := fr_t hf160 hx223f (by decide) (by decide)
                      have ha226 : agp H H223 := agp_tr ha161 hx223g
                      replace hx223c : hid _ := hx223c
                      refine h_run 0 (pc' := 189) (l' := [(0, .inr (.inr 1826)), (1, .inl (l : Int)), (2, .inl hx82r), (3, .inl hx142r)]) (st' := []) rfl ?_
                      refine h_run 1 (pc' := 190) (l' := [(0, .inr (.inr 1826)), (1, .inl (l : Int)), (2, .inl hx82r), (3, .inl hx142r)]) (st' := [.inr (.inr 1826)]) rfl ?_
                      have g227 : -2147483648 ≤ (H223.1 1826 35) ∧ (H223.1 1826 35) ≤ 2147483647 := hrg224.1 1826 13 35 _ .int rfl rfl
                      have e228 : (H223.1 1826 35) = (H142.1 1826 35) := hx223f.2.2 35 (by decide)
                      refine h_cv (i := 293) (j := 158) (b := 1826) (M' := mt_158) (xs := []) (rest := []) rfl rfl rfl rfl rfl rfl (Nat.le_of_ble_eq_true rfl) (Nat.le_of_ble_eq_true rfl) (by omega) (m_good0 (by omega) (by omega : (H223.1 1826 35) ≠ 0)) ?_
                      rintro _ _ ⟨rfl, rfl⟩
                      refine h_run 0 (pc' := 193) (l' := [(0, .inr (.inr 1826)), (1, .inl (l : Int)), (2, .inl hx82r), (3, .inl hx142r)]) (st' := [.inl 0]) rfl ?_
                      refine h_zeq (off := 83) (t := 276) rfl rfl (by decide) (fun _ => ?_) (fun c => absurd c (by decide))
                      refine h_ret rfl rfl ?_
                      have g229 : -2147483648 ≤ (H223.1 1826 30) ∧ (H223.1 1826 30) ≤ 2147483647 := hrg224.1 1826 13 30 _ .int rfl rfl
                      have e230 : (H223.1 1826 30) = (H142.1 1826 30) := hx223f.2.2 30 (by decide)
                      have g231 : -2147483648 ≤ (H223.1 1826 32) ∧ (H223.1 1826 32) ≤ 2147483647 := hrg224.1 1826 13 32 _ .int rfl rfl
                      have e232 : (H223.1 1826 32) = (H142.1 1826 32) := hx223f.2.2 32 (by decide)
                      have g233 : -2147483648 ≤ (H223.1 1826 31) ∧ (H223.1 1826 31) ≤ 2147483647 := hrg224.1 1826 13 31 _ .int rfl rfl
                      have e234 : (H223.1 1826 31) = (H142.1 1826 31) := hx223f.2.2 31 (by decide)
                      have g235 : -2147483648 ≤ (H223.1 1826 29) ∧ (H223.1 1826 29) ≤ 2147483647 := hrg224.1 1826 13 29 _ .int rfl rfl
                      have e236 : (H223.1 1826 29) = (H142.1 1826 29) := hx223f.2.2 29 (by decide)
                      have e237 : (H142.1 1826 29) = (H120.1 1826 29) := hx142f.2.2 29 (by decide)
                      have g238 : -2147483648 ≤ (H223.1 1826 1) ∧ (H223.1 1826 1) ≤ 2147483647 := hrg224.1 1826 13 1 _ .int rfl rfl
                      have e239 : (H223.1 1826 1) = (H142.1 1826 1) := hx223f.2.2 1 (by decide)
                      have e240 : (H142.1 1826 1) = (H120.1 1826 1) := hx142f.2.2 1 (by decide)
                      have g241 : -2147483648 ≤ (H223.1 1826 3) ∧ (H223.1 1826 3) ≤ 2147483647 := hrg224.1 1826 13 3 _ .int rfl rfl
                      have e242 : (H223.1 1826 3) = (H142.1 1826 3) := hx223f.2.2 3 (by decide)
                      have e243 : (H142.1 1826 3) = (H120.1 1826 3) := hx142f.2.2 3 (by decide)
                      have g244 : -2147483648 ≤ (H223.1 1826 8) ∧ (H223.1 1826 8) ≤ 2147483647 := hrg224.1 1826 13 8 _ .int rfl rfl
                      have e245 : (H223.1 1826 8) = (H142.1 1826 8) := hx223f.2.2 8 (by decide)
                      have e246 : (H142.1 1826 8) = (H120.1 1826 8) := hx142f.2.2 8 (by decide)
                      have g247 : -2147483648 ≤ (H223.1 1826 13) ∧ (H223.1 1826 13) ≤ 2147483647 := hrg224.1 1826 13 13 _ .int rfl rfl
                      have e248 : (H223.1 1826 13) = (H142.1 1826 13) := hx223f.2.2 13 (by decide)
                      have e249 : (H142.1 1826 13) = (H120.1 1826 13) := hx142f.2.2 13 (by decide)
                      have g250 : -2147483648 ≤ (H223.1 1826 19) ∧ (H223.1 1826 19) ≤ 2147483647 := hrg224.1 1826 13 19 _ .int rfl rfl
                      have e251 : (H223.1 1826 19) = (H142.1 1826 19) := hx223f.2.2 19 (by decide)
                      have g252 : -2147483648 ≤ (H223.1 1826 39) ∧ (H223.1 1826 39) ≤ 2147483647 := hrg224.1 1826 13 39 _ .int rfl rfl
                      have e253 : (H223.1 1826 39) = (H142.1 1826 39) := hx223f.2.2 39 (by decide)
                      exact ⟨rfl, hf225, (by omega : (H.1 1826 30) ≤ (H223.1 1826 30) ∧ (H223.1 1826 30) ≤ (H.1 1826 29)), (by omega : 0 ≤ (H223.1 1826 35) ∧ (H223.1 1826 35) ≤ 5), (by omega : (H.1 1826 35) ≠ 0 → (H223.1 1826 35) ≠ 0), (by omega : 0 ≤ (H223.1 1826 32) ∧ (H223.1 1826 32) ≤ 1000), ha226, (fun (q : (H223.1 1826 35) = 0) => absurd q (by omega))⟩
                  · skip
                    clear hx120g
                    refine h_run 2 (pc' := 150) (l' := [(0, .inr (.inr 1826)), (1, .inl (l : Int)), (2, .inl hx82r)]) (st' := [.inl 0, .inr (.inr 1826)]) rfl ?_
                    refine h_puti (i := 300) (ci := 13) (k := 40) (a := 1826) (x := 0) rfl rfl rfl rfl rfl rfl (by decide) (by decide) ?_
                    refine h_run 2 (pc' := 155) (l' := [(0, .inr (.inr 1826)), (1, .inl (l : Int)), (2, .inl hx82r)]) (st' := [.inl 0, .inr (.inr 1826)]) rfl ?_
                    refine h_puti (i := 335) (ci := 13) (k := 41) (a := 1826) (x := 0) rfl rfl rfl rfl rfl rfl (by decide) (by decide) ?_
                    refine h_run 2 (pc' := 160) (l' := [(0, .inr (.inr 1826)), (1, .inl (l : Int)), (2, .inl hx82r)]) (st' := [.inl 0, .inr (.inr 1826)]) rfl ?_
                    refine h_puti (i := 303) (ci := 13) (k := 43) (a := 1826) (x := 0) rfl rfl rfl rfl rfl rfl (by decide) (by decide) ?_
                    refine h_run 1 (pc' := 164) (l' := [(0, .inr (.inr 1826)), (1, .inl (l : Int)), (2, .inl hx82r)]) (st' := [.inr (.inr 1826)]) rfl ?_
                    refine h_cv (i := 293) (j := 158) (b := 1826) (M' := mt_158) (xs := []) (rest := []) rfl rfl rfl rfl rfl rfl (Nat.le_of_ble_eq_true rfl) (Nat.le_of_ble_eq_true rfl) (by omega) (m_good0 (by omega) (by omega : (H120.1 1826 35) ≠ 0)) ?_
                    rintro _ _ ⟨rfl, rfl⟩
                    refine h_run 0 (pc' := 167) (l' := [(0, .inr (.inr 1826)), (1, .inl (l : Int)), (2, .inl hx82r)]) (st' := [.inl 0]) rfl ?_
                    refine h_zeq (off := 11) (t := 178) rfl rfl (by decide) (fun _ => ?_) (fun c => absurd c (by decide))
                    refine h_run 1 (pc' := 179) (l' := [(0, .inr (.inr 1826)), (1, .inl (l : Int)), (2, .inl hx82r)]) (st' := [.inl (-1)]) rfl ?_
                    refine h_run 7 (pc' := 186) (l' := [(0, .inr (.inr 1826)), (1, .inl (l : Int)), (2, .inl hx82r), (3, .inl (-1))]) (st' := [.inl ((2 * (l : Int)) + 1), .inr (.inr 1826)]) rfl ?_
                    have g254 : -2147483648 ≤ (H120.1 1826 19) ∧ (H120.1 1826 19) ≤ 2147483647 := hrg123.1 1826 13 19 _ .int rfl rfl
                    have e255 : (H120.1 1826 19) = (H107.1 1826 19) := hx120f.2.2 19 (by decide)
                    have e256 : (H107.1 1826 19) = (H82.1 1826 19) := hx107f.2.2 19 (by decide)
                    rw [show ((2 * (l : Int)) + 1) = ((2 * l + 1 : Nat) : Int) by omega]
                    refine h_cv (i := 390) (j := 188) (b := 1826) (M' := mt_188) (xs := [.inl ((2 * l + 1 : Nat) : Int)]) (rest := []) rfl rfl rfl rfl rfl rfl (Nat.le_of_ble_eq_true rfl) (Nat.le_of_ble_eq_true rfl) (by omega) (m_keepSide (by omega) (s := 2 * l + 1) (by omega : 2 * (H120.1 1826 19) ≤ ((2 * l + 1 : Nat) : Int) ∧ 2 * l + 1 ≤ 31) (by omega : (H120.1 1826 35) = 0 → 0 ≤ (0 : Int) ∧ (0 : Int) ≤ 40)) ?_
                    rintro _ H257 ⟨rfl, hx257f, hx257g, hx257z, hx257b, hx257c⟩
                    refine h_rng (fun hrg258 => ?_)
                    have hf259 : fr [30, 31, 32, 33, 35, 36, 19, 39, 40, 41, 43, 44, 47] [1841, 1842, 1843, 1844, 1845, 1846, 1847, 1849, 1850, 1851, 1852, 1853, 1854] H H257 := fr_t (fr_o (fr_o (fr_o hf124 (by decide)) (by decide)) (by decide)) hx257f (by decide) (by decide)
                    have ha260 : agp H H257 := agp_tr (agp_o (agp_o (agp_o ha125 (by decide)) (by decide)) (by decide)) hx257g
                    replace hx257c : hid _ := hx257c
                    refine h_run 0 (pc' := 189) (l' := [(0, .inr (.inr 1826)), (1, .inl (l : Int)), (2, .inl hx82r), (3, .inl (-1))]) (st' := []) rfl ?_
                    refine h_run 1 (pc' := 190) (l' := [(0, .inr (.inr 1826)), (1, .inl (l : Int)), (2, .inl hx82r), (3, .inl (-1))]) (st' := [.inr (.inr 1826)]) rfl ?_
                    have g261 : -2147483648 ≤ (H257.1 1826 35) ∧ (H257.1 1826 35) ≤ 2147483647 := hrg258.1 1826 13 35 _ .int rfl rfl
                    have e262 : (H257.1 1826 35) = (H120.1 1826 35) := hx257f.2.2 35 (by decide)
                    refine h_cv (i := 293) (j := 158) (b := 1826) (M' := mt_158) (xs := []) (rest := []) rfl rfl rfl rfl rfl rfl (Nat.le_of_ble_eq_true rfl) (Nat.le_of_ble_eq_true rfl) (by omega) (m_good0 (by omega) (by omega : (H257.1 1826 35) ≠ 0)) ?_
                    rintro _ _ ⟨rfl, rfl⟩
                    refine h_run 0 (pc' := 193) (l' := [(0, .inr (.inr 1826)), (1, .inl (l : Int)), (2, .inl hx82r), (3, .inl (-1))]) (st' := [.inl 0]) rfl ?_
                    refine h_zeq (off := 83) (t := 276) rfl rfl (by decide) (fun _ => ?_) (fun c => absurd c (by decide))
                    refine h_ret rfl rfl ?_
                    have g263 : -2147483648 ≤ (H257.1 1826 30) ∧ (H257.1 1826 30) ≤ 2147483647 := hrg258.1 1826 13 30 _ .int rfl rfl
                    have e264 : (H257.1 1826 30) = (H120.1 1826 30) := hx257f.2.2 30 (by decide)
                    have g265 : -2147483648 ≤ (H257.1 1826 32) ∧ (H257.1 1826 32) ≤ 2147483647 := hrg258.1 1826 13 32 _ .int rfl rfl
                    have e266 : (H257.1 1826 32) = (H120.1 1826 32) := hx257f.2.2 32 (by decide)
                    have g267 : -2147483648 ≤ (H257.1 1826 31) ∧ (H257.1 1826 31) ≤ 2147483647 := hrg258.1 1826 13 31 _ .int rfl rfl
                    have e268 : (H257.1 1826 31) = (H120.1 1826 31) := hx257f.2.2 31 (by decide)
                    have g269 : -2147483648 ≤ (H257.1 1826 29) ∧ (H257.1 1826 29) ≤ 2147483647 := hrg258.1 1826 13 29 _ .int rfl rfl
                    have e270 : (H257.1 1826 29) = (H120.1 1826 29) := hx257f.2.2 29 (by decide)
                    have e271 : (H120.1 1826 29) = (H107.1 1826 29) := hx120f.2.2 29 (by decide)
                    have g272 : -2147483648 ≤ (H257.1 1826 1) ∧ (H257.1 1826 1) ≤ 2147483647 := hrg258.1 1826 13 1 _ .int rfl rfl
                    have e273 : (H257.1 1826 1) = (H120.1 1826 1) := hx257f.2.2 1 (by decide)
                    have e274 : (H120.1 1826 1) = (H107.1 1826 1) := hx120f.2.2 1 (by decide)
                    have e275 : (H107.1 1826 1) = (H82.1 1826 1) := hx107f.2.2 1 (by decide)
                    have e276 : (H82.1 1826 1) = (H68.1 1826 1) := hx82f.2.2 1 (by decide)
                    have g277 : -2147483648 ≤ (H257.1 1826 3) ∧ (H257.1 1826 3) ≤ 2147483647 := hrg258.1 1826 13 3 _ .int rfl rfl
                    have e278 : (H257.1 1826 3) = (H120.1 1826 3) := hx257f.2.2 3 (by decide)
                    have e279 : (H120.1 1826 3) = (H107.1 1826 3) := hx120f.2.2 3 (by decide)
                    have e280 : (H107.1 1826 3) = (H82.1 1826 3) := hx107f.2.2 3 (by decide)
                    have e281 : (H82.1 1826 3) = (H68.1 1826 3) := hx82f.2.2 3 (by decide)
                    have g282 : -2147483648 ≤ (H257.1 1826 8) ∧ (H257.1 1826 8) ≤ 2147483647 := hrg258.1 1826 13 8 _ .int rfl rfl
                    have e283 : (H257.1 1826 8) = (H120.1 1826 8) := hx257f.2.2 8 (by decide)
                    have e284 : (H120.1 1826 8) = (H107.1 1826 8) := hx120f.2.2 8 (by decide)
                    have e285 : (H107.1 1826 8) = (H82.1 1826 8) := hx107f.2.2 8 (by decide)
                    have e286 : (H82.1 1826 8) = (H68.1 1826 8) := hx82f.2.2 8 (by decide)
                    have g287 : -2147483648 ≤ (H257.1 1826 13) ∧ (H257.1 1826 13) ≤ 2147483647 := hrg258.1 1826 13 13 _ .int rfl rfl
                    have e288 : (H257.1 1826 13) = (H120.1 1826 13) := hx257f.2.2 13 (by decide)
                    have e289 : (H120.1 1826 13) = (H107.1 1826 13) := hx120f.2.2 13 (by decide)
                    have e290 : (H107.1 1826 13) = (H82.1 1826 13) := hx107f.2.2 13 (by decide)
                    have e291 : (H82.1 1826 13) = (H68.1 1826 13) := hx82f.2.2 13 (by decide)
                    have g292 : -2147483648 ≤ (H257.1 1826 19) ∧ (H257.1 1826 19) ≤ 2147483647 := hrg258.1 1826 13 19 _ .int rfl rfl
                    have e293 : (H257.1 1826 19) = (H120.1 1826 19) := hx257f.2.2 19 (by decide)
                    have g294 : -2147483648 ≤ (H257.1 1826 39) ∧ (H257.1 1826 39) ≤ 2147483647 := hrg258.1 1826 13 39 _ .int rfl rfl
                    have e295 : (H257.1 1826 39) = (H120.1 1826 39) := hx257f.2.2 39 (by decide)
                    have e296 : (H120.1 1826 39) = (H107.1 1826 39) := hx120f.2.2 39 (by decide)
                    have e297 : (H107.1 1826 39) = (H82.1 1826 39) := hx107f.2.2 39 (by decide)
                    exact ⟨rfl, hf259, (by omega : (H.1 1826 30) ≤ (H257.1 1826 30) ∧ (H257.1 1826 30) ≤ (H.1 1826 29)), (by omega : 0 ≤ (H257.1 1826 35) ∧ (H257.1 1826 35) ≤ 5), (by omega : (H.1 1826 35) ≠ 0 → (H257.1 1826 35) ≠ 0), (by omega : 0 ≤ (H257.1 1826 32) ∧ (H257.1 1826 32) ≤ 1000), ha260, (fun (q : (H257.1 1826 35) = 0) => absurd q (by omega))⟩
                · skip
                  clear hx82k
                  clear hx82w
                  refine h_run 5 (pc' := 139) (l' := [(0, .inr (.inr 1826)), (1, .inl (l : Int)), (2, .inl hx82r)]) (st' := [.inl (2 * (l : Int)), .inr (.inr 1826)]) rfl ?_
                  have g298 : -2147483648 ≤ (H82.1 1826 43) ∧ (H82.1 1826 43) ≤ 2147483647 := hrg99.1 1826 13 43 _ .int rfl rfl
                  have g299 : -2147483648 ≤ (H82.1 1826 19) ∧ (H82.1 1826 19) ≤ 2147483647 := hrg99.1 1826 13 19 _ .int rfl rfl
                  have e300 : (H82.1 1826 19) = (H68.1 1826 19) := hx82f.2.2 19 (by decide)
                  rw [show (2 * (l : Int)) = ((2 * l : Nat) : Int) by omega]
                  refine h_cv (i := 390) (j := 188) (b := 1826) (M' := mt_188) (xs := [.inl ((2 * l : Nat) : Int)]) (rest := []) rfl rfl rfl rfl rfl rfl (Nat.le_of_ble_eq_true rfl) (Nat.le_of_ble_eq_true rfl) (by omega) (m_keepSide (by omega) (s := 2 * l) (by omega : 2 * (H82.1 1826 19) ≤ ((2 * l : Nat) : Int) ∧ 2 * l ≤ 31) (by omega : (H82.1 1826 35) = 0 → 0 ≤ (H82.1 1826 43) ∧ (H82.1 1826 43) ≤ 40)) ?_
                  rintro _ H301 ⟨rfl, hx301f, hx301g, hx301z, hx301b, hx301c⟩
                  refine h_rng (fun hrg302 => ?_)
                  have hf303 : fr [30, 31, 32, 33, 35, 36, 19, 39, 40, 41, 43, 44, 47] [1841, 1842, 1843, 1844, 1845, 1846, 1847, 1849, 1850, 1851, 1852, 1853, 1854] H H301 := fr_t hf100 hx301f (by decide) (by decide)
                  have ha304 : agp H H301 := agp_tr ha101 hx301g
                  replace hx301c : hid _ := hx301c
                  refine h_run 0 (pc' := 142) (l' := [(0, .inr (.inr 1826)), (1, .inl (l : Int)), (2, .inl hx82r)]) (st' := []) rfl ?_
                  refine h_run 2 (pc' := 145) (l' := [(0, .inr (.inr 1826)), (1, .inl (l : Int)), (2, .inl hx82r)]) (st' := [.inl 61, .inr (.inr 1826)]) rfl ?_
                  have g305 : -2147483648 ≤ (H301.1 1826 30) ∧ (H301.1 1826 30) ≤ 2147483647 := hrg302.1 1826 13 30 _ .int rfl rfl
                  have e306 : (H301.1 1826 30) = (H82.1 1826 30) := hx301f.2.2 30 (by decide)
                  have g307 : -2147483648 ≤ (H301.1 1826 29) ∧ (H301.1 1826 29) ≤ 2147483647 := hrg302.1 1826 13 29 _ .int rfl rfl
                  have e308 : (H301.1 1826 29) = (H82.1 1826 29) := hx301f.2.2 29 (by decide)
                  have e309 : (H82.1 1826 29) = (H68.1 1826 29) := hx82f.2.2 29 (by decide)
                  have g310 : -2147483648 ≤ (H301.1 1826 35) ∧ (H301.1 1826 35) ≤ 2147483647 := hrg302.1 1826 13 35 _ .int rfl rfl
                  have e311 : (H301.1 1826 35) = (H82.1 1826 35) := hx301f.2.2 35 (by decide)
                  have g312 : -2147483648 ≤ (H301.1 1826 31) ∧ (H301.1 1826 31) ≤ 2147483647 := hrg302.1 1826 13 31 _ .int rfl rfl
                  have e313 : (H301.1 1826 31) = (H82.1 1826 31) := hx301f.2.2 31 (by decide)
                  have g315 : -2147483648 ≤ (H301.1 1826 32) ∧ (H301.1 1826 32) ≤ 2147483647 := hrg302.1 1826 13 32 _ .int rfl rfl
                  have e316 : (H301.1 1826 32) = (H82.1 1826 32) := hx301f.2.2 32 (by decide)
                  refine h_cv (i := 313) (j := 166) (b := 1826) (M' := mt_166) (xs := [.inl 61]) (rest := []) rfl rfl rfl rfl rfl rfl (Nat.le_of_ble_eq_true rfl) (Nat.le_of_ble_eq_true rfl) (by omega) (m_want (by omega) (by omega : 0 ≤ (H301.1 1826 30) ∧ (H301.1 1826 30) ≤ (H301.1 1826 29) ∧ (H301.1 1826 29) ≤ 1000) (by omega : 0 ≤ (H301.1 1826 35) ∧ (H301.1 1826 35) ≤ 5) (by omega : 0 ≤ (H301.1 1826 32) ∧ (H301.1 1826 32) ≤ 1000) (by omega)) ?_
                  rintro _ H314 ⟨rfl, hx314f, hx314a, hx314b, hx314c, hx314d, hx314e, hx314g⟩
                  refine h_rng (fun hrg317 => ?_)
                  have hf318 : fr [30, 31, 32, 33, 35, 36, 19, 39, 40, 41, 43, 44, 47] [1841, 1842, 1843, 1844, 1845, 1846, 1847, 1849, 1850, 1851, 1852, 1853, 1854] H H314 := fr_t hf303 hx314f (by decide) (by decide)
                  have ha319 : agp H H314 := agp_tr ha304 (agp_fr hx314f (by decide) (by decide))
                  replace hx314a : (H301.1 1826 30) ≤ (H314.1 1826 30) := hx314a
                  replace hx314b : (H314.1 1826 30) ≤ (H301.1 1826 29) := hx314b
                  replace hx314d : (H314.1 1826 35) = (H301.1 1826 35) := hx314d (by omega : (H301.1 1826 35) ≠ 0)
                  replace hx314g : (H314.1 1826 35) = 0 → (H301.1 1826 31) = (61 : Int) ∧ ((H314.1 1826 31) = 0 ∨ (H301.1 1826 30) < (H314.1 1826 30)) := hx314g
                  refine h_run 0 (pc' := 148) (l' := [(0, .inr (.inr 1826)), (1, .inl (l : Int)), (2, .inl hx82r)]) (st' := []) rfl ?_
                  refine h_run 2 (pc' := 150) (l' := [(0, .inr (.inr 1826)), (1, .inl (l : Int)), (2, .inl hx82r)]) (st' := [.inl 0, .inr (.inr 1826)]) rfl ?_
                  refine h_puti (i := 300) (ci := 13) (k := 40) (a := 1826) (x := 0) rfl rfl rfl rfl rfl rfl (by decide) (by decide) ?_
                  refine h_run 2 (pc' := 155) (l' := [(0, .inr (.inr 1826)), (1, .inl (l : Int)), (2, .inl hx82r)]) (st' := [.inl 0, .inr (.inr 1826)]) rfl ?_
                  refine h_puti (i := 335) (ci := 13) (k := 41) (a := 1826) (x := 0) rfl rfl rfl rfl rfl rfl (by decide) (by decide) ?_
                  refine h_run 2 (pc' := 160) (l' := [(0, .inr (.inr 1826)), (1, .inl (l : Int)), (2, .inl hx82r)]) (st' := [.inl 0, .inr (.inr 1826)]) rfl ?_
                  refine h_puti (i := 303) (ci := 13) (k := 43) (a := 1826) (x := 0) rfl rfl rfl rfl rfl rfl (by decide) (by decide) ?_
                  refine h_run 1 (pc' := 164) (l' := [(0, .inr (.inr 1826)), (1, .inl (l : Int)), (2, .inl hx82r)]) (st' := [.inr (.inr 1826)]) rfl ?_
                  have g320 : -2147483648 ≤ (H314.1 1826 35) ∧ (H314.1 1826 35) ≤ 2147483647 := hrg317.1 1826 13 35 _ .int rfl rfl
                  refine h_cv (i := 293) (j := 158) (b := 1826) (M' := mt_158) (xs := []) (rest := []) rfl rfl rfl rfl rfl rfl (Nat.le_of_ble_eq_true rfl) (Nat.le_of_ble_eq_true rfl) (by omega) (m_good0 (by omega) (by omega : (H314.1 1826 35) ≠ 0)) ?_
                  rintro _ _ ⟨rfl, rfl⟩
                  refine h_run 0 (pc' := 167) (l' := [(0, .inr (.inr 1826)), (1, .inl (l : Int)), (2, .inl hx82r)]) (st' := [.inl 0]) rfl ?_
                  refine h_zeq (off := 11) (t := 178) rfl rfl (by decide) (fun _ => ?_) (fun c => absurd c (by decide))
                  refine h_run 1 (pc' := 179) (l' := [(0, .inr (.inr 1826)), (1, .inl (l : Int)), (2, .inl hx82r)]) (st' := [.inl (-1)]) rfl ?_
                  refine h_run 7 (pc' := 186) (l' := [(0, .inr (.inr 1826)), (1, .inl (l : Int)), (2, .inl hx82r), (3, .inl (-1))]) (st' := [.inl ((2 * (l : Int)) + 1), .inr (.inr 1826)]) rfl ?_
                  have g321 : -2147483648 ≤ (H314.1 1826 19) ∧ (H314.1 1826 19) ≤ 2147483647 := hrg317.1 1826 13 19 _ .int rfl rfl
                  have e322 : (H314.1 1826 19) = (H301.1 1826 19) := hx314f.2.2 19 (by decide)
                  have e323 : (H301.1 1826 19) = (H82.1 1826 19) := hx301f.2.2 19 (by decide)
                  rw [show ((2 * (l : Int)) + 1) = ((2 * l + 1 : Nat) : Int) by omega]
                  refine h_cv (i := 390) (j := 188) (b := 1826) (M' := mt_188) (xs := [.inl ((2 * l + 1 : Nat) : Int)]) (rest := []) rfl rfl rfl rfl rfl rfl (Nat.le_of_ble_eq_true rfl) (Nat.le_of_ble_eq_true rfl) (by omega) (m_keepSide (by omega) (s := 2 * l + 1) (by omega : 2 * (H314.1 1826 19) ≤ ((2 * l + 1 : Nat) : Int) ∧ 2 * l + 1 ≤ 31) (by omega : (H314.1 1826 35) = 0 → 0 ≤ (0 : Int) ∧ (0 : Int) ≤ 40)) ?_
                  rintro _ H324 ⟨rfl, hx324f, hx324g, hx324z, hx324b, hx324c⟩
                  refine h_rng (fun hrg325 => ?_)
                  have hf326 : fr [30, 31, 32, 33, 35, 36, 19, 39, 40, 41, 43, 44, 47] [1841, 1842, 1843, 1844, 1845, 1846, 1847, 1849, 1850, 1851, 1852, 1853, 1854] H H324 := fr_t (fr_o (fr_o (fr_o hf318 (by decide)) (by decide)) (by decide)) hx324f (by decide) (by decide)
                  have ha327 : agp H H324 := agp_tr (agp_o (agp_o (agp_o ha319 (by decide)) (by decide)) (by decide)) hx324g
                  replace hx324c : hid _ := hx324c
                  refine h_run 0 (pc' := 189) (l' := [(0, .inr (.inr 1826)), (1, .inl (l : Int)), (2, .inl hx82r), (3, .inl (-1))]) (st' := []) rfl ?_
                  refine h_run 1 (pc' := 190) (l' := [(0, .inr (.inr 1826)), (1, .inl (l : Int)), (2, .inl hx82r), (3, .inl (-1))]) (st' := [.inr (.inr 1826)]) rfl ?_
                  have g328 : -2147483648 ≤ (H324.1 1826 35) ∧ (H324.1 1826 35) ≤ 2147483647 := hrg325.1 1826 13 35 _ .int rfl rfl
                  have e329 : (H324.1 1826 35) = (H314.1 1826 35) := hx324f.2.2 35 (by decide)
                  refine h_cv (i := 293) (j := 158) (b := 1826) (M' := mt_158) (xs := []) (rest := []) rfl rfl rfl rfl rfl rfl (Nat.le_of_ble_eq_true rfl) (Nat.le_of_ble_eq_true rfl) (by omega) (m_good0 (by omega) (by omega : (H324.1 1826 35) ≠ 0)) ?_
                  rintro _ _ ⟨rfl, rfl⟩
                  refine h_run 0 (pc' := 193) (l' := [(0, .inr (.inr 1826)), (1, .inl (l : Int)), (2, .inl hx82r), (3, .inl (-1))]) (st' := [.inl 0]) rfl ?_
                  refine h_zeq (off := 83) (t := 276) rfl rfl (by decide) (fun _ => ?_) (fun c => absurd c (by decide))
                  refine h_ret rfl rfl ?_
                  have g330 : -2147483648 ≤ (H324.1 1826 30) ∧ (H324.1 1826 30) ≤ 2147483647 := hrg325.1 1826 13 30 _ .int rfl rfl
                  have e331 : (H324.1 1826 30) = (H314.1 1826 30) := hx324f.2.2 30 (by decide)
                  have g332 : -2147483648 ≤ (H324.1 1826 32) ∧ (H324.1 1826 32) ≤ 2147483647 := hrg325.1 1826 13 32 _ .int rfl rfl
                  have e333 : (H324.1 1826 32) = (H314.1 1826 32) := hx324f.2.2 32 (by decide)
                  have g334 : -2147483648 ≤ (H324.1 1826 31) ∧ (H324.1 1826 31) ≤ 2147483647 := hrg325.1 1826 13 31 _ .int rfl rfl
                  have e335 : (H324.1 1826 31) = (H314.1 1826 31) := hx324f.2.2 31 (by decide)
                  have g336 : -2147483648 ≤ (H324.1 1826 29) ∧ (H324.1 1826 29) ≤ 2147483647 := hrg325.1 1826 13 29 _ .int rfl rfl
                  have e337 : (H324.1 1826 29) = (H314.1 1826 29) := hx324f.2.2 29 (by decide)
                  have e338 : (H314.1 1826 29) = (H301.1 1826 29) := hx314f.2.2 29 (by decide)
                  have g339 : -2147483648 ≤ (H324.1 1826 1) ∧ (H324.1 1826 1) ≤ 2147483647 := hrg325.1 1826 13 1 _ .int rfl rfl
                  have e340 : (H324.1 1826 1) = (H314.1 1826 1) := hx324f.2.2 1 (by decide)
                  have e341 : (H314.1 1826 1) = (H301.1 1826 1) := hx314f.2.2 1 (by decide)
                  have e342 : (H301.1 1826 1) = (H82.1 1826 1) := hx301f.2.2 1 (by decide)
                  have e343 : (H82.1 1826 1) = (H68.1 1826 1) := hx82f.2.2 1 (by decide)
                  have g344 : -2147483648 ≤ (H324.1 1826 3) ∧ (H324.1 1826 3) ≤ 2147483647 := hrg325.1 1826 13 3 _ .int rfl rfl
                  have e345 : (H324.1 1826 3) = (H314.1 1826 3) := hx324f.2.2 3 (by decide)
                  have e346 : (H314.1 1826 3) = (H301.1 1826 3) := hx314f.2.2 3 (by decide)
                  have e347 : (H301.1 1826 3) = (H82.1 1826 3) := hx301f.2.2 3 (by decide)
                  have e348 : (H82.1 1826 3) = (H68.1 1826 3) := hx82f.2.2 3 (by decide)
                  have g349 : -2147483648 ≤ (H324.1 1826 8) ∧ (H324.1 1826 8) ≤ 2147483647 := hrg325.1 1826 13 8 _ .int rfl rfl
                  have e350 : (H324.1 1826 8) = (H314.1 1826 8) := hx324f.2.2 8 (by decide)
                  have e351 : (H314.1 1826 8) = (H301.1 1826 8) := hx314f.2.2 8 (by decide)
                  have e352 : (H301.1 1826 8) = (H82.1 1826 8) := hx301f.2.2 8 (by decide)
                  have e353 : (H82.1 1826 8) = (H68.1 1826 8) := hx82f.2.2 8 (by decide)
                  have g354 : -2147483648 ≤ (H324.1 1826 13) ∧ (H324.1 1826 13) ≤ 2147483647 := hrg325.1 1826 13 13 _ .int rfl rfl
                  have e355 : (H324.1 1826 13) = (H314.1 1826 13) := hx324f.2.2 13 (by decide)
                  have e356 : (H314.1 1826 13) = (H301.1 1826 13) := hx314f.2.2 13 (by decide)
                  have e357 : (H301.1 1826 13) = (H82.1 1826 13) := hx301f.2.2 13 (by decide)
                  have e358 : (H82.1 1826 13) = (H68.1 1826 13) := hx82f.2.2 13 (by decide)
                  have g359 : -2147483648 ≤ (H324.1 1826 19) ∧ (H324.1 1826 19) ≤ 2147483647 := hrg325.1 1826 13 19 _ .int rfl rfl
                  have e360 : (H324.1 1826 19) = (H314.1 1826 19) := hx324f.2.2 19 (by decide)
                  have g361 : -2147483648 ≤ (H324.1 1826 39) ∧ (H324.1 1826 39) ≤ 2147483647 := hrg325.1 1826 13 39 _ .int rfl rfl
                  have e362 : (H324.1 1826 39) = (H314.1 1826 39) := hx324f.2.2 39 (by decide)
                  have e363 : (H314.1 1826 39) = (H301.1 1826 39) := hx314f.2.2 39 (by decide)
                  have e364 : (H301.1 1826 39) = (H82.1 1826 39) := hx301f.2.2 39 (by decide)
                  exact ⟨rfl, hf326, (by omega : (H.1 1826 30) ≤ (H324.1 1826 30) ∧ (H324.1 1826 30) ≤ (H.1 1826 29)), (by omega : 0 ≤ (H324.1 1826 35) ∧ (H324.1 1826 35) ≤ 5), (by omega : (H.1 1826 35) ≠ 0 → (H324.1 1826 35) ≠ 0), (by omega : 0 ≤ (H324.1 1826 32) ∧ (H324.1 1826 32) ≤ 1000), ha327, (fun (q : (H324.1 1826 35) = 0) => absurd q (by omega))⟩
              · skip
                clear hx68g
                refine h_run 1 (pc' := 110) (l' := [(0, .inr (.inr 1826)), (1, .inl (l : Int))]) (st' := [.inr (.inr 1826)]) rfl ?_
                refine h_cv (i := 379) (j := 185) (b := 1826) (M' := mt_185) (xs := []) (rest := []) rfl rfl rfl rfl rfl rfl (Nat.le_of_ble_eq_true rfl) (Nat.le_of_ble_eq_true rfl) (by omega) (m_beginTerm (by omega)) ?_
                rintro _ _ ⟨rfl, rfl⟩
                refine h_run 0 (pc' := 113) (l' := [(0, .inr (.inr 1826)), (1, .inl (l : Int))]) (st' := []) rfl ?_
                refine h_run 2 (pc' := 115) (l' := [(0, .inr (.inr 1826)), (1, .inl (l : Int))]) (st' := [.inl 2, .inr (.inr 1826)]) rfl ?_
                refine h_puti (i := 367) (ci := 13) (k := 44) (a := 1826) (x := 2) rfl rfl rfl rfl rfl rfl (by decide) (by decide) ?_
                refine h_run 1 (pc' := 119) (l' := [(0, .inr (.inr 1826)), (1, .inl (l : Int))]) (st' := [.inr (.inr 1826)]) rfl ?_
                refine h_cv (i := 293) (j := 158) (b := 1826) (M' := mt_158) (xs := []) (rest := []) rfl rfl rfl rfl rfl rfl (Nat.le_of_ble_eq_true rfl) (Nat.le_of_ble_eq_true rfl) (by omega) (m_good0 (by omega) (by omega : (H68.1 1826 35) ≠ 0)) ?_
                rintro _ _ ⟨rfl, rfl⟩
                refine h_run 0 (pc' := 122) (l' := [(0, .inr (.inr 1826)), (1, .inl (l : Int))]) (st' := [.inl 0]) rfl ?_
                refine h_zeq (off := 11) (t := 133) rfl rfl (by decide) (fun _ => ?_) (fun c => absurd c (by decide))
                refine h_run 1 (pc' := 134) (l' := [(0, .inr (.inr 1826)), (1, .inl (l : Int))]) (st' := [.inl (-1)]) rfl ?_
                refine h_run 5 (pc' := 139) (l' := [(0, .inr (.inr 1826)), (1, .inl (l : Int)), (2, .inl (-1))]) (st' := [.inl (2 * (l : Int)), .inr (.inr 1826)]) rfl ?_
                have g365 : -2147483648 ≤ (H68.1 1826 19) ∧ (H68.1 1826 19) ≤ 2147483647 := hrg70.1 1826 13 19 _ .int rfl rfl
                have e366 : (H68.1 1826 19) = (H58.1 1826 19) := hx68f.2.2 19 (by decide)
                have e367 : (H58.1 1826 19) = (H39.1 1826 19) := hx58f.2.2 19 (by decide)
                rw [show (2 * (l : Int)) = ((2 * l : Nat) : Int) by omega]
                refine h_cv (i := 390) (j := 188) (b := 1826) (M' := mt_188) (xs := [.inl ((2 * l : Nat) : Int)]) (rest := []) rfl rfl rfl rfl rfl rfl (Nat.le_of_ble_eq_true rfl) (Nat.le_of_ble_eq_true rfl) (by omega) (m_keepSide (by omega) (s := 2 * l) (by omega : 2 * (H68.1 1826 19) ≤ ((2 * l : Nat) : Int) ∧ 2 * l ≤ 31) (by omega : (H68.1 1826 35) = 0 → 0 ≤ (0 : Int) ∧ (0 : Int) ≤ 40)) ?_
                rintro _ H368 ⟨rfl, hx368f, hx368g, hx368z, hx368b, hx368c⟩
                refine h_rng (fun hrg369 => ?_)
                have hf370 : fr [30, 31, 32, 33, 35, 36, 19, 39, 40, 41, 43, 44, 47] [1841, 1842, 1843, 1844, 1845, 1846, 1847, 1849, 1850, 1851, 1852, 1853, 1854] H H368 := fr_t (fr_o (fr_o (fr_o (fr_o (fr_o hf71 (by decide)) (by decide)) (by decide)) (by decide)) (by decide)) hx368f (by decide) (by decide)
                have ha371 : agp H H368 := agp_tr (agp_o (agp_o (agp_o (agp_o (agp_o ha72 (by decide)) (by decide)) (by decide)) (by decide)) (by decide)) hx368g
                replace hx368c : hid _ := hx368c
                refine h_run 0 (pc' := 142) (l' := [(0, .inr (.inr 1826)), (1, .inl (l : Int)), (2, .inl (-1))]) (st' := []) rfl ?_
                refine h_run 2 (pc' := 145) (l' := [(0, .inr (.inr 1826)), (1, .inl (l : Int)), (2, .inl (-1))]) (st' := [.inl 61, .inr (.inr 1826)]) rfl ?_
                have g372 : -2147483648 ≤ (H368.1 1826 30) ∧ (H368.1 1826 30) ≤ 2147483647 := hrg369.1 1826 13 30 _ .int rfl rfl
                have e373 : (H368.1 1826 30) = (H68.1 1826 30) := hx368f.2.2 30 (by decide)
                have g374 : -2147483648 ≤ (H368.1 1826 29) ∧ (H368.1 1826 29) ≤ 2147483647 := hrg369.1 1826 13 29 _ .int rfl rfl
                have e375 : (H368.1 1826 29) = (H68.1 1826 29) := hx368f.2.2 29 (by decide)
                have e376 : (H68.1 1826 29) = (H58.1 1826 29) := hx68f.2.2 29 (by decide)
                have g377 : -2147483648 ≤ (H368.1 1826 35) ∧ (H368.1 1826 35) ≤ 2147483647 := hrg369.1 1826 13 35 _ .int rfl rfl
                have e378 : (H368.1 1826 35) = (H68.1 1826 35) := hx368f.2.2 35 (by decide)
                have g379 : -2147483648 ≤ (H368.1 1826 31) ∧ (H368.1 1826 31) ≤ 2147483647 := hrg369.1 1826 13 31 _ .int rfl rfl
                have e380 : (H368.1 1826 31) = (H68.1 1826 31) := hx368f.2.2 31 (by decide)
                have g382 : -2147483648 ≤ (H368.1 1826 32) ∧ (H368.1 1826 32) ≤ 2147483647 := hrg369.1 1826 13 32 _ .int rfl rfl
                have e383 : (H368.1 1826 32) = (H68.1 1826 32) := hx368f.2.2 32 (by decide)
                refine h_cv (i := 313) (j := 166) (b := 1826) (M' := mt_166) (xs := [.inl 61]) (rest := []) rfl rfl rfl rfl rfl rfl (Nat.le_of_ble_eq_true rfl) (Nat.le_of_ble_eq_true rfl) (by omega) (m_want (by omega) (by omega : 0 ≤ (H368.1 1826 30) ∧ (H368.1 1826 30) ≤ (H368.1 1826 29) ∧ (H368.1 1826 29) ≤ 1000) (by omega : 0 ≤ (H368.1 1826 35) ∧ (H368.1 1826 35) ≤ 5) (by omega : 0 ≤ (H368.1 1826 32) ∧ (H368.1 1826 32) ≤ 1000) (by omega)) ?_
                rintro _ H381 ⟨rfl, hx381f, hx381a, hx381b, hx381c, hx381d, hx381e, hx381g⟩
                refine h_rng (fun hrg384 => ?_)
                have hf385 : fr [30, 31, 32, 33, 35, 36, 19, 39, 40, 41, 43, 44, 47] [1841, 1842, 1843, 1844, 1845, 1846, 1847, 1849, 1850, 1851, 1852, 1853, 1854] H H381 := fr_t hf370 hx381f (by decide) (by decide)
                have ha386 : agp H H381 := agp_tr ha371 (agp_fr hx381f (by decide) (by decide))
                replace hx381a : (H368.1 1826 30) ≤ (H381.1 1826 30) := hx381a
                replace hx381b : (H381.1 1826 30) ≤ (H368.1 1826 29) := hx381b
                replace hx381d : (H381.1 1826 35) = (H368.1 1826 35) := hx381d (by omega : (H368.1 1826 35) ≠ 0)
                replace hx381g : (H381.1 1826 35) = 0 → (H368.1 1826 31) = (61 : Int) ∧ ((H381.1 1826 31) = 0 ∨ (H368.1 1826 30) < (H381.1 1826 30)) := hx381g
                refine h_run 0 (pc' := 148) (l' := [(0, .inr (.inr 1826)), (1, .inl (l : Int)), (2, .inl (-1))]) (st' := []) rfl ?_
                refine h_run 2 (pc' := 150) (l' := [(0, .inr (.inr 1826)), (1, .inl (l : Int)), (2, .inl (-1))]) (st' := [.inl 0, .inr (.inr 1826)]) rfl ?_
                refine h_puti (i := 300) (ci := 13) (k := 40) (a := 1826) (x := 0) rfl rfl rfl rfl rfl rfl (by decide) (by decide) ?_
                refine h_run 2 (pc' := 155) (l' := [(0, .inr (.inr 1826)), (1, .inl (l : Int)), (2, .inl (-1))]) (st' := [.inl 0, .inr (.inr 1826)]) rfl ?_
                refine h_puti (i := 335) (ci := 13) (k := 41) (a := 1826) (x := 0) rfl rfl rfl rfl rfl rfl (by decide) (by decide) ?_
                refine h_run 2 (pc' := 160) (l' := [(0, .inr (.inr 1826)), (1, .inl (l : Int)), (2, .inl (-1))]) (st' := [.inl 0, .inr (.inr 1826)]) rfl ?_
                refine h_puti (i := 303) (ci := 13) (k := 43) (a := 1826) (x := 0) rfl rfl rfl rfl rfl rfl (by decide) (by decide) ?_
                refine h_run 1 (pc' := 164) (l' := [(0, .inr (.inr 1826)), (1, .inl (l : Int)), (2, .inl (-1))]) (st' := [.inr (.inr 1826)]) rfl ?_
                have g387 : -2147483648 ≤ (H381.1 1826 35) ∧ (H381.1 1826 35) ≤ 2147483647 := hrg384.1 1826 13 35 _ .int rfl rfl
                refine h_cv (i := 293) (j := 158) (b := 1826) (M' := mt_158) (xs := []) (rest := []) rfl rfl rfl rfl rfl rfl (Nat.le_of_ble_eq_true rfl) (Nat.le_of_ble_eq_true rfl) (by omega) (m_good0 (by omega) (by omega : (H381.1 1826 35) ≠ 0)) ?_
                rintro _ _ ⟨rfl, rfl⟩
                refine h_run 0 (pc' := 167) (l' := [(0, .inr (.inr 1826)), (1, .inl (l : Int)), (2, .inl (-1))]) (st' := [.inl 0]) rfl ?_
                refine h_zeq (off := 11) (t := 178) rfl rfl (by decide) (fun _ => ?_) (fun c => absurd c (by decide))
                refine h_run 1 (pc' := 179) (l' := [(0, .inr (.inr 1826)), (1, .inl (l : Int)), (2, .inl (-1))]) (st' := [.inl (-1)]) rfl ?_
                refine h_run 7 (pc' := 186) (l' := [(0, .inr (.inr 1826)), (1, .inl (l : Int)), (2, .inl (-1)), (3, .inl (-1))]) (st' := [.inl ((2 * (l : Int)) + 1), .inr (.inr 1826)]) rfl ?_
                have g388 : -2147483648 ≤ (H381.1 1826 19) ∧ (H381.1 1826 19) ≤ 2147483647 := hrg384.1 1826 13 19 _ .int rfl rfl
                have e389 : (H381.1 1826 19) = (H368.1 1826 19) := hx381f.2.2 19 (by decide)
                have e390 : (H368.1 1826 19) = (H68.1 1826 19) := hx368f.2.2 19 (by decide)
                rw [show ((2 * (l : Int)) + 1) = ((2 * l + 1 : Nat) : Int) by omega]
                refine h_cv (i := 390) (j := 188) (b := 1826) (M' := mt_188) (xs := [.inl ((2 * l + 1 : Nat) : Int)]) (rest := []) rfl rfl rfl rfl rfl rfl (Nat.le_of_ble_eq_true rfl) (Nat.le_of_ble_eq_true rfl) (by omega) (m_keepSide (by omega) (s := 2 * l + 1) (by omega : 2 * (H381.1 1826 19) ≤ ((2 * l + 1 : Nat) : Int) ∧ 2 * l + 1 ≤ 31) (by omega : (H381.1 1826 35) = 0 → 0 ≤ (0 : Int) ∧ (0 : Int) ≤ 40)) ?_
                rintro _ H391 ⟨rfl, hx391f, hx391g, hx391z, hx391b, hx391c⟩
                refine h_rng (fun hrg392 => ?_)
                have hf393 : fr [30, 31, 32, 33, 35, 36, 19, 39, 40, 41, 43, 44, 47] [1841, 1842, 1843, 1844, 1845, 1846, 1847, 1849, 1850, 1851, 1852, 1853, 1854] H H391 := fr_t (fr_o (fr_o (fr_o hf385 (by decide)) (by decide)) (by decide)) hx391f (by decide) (by decide)
                have ha394 : agp H H391 := agp_tr (agp_o (agp_o (agp_o ha386 (by decide)) (by decide)) (by decide)) hx391g
                replace hx391c : hid _ := hx391c
                refine h_run 0 (pc' := 189) (l' := [(0, .inr (.inr 1826)), (1, .inl (l : Int)), (2, .inl (-1)), (3, .inl (-1))]) (st' := []) rfl ?_
                refine h_run 1 (pc' := 190) (l' := [(0, .inr (.inr 1826)), (1, .inl (l : Int)), (2, .inl (-1)), (3, .inl (-1))]) (st' := [.inr (.inr 1826)]) rfl ?_
                have g395 : -2147483648 ≤ (H391.1 1826 35) ∧ (H391.1 1826 35) ≤ 2147483647 := hrg392.1 1826 13 35 _ .int rfl rfl
                have e396 : (H391.1 1826 35) = (H381.1 1826 35) := hx391f.2.2 35 (by decide)
                refine h_cv (i := 293) (j := 158) (b := 1826) (M' := mt_158) (xs := []) (rest := []) rfl rfl rfl rfl rfl rfl (Nat.le_of_ble_eq_true rfl) (Nat.le_of_ble_eq_true rfl) (by omega) (m_good0 (by omega) (by omega : (H391.1 1826 35) ≠ 0)) ?_
                rintro _ _ ⟨rfl, rfl⟩
                refine h_run 0 (pc' := 193) (l' := [(0, .inr (.inr 1826)), (1, .inl (l : Int)), (2, .inl (-1)), (3, .inl (-1))]) (st' := [.inl 0]) rfl ?_
                refine h_zeq (off := 83) (t := 276) rfl rfl (by decide) (fun _ => ?_) (fun c => absurd c (by decide))
                refine h_ret rfl rfl ?_
                have g397 : -2147483648 ≤ (H391.1 1826 30) ∧ (H391.1 1826 30) ≤ 2147483647 := hrg392.1 1826 13 30 _ .int rfl rfl
                have e398 : (H391.1 1826 30) = (H381.1 1826 30) := hx391f.2.2 30 (by decide)
                have g399 : -2147483648 ≤ (H391.1 1826 32) ∧ (H391.1 1826 32) ≤ 2147483647 := hrg392.1 1826 13 32 _ .int rfl rfl
                have e400 : (H391.1 1826 32) = (H381.1 1826 32) := hx391f.2.2 32 (by decide)
                have g401 : -2147483648 ≤ (H391.1 1826 31) ∧ (H391.1 1826 31) ≤ 2147483647 := hrg392.1 1826 13 31 _ .int rfl rfl
                have e402 : (H391.1 1826 31) = (H381.1 1826 31) := hx391f.2.2 31 (by decide)
                have g403 : -2147483648 ≤ (H391.1 1826 29) ∧ (H391.1 1826 29) ≤ 2147483647 := hrg392.1 1826 13 29 _ .int rfl rfl
                have e404 : (H391.1 1826 29) = (H381.1 1826 29) := hx391f.2.2 29 (by decide)
                have e405 : (H381.1 1826 29) = (H368.1 1826 29) := hx381f.2.2 29 (by decide)
                have g406 : -2147483648 ≤ (H391.1 1826 1) ∧ (H391.1 1826 1) ≤ 2147483647 := hrg392.1 1826 13 1 _ .int rfl rfl
                have e407 : (H391.1 1826 1) = (H381.1 1826 1) := hx391f.2.2 1 (by decide)
                have e408 : (H381.1 1826 1) = (H368.1 1826 1) := hx381f.2.2 1 (by decide)
                have e409 : (H368.1 1826 1) = (H68.1 1826 1) := hx368f.2.2 1 (by decide)
                have e410 : (H68.1 1826 1) = (H58.1 1826 1) := hx68f.2.2 1 (by decide)
                have e411 : (H58.1 1826 1) = (H39.1 1826 1) := hx58f.2.2 1 (by decide)
                have e412 : (H39.1 1826 1) = (H.1 1826 1) := hx39f.2.2 1 (by decide)
                have g413 : -2147483648 ≤ (H391.1 1826 3) ∧ (H391.1 1826 3) ≤ 2147483647 := hrg392.1 1826 13 3 _ .int rfl rfl
                have e414 : (H391.1 1826 3) = (H381.1 1826 3) := hx391f.2.2 3 (by decide)
                have e415 : (H381.1 1826 3) = (H368.1 1826 3) := hx381f.2.2 3 (by decide)
                have e416 : (H368.1 1826 3) = (H68.1 1826 3) := hx368f.2.2 3 (by decide)
                have e417 : (H68.1 1826 3) = (H58.1 1826 3) := hx68f.2.2 3 (by decide)
                have e418 : (H58.1 1826 3) = (H39.1 1826 3) := hx58f.2.2 3 (by decide)
                have e419 : (H39.1 1826 3) = (H.1 1826 3) := hx39f.2.2 3 (by decide)
                have g420 : -2147483648 ≤ (H391.1 1826 8) ∧ (H391.1 1826 8) ≤ 2147483647 := hrg392.1 1826 13 8 _ .int rfl rfl
                have e421 : (H391.1 1826 8) = (H381.1 1826 8) := hx391f.2.2 8 (by decide)
                have e422 : (H381.1 1826 8) = (H368.1 1826 8) := hx381f.2.2 8 (by decide)
                have e423 : (H368.1 1826 8) = (H68.1 1826 8) := hx368f.2.2 8 (by decide)
                have e424 : (H68.1 1826 8) = (H58.1 1826 8) := hx68f.2.2 8 (by decide)
                have e425 : (H58.1 1826 8) = (H39.1 1826 8) := hx58f.2.2 8 (by decide)
                have e426 : (H39.1 1826 8) = (H.1 1826 8) := hx39f.2.2 8 (by decide)
                have g427 : -2147483648 ≤ (H391.1 1826 13) ∧ (H391.1 1826 13) ≤ 2147483647 := hrg392.1 1826 13 13 _ .int rfl rfl
                have e428 : (H391.1 1826 13) = (H381.1 1826 13) := hx391f.2.2 13 (by decide)
                have e429 : (H381.1 1826 13) = (H368.1 1826 13) := hx381f.2.2 13 (by decide)
                have e430 : (H368.1 1826 13) = (H68.1 1826 13) := hx368f.2.2 13 (by decide)
                have e431 : (H68.1 1826 13) = (H58.1 1826 13) := hx68f.2.2 13 (by decide)
                have e432 : (H58.1 1826 13) = (H39.1 1826 13) := hx58f.2.2 13 (by decide)
                have e433 : (H39.1 1826 13) = (H.1 1826 13) := hx39f.2.2 13 (by decide)
                have g434 : -2147483648 ≤ (H391.1 1826 19) ∧ (H391.1 1826 19) ≤ 2147483647 := hrg392.1 1826 13 19 _ .int rfl rfl
                have e435 : (H391.1 1826 19) = (H381.1 1826 19) := hx391f.2.2 19 (by decide)
                have g436 : -2147483648 ≤ (H391.1 1826 39) ∧ (H391.1 1826 39) ≤ 2147483647 := hrg392.1 1826 13 39 _ .int rfl rfl
                have e437 : (H391.1 1826 39) = (H381.1 1826 39) := hx391f.2.2 39 (by decide)
                have e438 : (H381.1 1826 39) = (H368.1 1826 39) := hx381f.2.2 39 (by decide)
                have e439 : (H368.1 1826 39) = 0 := hx368f.2.2 39 (by decide)
                exact ⟨rfl, hf393, (by omega : (H.1 1826 30) ≤ (H391.1 1826 30) ∧ (H391.1 1826 30) ≤ (H.1 1826 29)), (by omega : 0 ≤ (H391.1 1826 35) ∧ (H391.1 1826 35) ≤ 5), (by omega : (H.1 1826 35) ≠ 0 → (H391.1 1826 35) ≠ 0), (by omega : 0 ≤ (H391.1 1826 32) ∧ (H391.1 1826 32) ≤ 1000), ha394, (fun (q : (H391.1 1826 35) = 0) => absurd q (by omega))⟩
            · skip
              clear hx58g
              refine h_run 2 (pc' := 106) (l' := [(0, .inr (.inr 1826)), (1, .inl (l : Int))]) (st' := [.inl 58, .inr (.inr 1826)]) rfl ?_
              have g440 : -2147483648 ≤ (H58.1 1826 30) ∧ (H58.1 1826 30) ≤ 2147483647 := hrg59.1 1826 13 30 _ .int rfl rfl
              have g441 : -2147483648 ≤ (H58.1 1826 29) ∧ (H58.1 1826 29) ≤ 2147483647 := hrg59.1 1826 13 29 _ .int rfl rfl
              have e442 : (H58.1 1826 29) = (H39.1 1826 29) := hx58f.2.2 29 (by decide)
              have g443 : -2147483648 ≤ (H58.1 1826 31) ∧ (H58.1 1826 31) ≤ 2147483647 := hrg59.1 1826 13 31 _ .int rfl rfl
              have g445 : -2147483648 ≤ (H58.1 1826 32) ∧ (H58.1 1826 32) ≤ 2147483647 := hrg59.1 1826 13 32 _ .int rfl rfl
              refine h_cv (i := 313) (j := 166) (b := 1826) (M' := mt_166) (xs := [.inl 58]) (rest := []) rfl rfl rfl rfl rfl rfl (Nat.le_of_ble_eq_true rfl) (Nat.le_of_ble_eq_true rfl) (by omega) (m_want (by omega) (by omega : 0 ≤ (H58.1 1826 30) ∧ (H58.1 1826 30) ≤ (H58.1 1826 29) ∧ (H58.1 1826 29) ≤ 1000) (by omega : 0 ≤ (H58.1 1826 35) ∧ (H58.1 1826 35) ≤ 5) (by omega : 0 ≤ (H58.1 1826 32) ∧ (H58.1 1826 32) ≤ 1000) (by omega)) ?_
              rintro _ H444 ⟨rfl, hx444f, hx444a, hx444b, hx444c, hx444d, hx444e, hx444g⟩
              refine h_rng (fun hrg446 => ?_)
              have hf447 : fr [30, 31, 32, 33, 35, 36, 19, 39, 40, 41, 43, 44, 47] [1841, 1842, 1843, 1844, 1845, 1846, 1847, 1849, 1850, 1851, 1852, 1853, 1854] H H444 := fr_t hf60 hx444f (by decide) (by decide)
              have ha448 : agp H H444 := agp_tr ha61 (agp_fr hx444f (by decide) (by decide))
              replace hx444a : (H58.1 1826 30) ≤ (H444.1 1826 30) := hx444a
              replace hx444b : (H444.1 1826 30) ≤ (H58.1 1826 29) := hx444b
              replace hx444d : (H444.1 1826 35) = (H58.1 1826 35) := hx444d (by omega : (H58.1 1826 35) ≠ 0)
              replace hx444g : (H444.1 1826 35) = 0 → (H58.1 1826 31) = (58 : Int) ∧ ((H444.1 1826 31) = 0 ∨ (H58.1 1826 30) < (H444.1 1826 30)) := hx444g
              refine h_run 0 (pc' := 109) (l' := [(0, .inr (.inr 1826)), (1, .inl (l : Int))]) (st' := []) rfl ?_
              refine h_run 1 (pc' := 110) (l' := [(0, .inr (.inr 1826)), (1, .inl (l : Int))]) (st' := [.inr (.inr 1826)]) rfl ?_
              refine h_cv (i := 379) (j := 185) (b := 1826) (M' := mt_185) (xs := []) (rest := []) rfl rfl rfl rfl rfl rfl (Nat.le_of_ble_eq_true rfl) (Nat.le_of_ble_eq_true rfl) (by omega) (m_beginTerm (by omega)) ?_
              rintro _ _ ⟨rfl, rfl⟩
              refine h_run 0 (pc' := 113) (l' := [(0, .inr (.inr 1826)), (1, .inl (l : Int))]) (st' := []) rfl ?_
              refine h_run 2 (pc' := 115) (l' := [(0, .inr (.inr 1826)), (1, .inl (l : Int))]) (st' := [.inl 2, .inr (.inr 1826)]) rfl ?_
              refine h_puti (i := 367) (ci := 13) (k := 44) (a := 1826) (x := 2) rfl rfl rfl rfl rfl rfl (by decide) (by decide) ?_
              refine h_run 1 (pc' := 119) (l' := [(0, .inr (.inr 1826)), (1, .inl (l : Int))]) (st' := [.inr (.inr 1826)]) rfl ?_
              have g449 : -2147483648 ≤ (H444.1 1826 35) ∧ (H444.1 1826 35) ≤ 2147483647 := hrg446.1 1826 13 35 _ .int rfl rfl
              refine h_cv (i := 293) (j := 158) (b := 1826) (M' := mt_158) (xs := []) (rest := []) rfl rfl rfl rfl rfl rfl (Nat.le_of_ble_eq_true rfl) (Nat.le_of_ble_eq_true rfl) (by omega) (m_good0 (by omega) (by omega : (H444.1 1826 35) ≠ 0)) ?_
              rintro _ _ ⟨rfl, rfl⟩
              refine h_run 0 (pc' := 122) (l' := [(0, .inr (.inr 1826)), (1, .inl (l : Int))]) (st' := [.inl 0]) rfl ?_
              refine h_zeq (off := 11) (t := 133) rfl rfl (by decide) (fun _ => ?_) (fun c => absurd c (by decide))
              refine h_run 1 (pc' := 134) (l' := [(0, .inr (.inr 1826)), (1, .inl (l : Int))]) (st' := [.inl (-1)]) rfl ?_
              refine h_run 5 (pc' := 139) (l' := [(0, .inr (.inr 1826)), (1, .inl (l : Int)), (2, .inl (-1))]) (st' := [.inl (2 * (l : Int)), .inr (.inr 1826)]) rfl ?_
              have g450 : -2147483648 ≤ (H444.1 1826 19) ∧ (H444.1 1826 19) ≤ 2147483647 := hrg446.1 1826 13 19 _ .int rfl rfl
              have e451 : (H444.1 1826 19) = (H58.1 1826 19) := hx444f.2.2 19 (by decide)
              have e452 : (H58.1 1826 19) = (H39.1 1826 19) := hx58f.2.2 19 (by decide)
              rw [show (2 * (l : Int)) = ((2 * l : Nat) : Int) by omega]
              refine h_cv (i := 390) (j := 188) (b := 1826) (M' := mt_188) (xs := [.inl ((2 * l : Nat) : Int)]) (rest := []) rfl rfl rfl rfl rfl rfl (Nat.le_of_ble_eq_true rfl) (Nat.le_of_ble_eq_true rfl) (by omega) (m_keepSide (by omega) (s := 2 * l) (by omega : 2 * (H444.1 1826 19) ≤ ((2 * l : Nat) : Int) ∧ 2 * l ≤ 31) (by omega : (H444.1 1826 35) = 0 → 0 ≤ (0 : Int) ∧ (0 : Int) ≤ 40)) ?_
              rintro _ H453 ⟨rfl, hx453f, hx453g, hx453z, hx453b, hx453c⟩
              refine h_rng (fun hrg454 => ?_)
              have hf455 : fr [30, 31, 32, 33, 35, 36, 19, 39, 40, 41, 43, 44, 47] [1841, 1842, 1843, 1844, 1845, 1846, 1847, 1849, 1850, 1851, 1852, 1853, 1854] H H453 := fr_t (fr_o (fr_o (fr_o (fr_o (fr_o hf447 (by decide)) (by decide)) (by decide)) (by decide)) (by decide)) hx453f (by decide) (by decide)
              have ha456 : agp H H453 := agp_tr (agp_o (agp_o (agp_o (agp_o (agp_o ha448 (by decide)) (by decide)) (by decide)) (by decide)) (by decide)) hx453g
              replace hx453c : hid _ := hx453c
              refine h_run 0 (pc' := 142) (l' := [(0, .inr (.inr 1826)), (1, .inl (l : Int)), (2, .inl (-1))]) (st' := []) rfl ?_
              refine h_run 2 (pc' := 145) (l' := [(0, .inr (.inr 1826)), (1, .inl (l : Int)), (2, .inl (-1))]) (st' := [.inl 61, .inr (.inr 1826)]) rfl ?_
              have g457 : -2147483648 ≤ (H453.1 1826 30) ∧ (H453.1 1826 30) ≤ 2147483647 := hrg454.1 1826 13 30 _ .int rfl rfl
              have e458 : (H453.1 1826 30) = (H444.1 1826 30) := hx453f.2.2 30 (by decide)
              have g459 : -2147483648 ≤ (H453.1 1826 29) ∧ (H453.1 1826 29) ≤ 2147483647 := hrg454.1 1826 13 29 _ .int rfl rfl
              have e460 : (H453.1 1826 29) = (H444.1 1826 29) := hx453f.2.2 29 (by decide)
              have e461 : (H444.1 1826 29) = (H58.1 1826 29) := hx444f.2.2 29 (by decide)
              have g462 : -2147483648 ≤ (H453.1 1826 35) ∧ (H453.1 1826 35) ≤ 2147483647 := hrg454.1 1826 13 35 _ .int rfl rfl
              have e463 : (H453.1 1826 35) = (H444.1 1826 35) := hx453f.2.2 35 (by decide)
              have g464 : -2147483648 ≤ (H453.1 1826 31) ∧ (H453.1 1826 31) ≤ 2147483647 := hrg454.1 1826 13 31 _ .int rfl rfl
              have e465 : (H453.1 1826 31) = (H444.1 1826 31) := hx453f.2.2 31 (by decide)
              have g467 : -2147483648 ≤ (H453.1 1826 32) ∧ (H453.1 1826 32) ≤ 2147483647 := hrg454.1 1826 13 32 _ .int rfl rfl
              have e468 : (H453.1 1826 32) = (H444.1 1826 32) := hx453f.2.2 32 (by decide)
              refine h_cv (i := 313) (j := 166) (b := 1826) (M' := mt_166) (xs := [.inl 61]) (rest := []) rfl rfl rfl rfl rfl rfl (Nat.le_of_ble_eq_true rfl) (Nat.le_of_ble_eq_true rfl) (by omega) (m_want (by omega) (by omega : 0 ≤ (H453.1 1826 30) ∧ (H453.1 1826 30) ≤ (H453.1 1826 29) ∧ (H453.1 1826 29) ≤ 1000) (by omega : 0 ≤ (H453.1 1826 35) ∧ (H453.1 1826 35) ≤ 5) (by omega : 0 ≤ (H453.1 1826 32) ∧ (H453.1 1826 32) ≤ 1000) (by omega)) ?_
              rintro _ H466 ⟨rfl, hx466f, hx466a, hx466b, hx466c, hx466d, hx466e, hx466g⟩
              refine h_rng (fun hrg469 => ?_)
              have hf470 : fr [30, 31, 32, 33, 35, 36, 19, 39, 40, 41, 43, 44, 47] [1841, 1842, 1843, 1844, 1845, 1846, 1847, 1849, 1850, 1851, 1852, 1853, 1854] H H466 := fr_t hf455 hx466f (by decide) (by decide)
              have ha471 : agp H H466 := agp_tr ha456 (agp_fr hx466f (by decide) (by decide))
              replace hx466a : (H453.1 1826 30) ≤ (H466.1 1826 30) := hx466a
              replace hx466b : (H466.1 1826 30) ≤ (H453.1 1826 29) := hx466b
              replace hx466d : (H466.1 1826 35) = (H453.1 1826 35) := hx466d (by omega : (H453.1 1826 35) ≠ 0)
              replace hx466g : (H466.1 1826 35) = 0 → (H453.1 1826 31) = (61 : Int) ∧ ((H466.1 1826 31) = 0 ∨ (H453.1 1826 30) < (H466.1 1826 30)) := hx466g
              refine h_run 0 (pc' := 148) (l' := [(0, .inr (.inr 1826)), (1, .inl (l : Int)), (2, .inl (-1))]) (st' := []) rfl ?_
              refine h_run 2 (pc' := 150) (l' := [(0, .inr (.inr 1826)), (1, .inl (l : Int)), (2, .inl (-1))]) (st' := [.inl 0, .inr (.inr 1826)]) rfl ?_
              refine h_puti (i := 300) (ci := 13) (k := 40) (a := 1826) (x := 0) rfl rfl rfl rfl rfl rfl (by decide) (by decide) ?_
              refine h_run 2 (pc' := 155) (l' := [(0, .inr (.inr 1826)), (1, .inl (l : Int)), (2, .inl (-1))]) (st' := [.inl 0, .inr (.inr 1826)]) rfl ?_
              refine h_puti (i := 335) (ci := 13) (k := 41) (a := 1826) (x := 0) rfl rfl rfl rfl rfl rfl (by decide) (by decide) ?_
              refine h_run 2 (pc' := 160) (l' := [(0, .inr (.inr 1826)), (1, .inl (l : Int)), (2, .inl (-1))]) (st' := [.inl 0, .inr (.inr 1826)]) rfl ?_
              refine h_puti (i := 303) (ci := 13) (k := 43) (a := 1826) (x := 0) rfl rfl rfl rfl rfl rfl (by decide) (by decide) ?_
              refine h_run 1 (pc' := 164) (l' := [(0, .inr (.inr 1826)), (1, .inl (l : Int)), (2, .inl (-1))]) (st' := [.inr (.inr 1826)]) rfl ?_
              have g472 : -2147483648 ≤ (H466.1 1826 35) ∧ (H466.1 1826 35) ≤ 2147483647 := hrg469.1 1826 13 35 _ .int rfl rfl
              refine h_cv (i := 293) (j := 158) (b := 1826) (M' := mt_158) (xs := []) (rest := []) rfl rfl rfl rfl rfl rfl (Nat.le_of_ble_eq_true rfl) (Nat.le_of_ble_eq_true rfl) (by omega) (m_good0 (by omega) (by omega : (H466.1 1826 35) ≠ 0)) ?_
              rintro _ _ ⟨rfl, rfl⟩
              refine h_run 0 (pc' := 167) (l' := [(0, .inr (.inr 1826)), (1, .inl (l : Int)), (2, .inl (-1))]) (st' := [.inl 0]) rfl ?_
              refine h_zeq (off := 11) (t := 178) rfl rfl (by decide) (fun _ => ?_) (fun c => absurd c (by decide))
              refine h_run 1 (pc' := 179) (l' := [(0, .inr (.inr 1826)), (1, .inl (l : Int)), (2, .inl (-1))]) (st' := [.inl (-1)]) rfl ?_
              refine h_run 7 (pc' := 186) (l' := [(0, .inr (.inr 1826)), (1, .inl (l : Int)), (2, .inl (-1)), (3, .inl (-1))]) (st' := [.inl ((2 * (l : Int)) + 1), .inr (.inr 1826)]) rfl ?_
              have g473 : -2147483648 ≤ (H466.1 1826 19) ∧ (H466.1 1826 19) ≤ 2147483647 := hrg469.1 1826 13 19 _ .int rfl rfl
              have e474 : (H466.1 1826 19) = (H453.1 1826 19) := hx466f.2.2 19 (by decide)
              have e475 : (H453.1 1826 19) = (H444.1 1826 19) := hx453f.2.2 19 (by decide)
              rw [show ((2 * (l : Int)) + 1) = ((2 * l + 1 : Nat) : Int) by omega]
              refine h_cv (i := 390) (j := 188) (b := 1826) (M' := mt_188) (xs := [.inl ((2 * l + 1 : Nat) : Int)]) (rest := []) rfl rfl rfl rfl rfl rfl (Nat.le_of_ble_eq_true rfl) (Nat.le_of_ble_eq_true rfl) (by omega) (m_keepSide (by omega) (s := 2 * l + 1) (by omega : 2 * (H466.1 1826 19) ≤ ((2 * l + 1 : Nat) : Int) ∧ 2 * l + 1 ≤ 31) (by omega : (H466.1 1826 35) = 0 → 0 ≤ (0 : Int) ∧ (0 : Int) ≤ 40)) ?_
              rintro _ H476 ⟨rfl, hx476f, hx476g, hx476z, hx476b, hx476c⟩
              refine h_rng (fun hrg477 => ?_)
              have hf478 : fr [30, 31, 32, 33, 35, 36, 19, 39, 40, 41, 43, 44, 47] [1841, 1842, 1843, 1844, 1845, 1846, 1847, 1849, 1850, 1851, 1852, 1853, 1854] H H476 := fr_t (fr_o (fr_o (fr_o hf470 (by decide)) (by decide)) (by decide)) hx476f (by decide) (by decide)
              have ha479 : agp H H476 := agp_tr (agp_o (agp_o (agp_o ha471 (by decide)) (by decide)) (by decide)) hx476g
              replace hx476c : hid _ := hx476c
              refine h_run 0 (pc' := 189) (l' := [(0, .inr (.inr 1826)), (1, .inl (l : Int)), (2, .inl (-1)), (3, .inl (-1))]) (st' := []) rfl ?_
              refine h_run 1 (pc' := 190) (l' := [(0, .inr (.inr 1826)), (1, .inl (l : Int)), (2, .inl (-1)), (3, .inl (-1))]) (st' := [.inr (.inr 1826)]) rfl ?_
              have g480 : -2147483648 ≤ (H476.1 1826 35) ∧ (H476.1 1826 35) ≤ 2147483647 := hrg477.1 1826 13 35 _ .int rfl rfl
              have e481 : (H476.1 1826 35) = (H466.1 1826 35) := hx476f.2.2 35 (by decide)
              refine h_cv (i := 293) (j := 158) (b := 1826) (M' := mt_158) (xs := []) (rest := []) rfl rfl rfl rfl rfl rfl (Nat.le_of_ble_eq_true rfl) (Nat.le_of_ble_eq_true rfl) (by omega) (m_good0 (by omega) (by omega : (H476.1 1826 35) ≠ 0)) ?_
              rintro _ _ ⟨rfl, rfl⟩
              refine h_run 0 (pc' := 193) (l' := [(0, .inr (.inr 1826)), (1, .inl (l : Int)), (2, .inl (-1)), (3, .inl (-1))]) (st' := [.inl 0]) rfl ?_
              refine h_zeq (off := 83) (t := 276) rfl rfl (by decide) (fun _ => ?_) (fun c => absurd c (by decide))
              refine h_ret rfl rfl ?_
              have g482 : -2147483648 ≤ (H476.1 1826 30) ∧ (H476.1 1826 30) ≤ 2147483647 := hrg477.1 1826 13 30 _ .int rfl rfl
              have e483 : (H476.1 1826 30) = (H466.1 1826 30) := hx476f.2.2 30 (by decide)
              have g484 : -2147483648 ≤ (H476.1 1826 32) ∧ (H476.1 1826 32) ≤ 2147483647 := hrg477.1 1826 13 32 _ .int rfl rfl
              have e485 : (H476.1 1826 32) = (H466.1 1826 32) := hx476f.2.2 32 (by decide)
              have g486 : -2147483648 ≤ (H476.1 1826 31) ∧ (H476.1 1826 31) ≤ 2147483647 := hrg477.1 1826 13 31 _ .int rfl rfl
              have e487 : (H476.1 1826 31) = (H466.1 1826 31) := hx476f.2.2 31 (by decide)
              have g488 : -2147483648 ≤ (H476.1 1826 29) ∧ (H476.1 1826 29) ≤ 2147483647 := hrg477.1 1826 13 29 _ .int rfl rfl
              have e489 : (H476.1 1826 29) = (H466.1 1826 29) := hx476f.2.2 29 (by decide)
              have e490 : (H466.1 1826 29) = (H453.1 1826 29) := hx466f.2.2 29 (by decide)
              have g491 : -2147483648 ≤ (H476.1 1826 1) ∧ (H476.1 1826 1) ≤ 2147483647 := hrg477.1 1826 13 1 _ .int rfl rfl
              have e492 : (H476.1 1826 1) = (H466.1 1826 1) := hx476f.2.2 1 (by decide)
              have e493 : (H466.1 1826 1) = (H453.1 1826 1) := hx466f.2.2 1 (by decide)
              have e494 : (H453.1 1826 1) = (H444.1 1826 1) := hx453f.2.2 1 (by decide)
              have e495 : (H444.1 1826 1) = (H58.1 1826 1) := hx444f.2.2 1 (by decide)
              have e496 : (H58.1 1826 1) = (H39.1 1826 1) := hx58f.2.2 1 (by decide)
              have e497 : (H39.1 1826 1) = (H.1 1826 1) := hx39f.2.2 1 (by decide)
              have g498 : -2147483648 ≤ (H476.1 1826 3) ∧ (H476.1 1826 3) ≤ 2147483647 := hrg477.1 1826 13 3 _ .int rfl rfl
              have e499 : (H476.1 1826 3) = (H466.1 1826 3) := hx476f.2.2 3 (by decide)
              have e500 : (H466.1 1826 3) = (H453.1 1826 3) := hx466f.2.2 3 (by decide)
              have e501 : (H453.1 1826 3) = (H444.1 1826 3) := hx453f.2.2 3 (by decide)
              have e502 : (H444.1 1826 3) = (H58.1 1826 3) := hx444f.2.2 3 (by decide)
              have e503 : (H58.1 1826 3) = (H39.1 1826 3) := hx58f.2.2 3 (by decide)
              have e504 : (H39.1 1826 3) = (H.1 1826 3) := hx39f.2.2 3 (by decide)
              have g505 : -2147483648 ≤ (H476.1 1826 8) ∧ (H476.1 1826 8) ≤ 2147483647 := hrg477.1 1826 13 8 _ .int rfl rfl
              have e506 : (H476.1 1826 8) = (H466.1 1826 8) := hx476f.2.2 8 (by decide)
              have e507 : (H466.1 1826 8) = (H453.1 1826 8) := hx466f.2.2 8 (by decide)
              have e508 : (H453.1 1826 8) = (H444.1 1826 8) := hx453f.2.2 8 (by decide)
              have e509 : (H444.1 1826 8) = (H58.1 1826 8) := hx444f.2.2 8 (by decide)
              have e510 : (H58.1 1826 8) = (H39.1 1826 8) := hx58f.2.2 8 (by decide)
              have e511 : (H39.1 1826 8) = (H.1 1826 8) := hx39f.2.2 8 (by decide)
              have g512 : -2147483648 ≤ (H476.1 1826 13) ∧ (H476.1 1826 13) ≤ 2147483647 := hrg477.1 1826 13 13 _ .int rfl rfl
              have e513 : (H476.1 1826 13) = (H466.1 1826 13) := hx476f.2.2 13 (by decide)
              have e514 : (H466.1 1826 13) = (H453.1 1826 13) := hx466f.2.2 13 (by decide)
              have e515 : (H453.1 1826 13) = (H444.1 1826 13) := hx453f.2.2 13 (by decide)
              have e516 : (H444.1 1826 13) = (H58.1 1826 13) := hx444f.2.2 13 (by decide)
              have e517 : (H58.1 1826 13) = (H39.1 1826 13) := hx58f.2.2 13 (by decide)
              have e518 : (H39.1 1826 13) = (H.1 1826 13) := hx39f.2.2 13 (by decide)
              have g519 : -2147483648 ≤ (H476.1 1826 19) ∧ (H476.1 1826 19) ≤ 2147483647 := hrg477.1 1826 13 19 _ .int rfl rfl
              have e520 : (H476.1 1826 19) = (H466.1 1826 19) := hx476f.2.2 19 (by decide)
              have g521 : -2147483648 ≤ (H476.1 1826 39) ∧ (H476.1 1826 39) ≤ 2147483647 := hrg477.1 1826 13 39 _ .int rfl rfl
              have e522 : (H476.1 1826 39) = (H466.1 1826 39) := hx476f.2.2 39 (by decide)
              have e523 : (H466.1 1826 39) = (H453.1 1826 39) := hx466f.2.2 39 (by decide)
              have e524 : (H453.1 1826 39) = 0 := hx453f.2.2 39 (by decide)
              exact ⟨rfl, hf478, (by omega : (H.1 1826 30) ≤ (H476.1 1826 30) ∧ (H476.1 1826 30) ≤ (H.1 1826 29)), (by omega : 0 ≤ (H476.1 1826 35) ∧ (H476.1 1826 35) ≤ 5), (by omega : (H.1 1826 35) ≠ 0 → (H476.1 1826 35) ≠ 0), (by omega : 0 ≤ (H476.1 1826 32) ∧ (H476.1 1826 32) ≤ 1000), ha479, (fun (q : (H476.1 1826 35) = 0) => absurd q (by omega))⟩
          · refine h_run 2 (pc' := 73) (l' := [(0, .inr (.inr 1826))]) (st' := [.inl 5, .inr (.inr 1826)]) rfl ?_
            refine h_cv (i := 278) (j := 159) (b := 1826) (M' := mt_159) (xs := [.inl 5]) (rest := []) rfl rfl rfl rfl rfl rfl (Nat.le_of_ble_eq_true rfl) (Nat.le_of_ble_eq_true rfl) (by omega) (m_bad0 (by omega) (by omega) (by omega : (H39.1 1826 35) = 0)) ?_
            rintro _ _ ⟨rfl, rfl⟩
            refine h_run 0 (pc' := 76) (l' := [(0, .inr (.inr 1826))]) (st' := []) rfl ?_
            refine h_run 1 (pc' := 77) (l' := [(0, .inr (.inr 1826))]) (st' := [.inr (.inr 1826)]) rfl ?_
            refine h_cv (i := 293) (j := 158) (b := 1826) (M' := mt_158) (xs := []) (rest := []) rfl rfl rfl rfl rfl rfl (Nat.le_of_ble_eq_true rfl) (Nat.le_of_ble_eq_true rfl) (by omega) (m_good0 (by omega) (by omega : (5 : Int) ≠ 0)) ?_
            rintro _ _ ⟨rfl, rfl⟩
            refine h_run 0 (pc' := 80) (l' := [(0, .inr (.inr 1826))]) (st' := [.inl 0]) rfl ?_
            refine h_zne (off := 4) (t := 84) rfl rfl (by decide) (fun c => absurd c (by decide)) (fun _ => ?_)
            refine h_ret rfl rfl ?_
            have g525 : -2147483648 ≤ (H39.1 1826 30) ∧ (H39.1 1826 30) ≤ 2147483647 := hrg40.1 1826 13 30 _ .int rfl rfl
            have g526 : -2147483648 ≤ (H39.1 1826 32) ∧ (H39.1 1826 32) ≤ 2147483647 := hrg40.1 1826 13 32 _ .int rfl rfl
            have g527 : -2147483648 ≤ (H39.1 1826 29) ∧ (H39.1 1826 29) ≤ 2147483647 := hrg40.1 1826 13 29 _ .int rfl rfl
            have e528 : (H39.1 1826 29) = (H.1 1826 29) := hx39f.2.2 29 (by decide)
            have g529 : -2147483648 ≤ (H39.1 1826 1) ∧ (H39.1 1826 1) ≤ 2147483647 := hrg40.1 1826 13 1 _ .int rfl rfl
            have e530 : (H39.1 1826 1) = (H.1 1826 1) := hx39f.2.2 1 (by decide)
            have g531 : -2147483648 ≤ (H39.1 1826 3) ∧ (H39.1 1826 3) ≤ 2147483647 := hrg40.1 1826 13 3 _ .int rfl rfl
            have e532 : (H39.1 1826 3) = (H.1 1826 3) := hx39f.2.2 3 (by decide)
            have g533 : -2147483648 ≤ (H39.1 1826 8) ∧ (H39.1 1826 8) ≤ 2147483647 := hrg40.1 1826 13 8 _ .int rfl rfl
            have e534 : (H39.1 1826 8) = (H.1 1826 8) := hx39f.2.2 8 (by decide)
            have g535 : -2147483648 ≤ (H39.1 1826 13) ∧ (H39.1 1826 13) ≤ 2147483647 := hrg40.1 1826 13 13 _ .int rfl rfl
            have e536 : (H39.1 1826 13) = (H.1 1826 13) := hx39f.2.2 13 (by decide)
            have g537 : -2147483648 ≤ (H39.1 1826 39) ∧ (H39.1 1826 39) ≤ 2147483647 := hrg40.1 1826 13 39 _ .int rfl rfl
            have e538 : (H39.1 1826 39) = (H.1 1826 39) := hx39f.2.2 39 (by decide)
            exact ⟨rfl, (fr_o (fr_o hf41 (by decide)) (by decide)), (by omega : (H.1 1826 30) ≤ (H39.1 1826 30) ∧ (H39.1 1826 30) ≤ (H.1 1826 29)), (by omega : 0 ≤ (5 : Int) ∧ (5 : Int) ≤ 5), (by omega : (H.1 1826 35) ≠ 0 → (5 : Int) ≠ 0), (by omega : 0 ≤ (H39.1 1826 32) ∧ (H39.1 1826 32) ≤ 1000), (agp_o (agp_o ha42 (by decide)) (by decide)), (fun (q : (5 : Int) = 0) => absurd q (by omega))⟩
        · refine h_run 2 (pc' := 52) (l' := [(0, .inr (.inr 1826))]) (st' := [.inl 3, .inr (.inr 1826)]) rfl ?_
          refine h_cv (i := 278) (j := 159) (b := 1826) (M' := mt_159) (xs := [.inl 3]) (rest := []) rfl rfl rfl rfl rfl rfl (Nat.le_of_ble_eq_true rfl) (Nat.le_of_ble_eq_true rfl) (by omega) (m_bad0 (by omega) (by omega) (by omega : (H39.1 1826 35) = 0)) ?_
          rintro _ _ ⟨rfl, rfl⟩
          refine h_run 0 (pc' := 55) (l' := [(0, .inr (.inr 1826))]) (st' := []) rfl ?_
          refine h_run 1 (pc' := 56) (l' := [(0, .inr (.inr 1826))]) (st' := [.inr (.inr 1826)]) rfl ?_
          refine h_cv (i := 293) (j := 158) (b := 1826) (M' := mt_158) (xs := []) (rest := []) rfl rfl rfl rfl rfl rfl (Nat.le_of_ble_eq_true rfl) (Nat.le_of_ble_eq_true rfl) (by omega) (m_good0 (by omega) (by omega : (3 : Int) ≠ 0)) ?_
          rintro _ _ ⟨rfl, rfl⟩
          refine h_run 0 (pc' := 59) (l' := [(0, .inr (.inr 1826))]) (st' := [.inl 0]) rfl ?_
          refine h_zeq (off := 17) (t := 76) rfl rfl (by decide) (fun _ => ?_) (fun c => absurd c (by decide))
          refine h_run 1 (pc' := 77) (l' := [(0, .inr (.inr 1826))]) (st' := [.inr (.inr 1826)]) rfl ?_
          refine h_cv (i := 293) (j := 158) (b := 1826) (M' := mt_158) (xs := []) (rest := []) rfl rfl rfl rfl rfl rfl (Nat.le_of_ble_eq_true rfl) (Nat.le_of_ble_eq_true rfl) (by omega) (m_good0 (by omega) (by omega : (3 : Int) ≠ 0)) ?_
          rintro _ _ ⟨rfl, rfl⟩
          refine h_run 0 (pc' := 80) (l' := [(0, .inr (.inr 1826))]) (st' := [.inl 0]) rfl ?_
          refine h_zne (off := 4) (t := 84) rfl rfl (by decide) (fun c => absurd c (by decide)) (fun _ => ?_)
          refine h_ret rfl rfl ?_
          have g539 : -2147483648 ≤ (H39.1 1826 30) ∧ (H39.1 1826 30) ≤ 2147483647 := hrg40.1 1826 13 30 _ .int rfl rfl
          have g540 : -2147483648 ≤ (H39.1 1826 32) ∧ (H39.1 1826 32) ≤ 2147483647 := hrg40.1 1826 13 32 _ .int rfl rfl
          have g541 : -2147483648 ≤ (H39.1 1826 29) ∧ (H39.1 1826 29) ≤ 2147483647 := hrg40.1 1826 13 29 _ .int rfl rfl
          have e542 : (H39.1 1826 29) = (H.1 1826 29) := hx39f.2.2 29 (by decide)
          have g543 : -2147483648 ≤ (H39.1 1826 1) ∧ (H39.1 1826 1) ≤ 2147483647 := hrg40.1 1826 13 1 _ .int rfl rfl
          have e544 : (H39.1 1826 1) = (H.1 1826 1) := hx39f.2.2 1 (by decide)
          have g545 : -2147483648 ≤ (H39.1 1826 3) ∧ (H39.1 1826 3) ≤ 2147483647 := hrg40.1 1826 13 3 _ .int rfl rfl
          have e546 : (H39.1 1826 3) = (H.1 1826 3) := hx39f.2.2 3 (by decide)
          have g547 : -2147483648 ≤ (H39.1 1826 8) ∧ (H39.1 1826 8) ≤ 2147483647 := hrg40.1 1826 13 8 _ .int rfl rfl
          have e548 : (H39.1 1826 8) = (H.1 1826 8) := hx39f.2.2 8 (by decide)
          have g549 : -2147483648 ≤ (H39.1 1826 13) ∧ (H39.1 1826 13) ≤ 2147483647 := hrg40.1 1826 13 13 _ .int rfl rfl
          have e550 : (H39.1 1826 13) = (H.1 1826 13) := hx39f.2.2 13 (by decide)
          have g551 : -2147483648 ≤ (H39.1 1826 39) ∧ (H39.1 1826 39) ≤ 2147483647 := hrg40.1 1826 13 39 _ .int rfl rfl
          have e552 : (H39.1 1826 39) = (H.1 1826 39) := hx39f.2.2 39 (by decide)
          exact ⟨rfl, (fr_o (fr_o hf41 (by decide)) (by decide)), (by omega : (H.1 1826 30) ≤ (H39.1 1826 30) ∧ (H39.1 1826 30) ≤ (H.1 1826 29)), (by omega : 0 ≤ (3 : Int) ∧ (3 : Int) ≤ 5), (by omega : (H.1 1826 35) ≠ 0 → (3 : Int) ≠ 0), (by omega : 0 ≤ (H39.1 1826 32) ∧ (H39.1 1826 32) ≤ 1000), (agp_o (agp_o ha42 (by decide)) (by decide)), (fun (q : (3 : Int) = 0) => absurd q (by omega))⟩
      · refine h_run 0 (pc' := 46) (l' := [(0, .inr (.inr 1826))]) (st' := [.inl (-1)]) rfl ?_
        refine h_run 1 (pc' := 47) (l' := [(0, .inr (.inr 1826))]) (st' := [.inl (-1), .inl (-1)]) rfl ?_
        refine h_ieq (off := 8) (t := 55) rfl rfl (by decide) (by decide) (fun _ => ?_) (fun c => absurd c (by decide))
        refine h_run 1 (pc' := 56) (l' := [(0, .inr (.inr 1826))]) (st' := [.inr (.inr 1826)]) rfl ?_
        refine h_cv (i := 293) (j := 158) (b := 1826) (M' := mt_158) (xs := []) (rest := []) rfl rfl rfl rfl rfl rfl (Nat.le_of_ble_eq_true rfl) (Nat.le_of_ble_eq_true rfl) (by omega) (m_good1 (by omega) (by omega : (H39.1 1826 35) = 0)) ?_
        rintro _ _ ⟨rfl, rfl⟩
        refine h_run 0 (pc' := 59) (l' := [(0, .inr (.inr 1826))]) (st' := [.inl 1]) rfl ?_
        refine h_zeq (off := 17) (t := 76) rfl rfl (by decide) (fun c => absurd c (by decide)) (fun _ => ?_)
        refine h_run 2 (pc' := 66) (l' := [(0, .inr (.inr 1826))]) (st' := [.inl (H39.1 1826 19)]) rfl ?_
        refine h_run 1 (pc' := 68) (l' := [(0, .inr (.inr 1826))]) (st' := [.inl 16, .inl (H39.1 1826 19)]) rfl ?_
        refine h_ine (off := 8) (t := 76) rfl rfl (by omega) (by decide) (fun c553 => ?_) (fun c553 => ?_)
        · refine h_run 1 (pc' := 77) (l' := [(0, .inr (.inr 1826))]) (st' := [.inr (.inr 1826)]) rfl ?_
          refine h_cv (i := 293) (j := 158) (b := 1826) (M' := mt_158) (xs := []) (rest := []) rfl rfl rfl rfl rfl rfl (Nat.le_of_ble_eq_true rfl) (Nat.le_of_ble_eq_true rfl) (by omega) (m_good1 (by omega) (by omega : (H39.1 1826 35) = 0)) ?_
          rintro _ _ ⟨rfl, rfl⟩
          refine h_run 0 (pc' := 80) (l' := [(0, .inr (.inr 1826))]) (st' := [.inl 1]) rfl ?_
          refine h_zne (off := 4) (t := 84) rfl rfl (by decide) (fun _ => ?_) (fun c => absurd c (by decide))
          refine h_run 2 (pc' := 88) (l' := [(0, .inr (.inr 1826))]) (st' := [.inl (H39.1 1826 19)]) rfl ?_
          refine h_run 1 (pc' := 89) (l' := [(0, .inr (.inr 1826)), (1, .inl (H39.1 1826 19))]) (st' := []) rfl ?_
          obtain ⟨l, hl⟩ : ∃ k9 : Nat, (H39.1 1826 19) = (k9 : Int) := ⟨((H39.1 1826 19)).toNat, by omega⟩
          rw [show (H39.1 1826 19) = (l : Int) from hl]
          refine h_run 5 (pc' := 98) (l' := [(0, .inr (.inr 1826)), (1, .inl (l : Int))]) (st' := [.inr (.inl (H39.1 1826 33)), .inl (l : Int), .inr (.inr 1841)]) rfl ?_
          refine h_lst (c := 1841) (j := l) (i := (l : Int)) (x := (H39.1 1826 33)) rfl rfl (by decide) (by decide) rfl (by omega) (by first | omega | exact z_long _) ?_
          refine h_run 1 (pc' := 100) (l' := [(0, .inr (.inr 1826)), (1, .inl (l : Int))]) (st' := [.inr (.inr 1826)]) rfl ?_
          have g554 : -2147483648 ≤ (H39.1 1826 30) ∧ (H39.1 1826 30) ≤ 2147483647 := hrg40.1 1826 13 30 _ .int rfl rfl
          have g555 : -2147483648 ≤ (H39.1 1826 29) ∧ (H39.1 1826 29) ≤ 2147483647 := hrg40.1 1826 13 29 _ .int rfl rfl
          have e556 : (H39.1 1826 29) = (H.1 1826 29) := hx39f.2.2 29 (by decide)
          have g557 : -2147483648 ≤ (H39.1 1826 32) ∧ (H39.1 1826 32) ≤ 2147483647 := hrg40.1 1826 13 32 _ .int rfl rfl
          refine h_cv (i := 297) (j := 165) (b := 1826) (M' := mt_165) (xs := []) (rest := []) rfl rfl rfl rfl rfl rfl (Nat.le_of_ble_eq_true rfl) (Nat.le_of_ble_eq_true rfl) (by omega) (m_next (by omega) (by omega : 0 ≤ (H39.1 1826 30) ∧ (H39.1 1826 30) ≤ (H39.1 1826 29) ∧ (H39.1 1826 29) ≤ 1000) (by omega : 0 ≤ (H39.1 1826 35) ∧ (H39.1 1826 35) ≤ 5) (by omega : 0 ≤ (H39.1 1826 32) ∧ (H39.1 1826 32) ≤ 1000)) ?_
          rintro _ H558 ⟨rfl, hx558f, hx558a, hx558b, hx558c, -, hx558e, hx558g⟩
          refine h_rng (fun hrg559 => ?_)
          have hf560 : fr [30, 31, 32, 33, 35, 36, 19, 39, 40, 41, 43, 44, 47] [1841, 1842, 1843, 1844, 1845, 1846, 1847, 1849, 1850, 1851, 1852, 1853, 1854] H H558 := fr_t (fr_a hf41 (by decide)) hx558f (by decide) (by decide)
          have ha561 : agp H H558 := agp_tr (agp_a ha42 (by decide)) (agp_fr hx558f (by decide) (by decide))
          replace hx558a : (H39.1 1826 30) ≤ (H558.1 1826 30) := hx558a
          replace hx558b : (H558.1 1826 30) ≤ (H39.1 1826 29) := hx558b
          replace hx558g : (H558.1 1826 35) = 0 → ((H558.1 1826 31) = 0 ∨ (H39.1 1826 30) < (H558.1 1826 30)) := hx558g
          refine h_run 0 (pc' := 103) (l' := [(0, .inr (.inr 1826)), (1, .inl (l : Int))]) (st' := []) rfl ?_
          have g562 : -2147483648 ≤ (H558.1 1826 35) ∧ (H558.1 1826 35) ≤ 2147483647 := hrg559.1 1826 13 35 _ .int rfl rfl
          by_cases b563 : (H558.1 1826 35) = 0
          · skip
            replace hx558g := hx558g b563
            refine h_run 2 (pc' := 106) (l' := [(0, .inr (.inr 1826)), (1, .inl (l : Int))]) (st' := [.inl 58, .inr (.inr 1826)]) rfl ?_
            have g564 : -2147483648 ≤ (H558.1 1826 30) ∧ (H558.1 1826 30) ≤ 2147483647 := hrg559.1 1826 13 30 _ .int rfl rfl
            have g565 : -2147483648 ≤ (H558.1 1826 29) ∧ (H558.1 1826 29) ≤ 2147483647 := hrg559.1 1826 13 29 _ .int rfl rfl
            have e566 : (H558.1 1826 29) = (H39.1 1826 29) := hx558f.2.2 29 (by decide)
            have g567 : -2147483648 ≤ (H558.1 1826 31) ∧ (H558.1 1826 31) ≤ 2147483647 := hrg559.1 1826 13 31 _ .int rfl rfl
            have g569 : -2147483648 ≤ (H558.1 1826 32) ∧ (H558.1 1826 32) ≤ 2147483647 := hrg559.1 1826 13 32 _ .int rfl rfl
            refine h_cv (i := 313) (j := 166) (b := 1826) (M' := mt_166) (xs := [.inl 58]) (rest := []) rfl rfl rfl rfl rfl rfl (Nat.le_of_ble_eq_true rfl) (Nat.le_of_ble_eq_true rfl) (by omega) (m_want (by omega) (by omega : 0 ≤ (H558.1 1826 30) ∧ (H558.1 1826 30) ≤ (H558.1 1826 29) ∧ (H558.1 1826 29) ≤ 1000) (by omega : 0 ≤ (H558.1 1826 35) ∧ (H558.1 1826 35) ≤ 5) (by omega : 0 ≤ (H558.1 1826 32) ∧ (H558.1 1826 32) ≤ 1000) (by omega)) ?_
            rintro _ H568 ⟨rfl, hx568f, hx568a, hx568b, hx568c, -, hx568e, hx568g⟩
            refine h_rng (fun hrg570 => ?_)
            have hf571 : fr [30, 31, 32, 33, 35, 36, 19, 39, 40, 41, 43, 44, 47] [1841, 1842, 1843, 1844, 1845, 1846, 1847, 1849, 1850, 1851, 1852, 1853, 1854] H H568 := fr_t hf560 hx568f (by decide) (by decide)
            have ha572 : agp H H568 := agp_tr ha561 (agp_fr hx568f (by decide) (by decide))
            replace hx568a : (H558.1 1826 30) ≤ (H568.1 1826 30) := hx568a
            replace hx568b : (H568.1 1826 30) ≤ (H558.1 1826 29) := hx568b
            replace hx568g : (H568.1 1826 35) = 0 → (H558.1 1826 31) = (58 : Int) ∧ ((H568.1 1826 31) = 0 ∨ (H558.1 1826 30) < (H568.1 1826 30)) := hx568g
            refine h_run 0 (pc' := 109) (l' := [(0, .inr (.inr 1826)), (1, .inl (l : Int))]) (st' := []) rfl ?_
            have g573 : -2147483648 ≤ (H568.1 1826 35) ∧ (H568.1 1826 35) ≤ 2147483647 := hrg570.1 1826 13 35 _ .int rfl rfl
            by_cases b574 : (H568.1 1826 35) = 0
            · skip
              replace hx568g := hx568g b574
              refine h_run 1 (pc' := 110) (l' := [(0, .inr (.inr 1826)), (1, .inl (l : Int))]) (st' := [.inr (.inr 1826)]) rfl ?_
              refine h_cv (i := 379) (j := 185) (b := 1826) (M' := mt_185) (xs := []) (rest := []) rfl rfl rfl rfl rfl rfl (Nat.le_of_ble_eq_true rfl) (Nat.le_of_ble_eq_true rfl) (by omega) (m_beginTerm (by omega)) ?_
              rintro _ _ ⟨rfl, rfl⟩
              refine h_run 0 (pc' := 113) (l' := [(0, .inr (.inr 1826)), (1, .inl (l : Int))]) (st' := []) rfl ?_
              refine h_run 2 (pc' := 115) (l' := [(0, .inr (.inr 1826)), (1, .inl (l : Int))]) (st' := [.inl 2, .inr (.inr 1826)]) rfl ?_
              refine h_puti (i := 367) (ci := 13) (k := 44) (a := 1826) (x := 2) rfl rfl rfl rfl rfl rfl (by decide) (by decide) ?_
              refine h_run 1 (pc' := 119) (l' := [(0, .inr (.inr 1826)), (1, .inl (l : Int))]) (st' := [.inr (.inr 1826)]) rfl ?_
              refine h_cv (i := 293) (j := 158) (b := 1826) (M' := mt_158) (xs := []) (rest := []) rfl rfl rfl rfl rfl rfl (Nat.le_of_ble_eq_true rfl) (Nat.le_of_ble_eq_true rfl) (by omega) (m_good1 (by omega) (by omega : (H568.1 1826 35) = 0)) ?_
              rintro _ _ ⟨rfl, rfl⟩
              refine h_run 0 (pc' := 122) (l' := [(0, .inr (.inr 1826)), (1, .inl (l : Int))]) (st' := [.inl 1]) rfl ?_
              refine h_zeq (off := 11) (t := 133) rfl rfl (by decide) (fun c => absurd c (by decide)) (fun _ => ?_)
              refine h_run 2 (pc' := 127) (l' := [(0, .inr (.inr 1826)), (1, .inl (l : Int))]) (st' := [.inl (-1), .inr (.inr 1826)]) rfl ?_
              have g575 : -2147483648 ≤ (H568.1 1826 30) ∧ (H568.1 1826 30) ≤ 2147483647 := hrg570.1 1826 13 30 _ .int rfl rfl
              have g576 : -2147483648 ≤ (H568.1 1826 29) ∧ (H568.1 1826 29) ≤ 2147483647 := hrg570.1 1826 13 29 _ .int rfl rfl
              have e577 : (H568.1 1826 29) = (H558.1 1826 29) := hx568f.2.2 29 (by decide)
              have g578 : -2147483648 ≤ (H568.1 1826 1) ∧ (H568.1 1826 1) ≤ 2147483647 := hrg570.1 1826 13 1 _ .int rfl rfl
              have e579 : (H568.1 1826 1) = (H558.1 1826 1) := hx568f.2.2 1 (by decide)
              have e580 : (H558.1 1826 1) = (H39.1 1826 1) := hx558f.2.2 1 (by decide)
              have e581 : (H39.1 1826 1) = (H.1 1826 1) := hx39f.2.2 1 (by decide)
              have g583 : -2147483648 ≤ (H568.1 1826 32) ∧ (H568.1 1826 32) ≤ 2147483647 := hrg570.1 1826 13 32 _ .int rfl rfl
              have g584 : -2147483648 ≤ (H568.1 1826 3) ∧ (H568.1 1826 3) ≤ 2147483647 := hrg570.1 1826 13 3 _ .int rfl rfl
              have e585 : (H568.1 1826 3) = (H558.1 1826 3) := hx568f.2.2 3 (by decide)
              have e586 : (H558.1 1826 3) = (H39.1 1826 3) := hx558f.2.2 3 (by decide)
              have e587 : (H39.1 1826 3) = (H.1 1826 3) := hx39f.2.2 3 (by decide)
              have g588 : -2147483648 ≤ (H568.1 1826 8) ∧ (H568.1 1826 8) ≤ 2147483647 := hrg570.1 1826 13 8 _ .int rfl rfl
              have e589 : (H568.1 1826 8) = (H558.1 1826 8) := hx568f.2.2 8 (by decide)
              have e590 : (H558.1 1826 8) = (H39.1 1826 8) := hx558f.2.2 8 (by decide)
              have e591 : (H39.1 1826 8) = (H.1 1826 8) := hx39f.2.2 8 (by decide)
              have g592 : -2147483648 ≤ (H568.1 1826 13) ∧ (H568.1 1826 13) ≤ 2147483647 := hrg570.1 1826 13 13 _ .int rfl rfl
              have e593 : (H568.1 1826 13) = (H558.1 1826 13) := hx568f.2.2 13 (by decide)
              have e594 : (H558.1 1826 13) = (H39.1 1826 13) := hx558f.2.2 13 (by decide)
              have e595 : (H39.1 1826 13) = (H.1 1826 13) := hx39f.2.2 13 (by decide)
              have g596 : -2147483648 ≤ (H568.1 1826 19) ∧ (H568.1 1826 19) ≤ 2147483647 := hrg570.1 1826 13 19 _ .int rfl rfl
              have e597 : (H568.1 1826 19) = (H558.1 1826 19) := hx568f.2.2 19 (by decide)
              have e598 : (H558.1 1826 19) = (H39.1 1826 19) := hx558f.2.2 19 (by decide)
              refine h_cv (i := 385) (j := 180) (b := 1826) (M' := mt_180) (xs := [.inl (-1)]) (rest := []) rfl rfl rfl rfl rfl rfl (Nat.le_of_ble_eq_true rfl) (Nat.le_of_ble_eq_true rfl) (by omega) (m_term (by omega) (by omega : 0 ≤ (H568.1 1826 30) ∧ (H568.1 1826 30) ≤ (H568.1 1826 29) ∧ (H568.1 1826 29) ≤ 1000) (by omega : 0 ≤ (H568.1 1826 35) ∧ (H568.1 1826 35) ≤ 5) (by omega : 0 ≤ (H568.1 1826 32) ∧ (H568.1 1826 32) ≤ 1000) (PWc_agp hP (agp_o (agp_o (agp_o (agp_o (agp_o ha572 (by decide)) (by decide)) (by decide)) (by decide)) (by decide)) ⟨(by omega : (H568.1 1826 1) = (H.1 1826 1)), (by omega : (H568.1 1826 3) = (H.1 1826 3)), (by omega : (H568.1 1826 8) = (H.1 1826 8)), (by omega : (H568.1 1826 13) = (H.1 1826 13)), (by omega : (H568.1 1826 19) = (H.1 1826 19))⟩) (by omega : 1 ≤ (2 : Int) ∧ (2 : Int) ≤ 3) (by omega : -1 ≤ (-1 : Int) ∧ (-1 : Int) < (H568.1 1826 1)) (by omega : 0 ≤ (0 : Int) ∧ (0 : Int) ≤ 10) (fun _ => ⟨rfl, rfl, rfl, (by omega : 0 ≤ (0 : Int) ∧ (0 : Int) ≤ 39 ∧ ((2 : Int) = 2 → (0 : Int) ≤ 6)), fun _ v hv => absurd (id hv : (v : Int) < 0) (by omega)⟩)) ?_
              rintro _ H582 ⟨⟨hx582r, rfl, hx582x, hx582y⟩, hx582f, hx582a, hx582c, -, hx582e, hx582v, hx582p⟩
              refine h_rng (fun hrg599 => ?_)
              have hf600 : fr [30, 31, 32, 33, 35, 36, 19, 39, 40, 41, 43, 44, 47] [1841, 1842, 1843, 1844, 1845, 1846, 1847, 1849, 1850, 1851, 1852, 1853, 1854] H H582 := fr_t (fr_o (fr_o (fr_o (fr_o (fr_o hf571 (by decide)) (by decide)) (by decide)) (by decide)) (by decide)) hx582f (by decide) (by decide)
              have ha601 : agp H H582 := agp_tr (agp_o (agp_o (agp_o (agp_o (agp_o ha572 (by decide)) (by decide)) (by decide)) (by decide)) (by decide)) (agp_fr hx582f (by decide) (by decide))
              replace hx582y : hx582r < (H568.1 1826 1) := hx582y
              replace hx582a : (H568.1 1826 30) ≤ (H582.1 1826 30) ∧ (H582.1 1826 30) ≤ (H568.1 1826 29) := hx582a
              replace hx582v : ((2 : Int) ≠ 2 → (H582.1 1826 39) = (0 : Int)) ∧ (0 : Int) ≤ (H582.1 1826 39) := hx582v
              have hx582k : (H582.1 1826 35) = 0 → 0 ≤ (H582.1 1826 43) ∧ (H582.1 1826 43) ≤ 40 := fun q9 => by obtain ⟨⟨k9, h9, h8, -⟩, -⟩ := hx582p q9; omega
              have hx582w : (H582.1 1826 35) = 0 → 0 ≤ (H582.1 1826 39) ∧ (H582.1 1826 39) ≤ 39 ∧ ((H582.1 1826 44) = 2 → (H582.1 1826 39) ≤ 6) := fun q9 => (TT_vars (hx582p q9).2).1
              refine h_run 0 (pc' := 130) (l' := [(0, .inr (.inr 1826)), (1, .inl (l : Int))]) (st' := [.inl hx582r]) rfl ?_
              refine h_run 1 (pc' := 134) (l' := [(0, .inr (.inr 1826)), (1, .inl (l : Int))]) (st' := [.inl hx582r]) rfl ?_
              have g602 : -2147483648 ≤ (H582.1 1826 35) ∧ (H582.1 1826 35) ≤ 2147483647 := hrg599.1 1826 13 35 _ .int rfl rfl
              by_cases b603 : (H582.1 1826 35) = 0
              · skip
                replace hx582k := hx582k b603
                replace hx582w := hx582w b603
                refine h_run 5 (pc' := 139) (l' := [(0, .inr (.inr 1826)), (1, .inl (l : Int)), (2, .inl hx582r)]) (st' := [.inl (2 * (l : Int)), .inr (.inr 1826)]) rfl ?_
                have g604 : -2147483648 ≤ (H582.1 1826 43) ∧ (H582.1 1826 43) ≤ 2147483647 := hrg599.1 1826 13 43 _ .int rfl rfl
                have g605 : -2147483648 ≤ (H582.1 1826 19) ∧ (H582.1 1826 19) ≤ 2147483647 := hrg599.1 1826 13 19 _ .int rfl rfl
                have e606 : (H582.1 1826 19) = (H568.1 1826 19) := hx582f.2.2 19 (by decide)
                rw [show (2 * (l : Int)) = ((2 * l : Nat) : Int) by omega]
                refine h_cv (i := 390) (j := 188) (b := 1826) (M' := mt_188) (xs := [.inl ((2 * l : Nat) : Int)]) (rest := []) rfl rfl rfl rfl rfl rfl (Nat.le_of_ble_eq_true rfl) (Nat.le_of_ble_eq_true rfl) (by omega) (m_keepSide (by omega) (s := 2 * l) (by omega : 2 * (H582.1 1826 19) ≤ ((2 * l : Nat) : Int) ∧ 2 * l ≤ 31) (by omega : (H582.1 1826 35) = 0 → 0 ≤ (H582.1 1826 43) ∧ (H582.1 1826 43) ≤ 40)) ?_
                rintro _ H607 ⟨rfl, hx607f, hx607g, hx607z, hx607b, hx607c⟩
                refine h_rng (fun hrg608 => ?_)
                have hf609 : fr [30, 31, 32, 33, 35, 36, 19, 39, 40, 41, 43, 44, 47] [1841, 1842, 1843, 1844, 1845, 1846, 1847, 1849, 1850, 1851, 1852, 1853, 1854] H H607 := fr_t hf600 hx607f (by decide) (by decide)
                have ha610 : agp H H607 := agp_tr ha601 hx607g
                replace hx607c : hid _ := hx607c
                refine h_run 0 (pc' := 142) (l' := [(0, .inr (.inr 1826)), (1, .inl (l : Int)), (2, .inl hx582r)]) (st' := []) rfl ?_
                refine h_run 2 (pc' := 145) (l' := [(0, .inr (.inr 1826)), (1, .inl (l : Int)), (2, .inl hx582r)]) (st' := [.inl 61, .inr (.inr 1826)]) rfl ?_
                have g611 : -2147483648 ≤ (H607.1 1826 30) ∧ (H607.1 1826 30) ≤ 2147483647 := hrg608.1 1826 13 30 _ .int rfl rfl
                have e612 : (H607.1 1826 30) = (H582.1 1826 30) := hx607f.2.2 30 (by decide)
                have g613 : -2147483648 ≤ (H607.1 1826 29) ∧ (H607.1 1826 29) ≤ 2147483647 := hrg608.1 1826 13 29 _ .int rfl rfl
                have e614 : (H607.1 1826 29) = (H582.1 1826 29) := hx607f.2.2 29 (by decide)
                have e615 : (H582.1 1826 29) = (H568.1 1826 29) := hx582f.2.2 29 (by decide)
                have g616 : -2147483648 ≤ (H607.1 1826 35) ∧ (H607.1 1826 35) ≤ 2147483647 := hrg608.1 1826 13 35 _ .int rfl rfl
                have e617 : (H607.1 1826 35) = (H582.1 1826 35) := hx607f.2.2 35 (by decide)
                have g618 : -2147483648 ≤ (H607.1 1826 31) ∧ (H607.1 1826 31) ≤ 2147483647 := hrg608.1 1826 13 31 _ .int rfl rfl
                have e619 : (H607.1 1826 31) = (H582.1 1826 31) := hx607f.2.2 31 (by decide)
                have g621 : -2147483648 ≤ (H607.1 1826 32) ∧ (H607.1 1826 32) ≤ 2147483647 := hrg608.1 1826 13 32 _ .int rfl rfl
                have e622 : (H607.1 1826 32) = (H582.1 1826 32) := hx607f.2.2 32 (by decide)
                refine h_cv (i := 313) (j := 166) (b := 1826) (M' := mt_166) (xs := [.inl 61]) (rest := []) rfl rfl rfl rfl rfl rfl (Nat.le_of_ble_eq_true rfl) (Nat.le_of_ble_eq_true rfl) (by omega) (m_want (by omega) (by omega : 0 ≤ (H607.1 1826 30) ∧ (H607.1 1826 30) ≤ (H607.1 1826 29) ∧ (H607.1 1826 29) ≤ 1000) (by omega : 0 ≤ (H607.1 1826 35) ∧ (H607.1 1826 35) ≤ 5) (by omega : 0 ≤ (H607.1 1826 32) ∧ (H607.1 1826 32) ≤ 1000) (by omega)) ?_
                rintro _ H620 ⟨rfl, hx620f, hx620a, hx620b, hx620c, -, hx620e, hx620g⟩
                refine h_rng (fun hrg623 => ?_)
                have hf624 : fr [30, 31, 32, 33, 35, 36, 19, 39, 40, 41, 43, 44, 47] [1841, 1842, 1843, 1844, 1845, 1846, 1847, 1849, 1850, 1851, 1852, 1853, 1854] H H620 := fr_t hf609 hx620f (by decide) (by decide)
                have ha625 : agp H H620 := agp_tr ha610 (agp_fr hx620f (by decide) (by decide))
                replace hx620a : (H607.1 1826 30) ≤ (H620.1 1826 30) := hx620a
                replace hx620b : (H620.1 1826 30) ≤ (H607.1 1826 29) := hx620b
                replace hx620g : (H620.1 1826 35) = 0 → (H607.1 1826 31) = (61 : Int) ∧ ((H620.1 1826 31) = 0 ∨ (H607.1 1826 30) < (H620.1 1826 30)) := hx620g
                refine h_run 0 (pc' := 148) (l' := [(0, .inr (.inr 1826)), (1, .inl (l : Int)), (2, .inl hx582r)]) (st' := []) rfl ?_
                have g626 : -2147483648 ≤ (H620.1 1826 35) ∧ (H620.1 1826 35) ≤ 2147483647 := hrg623.1 1826 13 35 _ .int rfl rfl
                by_cases b627 : (H620.1 1826 35) = 0
                · skip
                  replace hx620g := hx620g b627
                  refine h_run 2 (pc' := 150) (l' := [(0, .inr (.inr 1826)), (1, .inl (l : Int)), (2, .inl hx582r)]) (st' := [.inl 0, .inr (.inr 1826)]) rfl ?_
                  refine h_puti (i := 300) (ci := 13) (k := 40) (a := 1826) (x := 0) rfl rfl rfl rfl rfl rfl (by decide) (by decide) ?_
                  refine h_run 2 (pc' := 155) (l' := [(0, .inr (.inr 1826)), (1, .inl (l : Int)), (2, .inl hx582r)]) (st' := [.inl 0, .inr (.inr 1826)]) rfl ?_
                  refine h_puti (i := 335) (ci := 13) (k := 41) (a := 1826) (x := 0) rfl rfl rfl rfl rfl rfl (by decide) (by decide) ?_
                  refine h_run 2 (pc' := 160) (l' := [(0, .inr (.inr 1826)), (1, .inl (l : Int)), (2, .inl hx582r)]) (st' := [.inl 0, .inr (.inr 1826)]) rfl ?_
                  refine h_puti (i := 303) (ci := 13) (k := 43) (a := 1826) (x := 0) rfl rfl rfl rfl rfl rfl (by decide) (by decide) ?_
                  refine h_run 1 (pc' := 164) (l' := [(0, .inr (.inr 1826)), (1, .inl (l : Int)), (2, .inl hx582r)]) (st' := [.inr (.inr 1826)]) rfl ?_
                  refine h_cv (i := 293) (j := 158) (b := 1826) (M' := mt_158) (xs := []) (rest := []) rfl rfl rfl rfl rfl rfl (Nat.le_of_ble_eq_true rfl) (Nat.le_of_ble_eq_true rfl) (by omega) (m_good1 (by omega) (by omega : (H620.1 1826 35) = 0)) ?_
                  rintro _ _ ⟨rfl, rfl⟩
                  refine h_run 0 (pc' := 167) (l' := [(0, .inr (.inr 1826)), (1, .inl (l : Int)), (2, .inl hx582r)]) (st' := [.inl 1]) rfl ?_
                  refine h_zeq (off := 11) (t := 178) rfl rfl (by decide) (fun c => absurd c (by decide)) (fun _ => ?_)
                  have g628 : -2147483648 ≤ (H620.1 1826 44) ∧ (H620.1 1826 44) ≤ 2147483647 := hrg623.1 1826 13 44 _ .int rfl rfl
                  have e629 : (H620.1 1826 44) = (H607.1 1826 44) := hx620f.2.2 44 (by decide)
                  have e630 : (H607.1 1826 44) = (H582.1 1826 44) := hx607f.2.2 44 (by decide)
                  have e631 : (H582.1 1826 44) = 2 := hx582f.2.2 44 (by decide)
                  have g632 : -2147483648 ≤ (H620.1 1826 39) ∧ (H620.1 1826 39) ≤ 2147483647 := hrg623.1 1826 13 39 _ .int rfl rfl
                  have e633 : (H620.1 1826 39) = (H607.1 1826 39) := hx620f.2.2 39 (by decide)
                  have e634 : (H607.1 1826 39) = (H582.1 1826 39) := hx607f.2.2 39 (by decide)
                  have g635 : -2147483648 ≤ (H620.1 1826 1) ∧ (H620.1 1826 1) ≤ 2147483647 := hrg623.1 1826 13 1 _ .int rfl rfl
                  have e636 : (H620.1 1826 1) = (H607.1 1826 1) := hx620f.2.2 1 (by decide)
                  have e637 : (H607.1 1826 1) = (H582.1 1826 1) := hx607f.2.2 1 (by decide)
                  have e638 : (H582.1 1826 1) = (H568.1 1826 1) := hx582f.2.2 1 (by decide)
                  have hvt8 : ∀ v : Nat, (v : Int) < (H620.1 1826 39) → 0 ≤ (H620.1 1850) v ∧ (H620.1 1850) v < (H620.1 1826 1) := fun v hv => by rw [show (H620.1 1850) = (H582.1 1850) from (hx620f.2.1 1850 (by decide) (by decide)).trans (hx607f.2.1 1850 (by decide) (by decide)), show (H620.1 1826 1) = (H582.1 1826 1) from (hx620f.2.2 1 (by decide)).trans (hx607f.2.2 1 (by decide))]; exact (TT_vars (hx582p (by omega)).2).2 (by omega) v (by omega)
                  refine h_run 2 (pc' := 172) (l' := [(0, .inr (.inr 1826)), (1, .inl (l : Int)), (2, .inl hx582r)]) (st' := [.inl hx582r, .inr (.inr 1826)]) rfl ?_
                  have g639 : -2147483648 ≤ (H620.1 1826 30) ∧ (H620.1 1826 30) ≤ 2147483647 := hrg623.1 1826 13 30 _ .int rfl rfl
                  have g640 : -2147483648 ≤ (H620.1 1826 29) ∧ (H620.1 1826 29) ≤ 2147483647 := hrg623.1 1826 13 29 _ .int rfl rfl
                  have e641 : (H620.1 1826 29) = (H607.1 1826 29) := hx620f.2.2 29 (by decide)
                  have g643 : -2147483648 ≤ (H620.1 1826 32) ∧ (H620.1 1826 32) ≤ 2147483647 := hrg623.1 1826 13 32 _ .int rfl rfl
                  have g644 : -2147483648 ≤ (H620.1 1826 3) ∧ (H620.1 1826 3) ≤ 2147483647 := hrg623.1 1826 13 3 _ .int rfl rfl
                  have e645 : (H620.1 1826 3) = (H607.1 1826 3) := hx620f.2.2 3 (by decide)
                  have e646 : (H607.1 1826 3) = (H582.1 1826 3) := hx607f.2.2 3 (by decide)
                  have e647 : (H582.1 1826 3) = (H568.1 1826 3) := hx582f.2.2 3 (by decide)
                  have g648 : -2147483648 ≤ (H620.1 1826 8) ∧ (H620.1 1826 8) ≤ 2147483647 := hrg623.1 1826 13 8 _ .int rfl rfl
                  have e649 : (H620.1 1826 8) = (H607.1 1826 8) := hx620f.2.2 8 (by decide)
                  have e650 : (H607.1 1826 8) = (H582.1 1826 8) := hx607f.2.2 8 (by decide)
                  have e651 : (H582.1 1826 8) = (H568.1 1826 8) := hx582f.2.2 8 (by decide)
                  have g652 : -2147483648 ≤ (H620.1 1826 13) ∧ (H620.1 1826 13) ≤ 2147483647 := hrg623.1 1826 13 13 _ .int rfl rfl
                  have e653 : (H620.1 1826 13) = (H607.1 1826 13) := hx620f.2.2 13 (by decide)
                  have e654 : (H607.1 1826 13) = (H582.1 1826 13) := hx607f.2.2 13 (by decide)
                  have e655 : (H582.1 1826 13) = (H568.1 1826 13) := hx582f.2.2 13 (by decide)
                  have g656 : -2147483648 ≤ (H620.1 1826 19) ∧ (H620.1 1826 19) ≤ 2147483647 := hrg623.1 1826 13 19 _ .int rfl rfl
                  have e657 : (H620.1 1826 19) = (H607.1 1826 19) := hx620f.2.2 19 (by decide)
                  have e658 : (H607.1 1826 19) = (H582.1 1826 19) := hx607f.2.2 19 (by decide)
                  refine h_cv (i := 385) (j := 180) (b := 1826) (M' := mt_180) (xs := [.inl hx582r]) (rest := []) rfl rfl rfl rfl rfl rfl (Nat.le_of_ble_eq_true rfl) (Nat.le_of_ble_eq_true rfl) (by omega) (m_term (by omega) (by omega : 0 ≤ (H620.1 1826 30) ∧ (H620.1 1826 30) ≤ (H620.1 1826 29) ∧ (H620.1 1826 29) ≤ 1000) (by omega : 0 ≤ (H620.1 1826 35) ∧ (H620.1 1826 35) ≤ 5) (by omega : 0 ≤ (H620.1 1826 32) ∧ (H620.1 1826 32) ≤ 1000) (PWc_agp hP (agp_o (agp_o (agp_o ha625 (by decide)) (by decide)) (by decide)) ⟨(by omega : (H620.1 1826 1) = (H.1 1826 1)), (by omega : (H620.1 1826 3) = (H.1 1826 3)), (by omega : (H620.1 1826 8) = (H.1 1826 8)), (by omega : (H620.1 1826 13) = (H.1 1826 13)), (by omega : (H620.1 1826 19) = (H.1 1826 19))⟩) (by omega : 1 ≤ (H620.1 1826 44) ∧ (H620.1 1826 44) ≤ 3) (by omega : -1 ≤ hx582r ∧ hx582r < (H620.1 1826 1)) (by omega : 0 ≤ (0 : Int) ∧ (0 : Int) ≤ 10) (fun _ => ⟨rfl, rfl, rfl, (by omega : 0 ≤ (H620.1 1826 39) ∧ (H620.1 1826 39) ≤ 39 ∧ ((H620.1 1826 44) = 2 → (H620.1 1826 39) ≤ 6)), fun _ => hvt8⟩)) ?_
                  rintro _ H642 ⟨⟨hx642r, rfl, hx642x, hx642y⟩, hx642f, hx642a, hx642c, -, hx642e, hx642v, hx642p⟩
                  refine h_rng (fun hrg659 => ?_)
                  have hf660 : fr [30, 31, 32, 33, 35, 36, 19, 39, 40, 41, 43, 44, 47] [1841, 1842, 1843, 1844, 1845, 1846, 1847, 1849, 1850, 1851, 1852, 1853, 1854] H H642 := fr_t (fr_o (fr_o (fr_o hf624 (by decide)) (by decide)) (by decide)) hx642f (by decide) (by decide)
                  have ha661 : agp H H642 := agp_tr (agp_o (agp_o (agp_o ha625 (by decide)) (by decide)) (by decide)) (agp_fr hx642f (by decide) (by decide))
                  replace hx642y : hx642r < (H620.1 1826 1) := hx642y
                  replace hx642a : (H620.1 1826 30) ≤ (H642.1 1826 30) ∧ (H642.1 1826 30) ≤ (H620.1 1826 29) := hx642a
                  replace hx642v : ((H620.1 1826 44) ≠ 2 → (H642.1 1826 39) = (H620.1 1826 39)) ∧ (H620.1 1826 39) ≤ (H642.1 1826 39) := hx642v
                  have hx642k : (H642.1 1826 35) = 0 → 0 ≤ (H642.1 1826 43) ∧ (H642.1 1826 43) ≤ 40 := fun q9 => by obtain ⟨⟨k9, h9, h8, -⟩, -⟩ := hx642p q9; omega
                  have hx642w : (H642.1 1826 35) = 0 → 0 ≤ (H642.1 1826 39) ∧ (H642.1 1826 39) ≤ 39 ∧ ((H642.1 1826 44) = 2 → (H642.1 1826 39) ≤ 6) := fun q9 => (TT_vars (hx642p q9).2).1
                  refine h_run 0 (pc' := 175) (l' := [(0, .inr (.inr 1826)), (1, .inl (l : Int)), (2, .inl hx582r)]) (st' := [.inl hx642r]) rfl ?_
                  refine h_run 1 (pc' := 179) (l' := [(0, .inr (.inr 1826)), (1, .inl (l : Int)), (2, .inl hx582r)]) (st' := [.inl hx642r]) rfl ?_
                  have g662 : -2147483648 ≤ (H642.1 1826 35) ∧ (H642.1 1826 35) ≤ 2147483647 := hrg659.1 1826 13 35 _ .int rfl rfl
                  by_cases b663 : (H642.1 1826 35) = 0
                  · skip
                    replace hx642k := hx642k b663
                    replace hx642w := hx642w b663
                    refine h_run 7 (pc' := 186) (l' := [(0, .inr (.inr 1826)), (1, .inl (l : Int)), (2, .inl hx582r), (3, .inl hx642r)]) (st' := [.inl ((2 * (l : Int)) + 1), .inr (.inr 1826)]) rfl ?_
                    have g664 : -2147483648 ≤ (H642.1 1826 43) ∧ (H642.1 1826 43) ≤ 2147483647 := hrg659.1 1826 13 43 _ .int rfl rfl
                    have g665 : -2147483648 ≤ (H642.1 1826 19) ∧ (H642.1 1826 19) ≤ 2147483647 := hrg659.1 1826 13 19 _ .int rfl rfl
                    have e666 : (H642.1 1826 19) = (H620.1 1826 19) := hx642f.2.2 19 (by decide)
                    rw [show ((2 * (l : Int)) + 1) = ((2 * l + 1 : Nat) : Int) by omega]
                    refine h_cv (i := 390) (j := 188) (b := 1826) (M' := mt_188) (xs := [.inl ((2 * l + 1 : Nat) : Int)]) (rest := []) rfl rfl rfl rfl rfl rfl (Nat.le_of_ble_eq_true rfl) (Nat.le_of_ble_eq_true rfl) (by omega) (m_keepSide (by omega) (s := 2 * l + 1) (by omega : 2 * (H642.1 1826 19) ≤ ((2 * l + 1 : Nat) : Int) ∧ 2 * l + 1 ≤ 31) (by omega : (H642.1 1826 35) = 0 → 0 ≤ (H642.1 1826 43) ∧ (H642.1 1826 43) ≤ 40)) ?_
                    rintro _ H667 ⟨rfl, hx667f, hx667g, hx667z, hx667b, hx667c⟩
                    refine h_rng (fun hrg668 => ?_)
                    have hf669 : fr [30, 31, 32, 33, 35, 36, 19, 39, 40, 41, 43, 44, 47] [1841, 1842, 1843, 1844, 1845, 1846, 1847, 1849, 1850, 1851, 1852, 1853, 1854] H H667 := fr_t hf660 hx667f (by decide) (by decide)
                    have ha670 : agp H H667 := agp_tr ha661 hx667g
                    replace hx667c : hid _ := hx667c
                    refine h_run 0 (pc' := 189) (l' := [(0, .inr (.inr 1826)), (1, .inl (l : Int)), (2, .inl hx582r), (3, .inl hx642r)]) (st' := []) rfl ?_
                    refine h_run 1 (pc' := 190) (l' := [(0, .inr (.inr 1826)), (1, .inl (l : Int)), (2, .inl hx582r), (3, .inl hx642r)]) (st' := [.inr (.inr 1826)]) rfl ?_
                    have g671 : -2147483648 ≤ (H667.1 1826 35) ∧ (H667.1 1826 35) ≤ 2147483647 := hrg668.1 1826 13 35 _ .int rfl rfl
                    have e672 : (H667.1 1826 35) = (H642.1 1826 35) := hx667f.2.2 35 (by decide)
                    refine h_cv (i := 293) (j := 158) (b := 1826) (M' := mt_158) (xs := []) (rest := []) rfl rfl rfl rfl rfl rfl (Nat.le_of_ble_eq_true rfl) (Nat.le_of_ble_eq_true rfl) (by omega) (m_good1 (by omega) (by omega : (H667.1 1826 35) = 0)) ?_
                    rintro _ _ ⟨rfl, rfl⟩
                    refine h_run 0 (pc' := 193) (l' := [(0, .inr (.inr 1826)), (1, .inl (l : Int)), (2, .inl hx582r), (3, .inl hx642r)]) (st' := [.inl 1]) rfl ?_
                    refine h_zeq (off := 83) (t := 276) rfl rfl (by decide) (fun c => absurd c (by decide)) (fun _ => ?_)
                    have g673 : -2147483648 ≤ (H667.1 1826 44) ∧ (H667.1 1826 44) ≤ 2147483647 := hrg668.1 1826 13 44 _ .int rfl rfl
                    have e674 : (H667.1 1826 44) = (H642.1 1826 44) := hx667f.2.2 44 (by decide)
                    have e675 : (H642.1 1826 44) = (H620.1 1826 44) := hx642f.2.2 44 (by decide)
                    have g676 : -2147483648 ≤ (H667.1 1826 39) ∧ (H667.1 1826 39) ≤ 2147483647 := hrg668.1 1826 13 39 _ .int rfl rfl
                    have e677 : (H667.1 1826 39) = (H642.1 1826 39) := hx667f.2.2 39 (by decide)
                    have g678 : -2147483648 ≤ (H667.1 1826 1) ∧ (H667.1 1826 1) ≤ 2147483647 := hrg668.1 1826 13 1 _ .int rfl rfl
                    have e679 : (H667.1 1826 1) = (H642.1 1826 1) := hx667f.2.2 1 (by decide)
                    have e680 : (H642.1 1826 1) = (H620.1 1826 1) := hx642f.2.2 1 (by decide)
                    have g681 : -2147483648 ≤ (H667.1 1826 19) ∧ (H667.1 1826 19) ≤ 2147483647 := hrg668.1 1826 13 19 _ .int rfl rfl
                    have e682 : (H667.1 1826 19) = (H642.1 1826 19) := hx667f.2.2 19 (by decide)
                    have gk2 : (H642.1 1826 35) = 0 := by omega
                    have gk1 : (H582.1 1826 35) = 0 := by omega
                    obtain ⟨⟨k0, p1, p2, p3⟩, pT1⟩ := hx582p gk1
                    obtain ⟨⟨k1, q1, q2, q3⟩, qT2⟩ := hx642p gk2
                    have hs0 := LS_fr (LS_keep hx607f hx607z (hx607c gk1) p1 p2 p3) hx620f (by decide) (by decide)
                    have hs1 := LS_keep2 (LS_fr (id hs0 : LSd (zu (zu (zu H620 1826 (up (H620.1 1826) 40 0)) 1826 (up ((zu H620 1826 (up (H620.1 1826) 40 0)).1 1826) 41 0)) 1826 (up ((zu (zu H620 1826 (up (H620.1 1826) 40 0)) 1826 (up ((zu H620 1826 (up (H620.1 1826) 40 0)).1 1826) 41 0)).1 1826) 43 0)) _ _ _) hx642f (by decide) (by decide)) hx667f hx667z hx667b (by omega)
                    have hs2 := LS_keep hx667f hx667z (hx667c gk2) q1 q2 q3
                    have hvt := (TT_vars qT2).2 (by omega)
                    have hv9 : (H642.1 1826 39) = (((H667.1 1826 39)).toNat : Int) := by omega
                    have hs3 : LSd H667 (2 * l) k0 (((H667.1 1826 39)).toNat : Int) := LS_mono hs1 (by omega)
                    rw [hv9] at hs2
                    have hvt9 : ∀ x : Nat, (x : Int) < (H667.1 1826 39) → 0 ≤ (H667.1 1850) x ∧ (H667.1 1850) x < (H667.1 1826 1) := fun x hx => by rw [show (H667.1 1850) = (H642.1 1850) from (hx667f.2.1 1850 (by decide) (by decide)), show (H667.1 1826 1) = (H642.1 1826 1) from (hx667f.2.2 1 (by decide))]; exact hvt x (by omega)
                    refine h_run 5 (pc' := 203) (l' := [(0, .inr (.inr 1826)), (1, .inl (l : Int)), (2, .inl hx582r), (3, .inl hx642r)]) (st' := [.inl (-1), .inl hx582r, .inl (l : Int), .inr (.inr 1844)]) rfl ?_
                    refine h_ieq (off := 7) (t := 210) rfl rfl (by omega) (by decide) (fun c683 => ?_) (fun c683 => ?_)
                    · refine h_run 1 (pc' := 211) (l' := [(0, .inr (.inr 1826)), (1, .inl (l : Int)), (2, .inl hx582r), (3, .inl hx642r)]) (st' := [.inl hx642r, .inl (l : Int), .inr (.inr 1844)]) rfl ?_
                      refine h_ist (c := 1844) (j := l) (i := (l : Int)) (x := hx642r) rfl rfl (by decide) (by decide) rfl (by omega) (by omega) ?_
                      refine h_run 5 (pc' := 221) (l' := [(0, .inr (.inr 1826)), (1, .inl (l : Int)), (2, .inl hx582r), (3, .inl hx642r)]) (st' := [.inl (H667.1 1826 39), .inl (l : Int), .inr (.inr 1845)]) rfl ?_
                      refine h_ist (c := 1845) (j := l) (i := (l : Int)) (x := (H667.1 1826 39)) rfl rfl (by decide) (by decide) rfl (by omega) (by omega) ?_
                      refine h_run 2 (pc' := 225) (l' := [(0, .inr (.inr 1826)), (1, .inl (l : Int)), (2, .inl hx582r), (3, .inl hx642r), (4, .inl 0)]) (st' := []) rfl ?_
                      have g684 : -2147483648 ≤ (H667.1 1826 30) ∧ (H667.1 1826 30) ≤ 2147483647 := hrg668.1 1826 13 30 _ .int rfl rfl
                      have e685 : (H667.1 1826 30) = (H642.1 1826 30) := hx667f.2.2 30 (by decide)
                      have g686 : -2147483648 ≤ (H667.1 1826 32) ∧ (H667.1 1826 32) ≤ 2147483647 := hrg668.1 1826 13 32 _ .int rfl rfl
                      have e687 : (H667.1 1826 32) = (H642.1 1826 32) := hx667f.2.2 32 (by decide)
                      have g688 : -2147483648 ≤ (H667.1 1826 31) ∧ (H667.1 1826 31) ≤ 2147483647 := hrg668.1 1826 13 31 _ .int rfl rfl
                      have e689 : (H667.1 1826 31) = (H642.1 1826 31) := hx667f.2.2 31 (by decide)
                      have g690 : -2147483648 ≤ (H667.1 1826 29) ∧ (H667.1 1826 29) ≤ 2147483647 := hrg668.1 1826 13 29 _ .int rfl rfl
                      have e691 : (H667.1 1826 29) = (H642.1 1826 29) := hx667f.2.2 29 (by decide)
                      have e692 : (H642.1 1826 29) = (H620.1 1826 29) := hx642f.2.2 29 (by decide)
                      have g693 : -2147483648 ≤ (H667.1 1826 3) ∧ (H667.1 1826 3) ≤ 2147483647 := hrg668.1 1826 13 3 _ .int rfl rfl
                      have e694 : (H667.1 1826 3) = (H642.1 1826 3) := hx667f.2.2 3 (by decide)
                      have e695 : (H642.1 1826 3) = (H620.1 1826 3) := hx642f.2.2 3 (by decide)
                      have g696 : -2147483648 ≤ (H667.1 1826 8) ∧ (H667.1 1826 8) ≤ 2147483647 := hrg668.1 1826 13 8 _ .int rfl rfl
                      have e697 : (H667.1 1826 8) = (H642.1 1826 8) := hx667f.2.2 8 (by decide)
                      have e698 : (H642.1 1826 8) = (H620.1 1826 8) := hx642f.2.2 8 (by decide)
                      have g699 : -2147483648 ≤ (H667.1 1826 13) ∧ (H667.1 1826 13) ≤ 2147483647 := hrg668.1 1826 13 13 _ .int rfl rfl
                      have e700 : (H667.1 1826 13) = (H642.1 1826 13) := hx667f.2.2 13 (by decide)
                      have e701 : (H642.1 1826 13) = (H620.1 1826 13) := hx642f.2.2 13 (by decide)
                      refine h_loc [0, 1, 4] rfl ?_
                      exact (m_tellLaw_cut hd h0 hw hst hP hw0 _) _ (l) 0 (k0) (k1) (((H667.1 1826 39)).toNat) (fr_a (fr_a hf669 (by decide)) (by decide)) (by omega : (H.1 1826 30) ≤ (H667.1 1826 30) ∧ (H667.1 1826 30) ≤ (H.1 1826 29)) (by omega : 0 ≤ (H667.1 1826 35) ∧ (H667.1 1826 35) ≤ 5) (by omega : 0 ≤ (H667.1 1826 32) ∧ (H667.1 1826 32) ≤ 1000) (agp_1845 (agp_a ha670 (by decide)) (by omega : (H.1 1826 19) ≤ ((l : Nat) : Int))) (by omega) (by omega : (H667.1 1826 35) = 0) (by omega : ((l) : Int) = (H.1 1826 19) ∧ (H.1 1826 19) ≤ 15) (by omega : (H667.1 1826 1) = (H.1 1826 1) ∧ (H667.1 1826 3) = (H.1 1826 3) ∧ (H667.1 1826 8) = (H.1 1826 8) ∧ (H667.1 1826 13) = (H.1 1826 13) ∧ (H667.1 1826 19) = (H.1 1826 19)) hs3 hs2 (show up (H667.1 1845) l ((H667.1 1826 39)) l = _ by rw [up_eq]; omega) (by omega : (H667.1 1826 39) = (((H667.1 1826 39)).toNat) ∧ (((H667.1 1826 39)).toNat) ≤ 6) hvt9 (by omega) (fun x hx => absurd hx (Nat.not_lt_zero _)) (Nat.lt_succ_self _)
                    · refine h_run 2 (pc' := 211) (l' := [(0, .inr (.inr 1826)), (1, .inl (l : Int)), (2, .inl hx582r), (3, .inl hx642r)]) (st' := [.inl hx582r, .inl (l : Int), .inr (.inr 1844)]) rfl ?_
                      refine h_ist (c := 1844) (j := l) (i := (l : Int)) (x := hx582r) rfl rfl (by decide) (by decide) rfl (by omega) (by omega) ?_
                      refine h_run 5 (pc' := 221) (l' := [(0, .inr (.inr 1826)), (1, .inl (l : Int)), (2, .inl hx582r), (3, .inl hx642r)]) (st' := [.inl (H667.1 1826 39), .inl (l : Int), .inr (.inr 1845)]) rfl ?_
                      refine h_ist (c := 1845) (j := l) (i := (l : Int)) (x := (H667.1 1826 39)) rfl rfl (by decide) (by decide) rfl (by omega) (by omega) ?_
                      refine h_run 2 (pc' := 225) (l' := [(0, .inr (.inr 1826)), (1, .inl (l : Int)), (2, .inl hx582r), (3, .inl hx642r), (4, .inl 0)]) (st' := []) rfl ?_
                      have g702 : -2147483648 ≤ (H667.1 1826 30) ∧ (H667.1 1826 30) ≤ 2147483647 := hrg668.1 1826 13 30 _ .int rfl rfl
                      have e703 : (H667.1 1826 30) = (H642.1 1826 30) := hx667f.2.2 30 (by decide)
                      have g704 : -2147483648 ≤ (H667.1 1826 32) ∧ (H667.1 1826 32) ≤ 2147483647 := hrg668.1 1826 13 32 _ .int rfl rfl
                      have e705 : (H667.1 1826 32) = (H642.1 1826 32) := hx667f.2.2 32 (by decide)
                      have g706 : -2147483648 ≤ (H667.1 1826 31) ∧ (H667.1 1826 31) ≤ 2147483647 := hrg668.1 1826 13 31 _ .int rfl rfl
                      have e707 : (H667.1 1826 31) = (H642.1 1826 31) := hx667f.2.2 31 (by decide)
                      have g708 : -2147483648 ≤ (H667.1 1826 29) ∧ (H667.1 1826 29) ≤ 2147483647 := hrg668.1 1826 13 29 _ .int rfl rfl
                      have e709 : (H667.1 1826 29) = (H642.1 1826 29) := hx667f.2.2 29 (by decide)
                      have e710 : (H642.1 1826 29) = (H620.1 1826 29) := hx642f.2.2 29 (by decide)
                      have g711 : -2147483648 ≤ (H667.1 1826 3) ∧ (H667.1 1826 3) ≤ 2147483647 := hrg668.1 1826 13 3 _ .int rfl rfl
                      have e712 : (H667.1 1826 3) = (H642.1 1826 3) := hx667f.2.2 3 (by decide)
                      have e713 : (H642.1 1826 3) = (H620.1 1826 3) := hx642f.2.2 3 (by decide)
                      have g714 : -2147483648 ≤ (H667.1 1826 8) ∧ (H667.1 1826 8) ≤ 2147483647 := hrg668.1 1826 13 8 _ .int rfl rfl
                      have e715 : (H667.1 1826 8) = (H642.1 1826 8) := hx667f.2.2 8 (by decide)
                      have e716 : (H642.1 1826 8) = (H620.1 1826 8) := hx642f.2.2 8 (by decide)
                      have g717 : -2147483648 ≤ (H667.1 1826 13) ∧ (H667.1 1826 13) ≤ 2147483647 := hrg668.1 1826 13 13 _ .int rfl rfl
                      have e718 : (H667.1 1826 13) = (H642.1 1826 13) := hx667f.2.2 13 (by decide)
                      have e719 : (H642.1 1826 13) = (H620.1 1826 13) := hx642f.2.2 13 (by decide)
                      refine h_loc [0, 1, 4] rfl ?_
                      exact (m_tellLaw_cut hd h0 hw hst hP hw0 _) _ (l) 0 (k0) (k1) (((H667.1 1826 39)).toNat) (fr_a (fr_a hf669 (by decide)) (by decide)) (by omega : (H.1 1826 30) ≤ (H667.1 1826 30) ∧ (H667.1 1826 30) ≤ (H.1 1826 29)) (by omega : 0 ≤ (H667.1 1826 35) ∧ (H667.1 1826 35) ≤ 5) (by omega : 0 ≤ (H667.1 1826 32) ∧ (H667.1 1826 32) ≤ 1000) (agp_1845 (agp_a ha670 (by decide)) (by omega : (H.1 1826 19) ≤ ((l : Nat) : Int))) (by omega) (by omega : (H667.1 1826 35) = 0) (by omega : ((l) : Int) = (H.1 1826 19) ∧ (H.1 1826 19) ≤ 15) (by omega : (H667.1 1826 1) = (H.1 1826 1) ∧ (H667.1 1826 3) = (H.1 1826 3) ∧ (H667.1 1826 8) = (H.1 1826 8) ∧ (H667.1 1826 13) = (H.1 1826 13) ∧ (H667.1 1826 19) = (H.1 1826 19)) hs3 hs2 (show up (H667.1 1845) l ((H667.1 1826 39)) l = _ by rw [up_eq]; omega) (by omega : (H667.1 1826 39) = (((H667.1 1826 39)).toNat) ∧ (((H667.1 1826 39)).toNat) ≤ 6) hvt9 (by omega) (fun x hx => absurd hx (Nat.not_lt_zero _)) (Nat.lt_succ_self _)
                  · skip
                    clear hx642k
                    clear hx642w
                    refine h_run 7 (pc' := 186) (l' := [(0, .inr (.inr 1826)), (1, .inl (l : Int)), (2, .inl hx582r), (3, .inl hx642r)]) (st' := [.inl ((2 * (l : Int)) + 1), .inr (.inr 1826)]) rfl ?_
                    have g720 : -2147483648 ≤ (H642.1 1826 43) ∧ (H642.1 1826 43) ≤ 2147483647 := hrg659.1 1826 13 43 _ .int rfl rfl
                    have g721 : -2147483648 ≤ (H642.1 1826 19) ∧ (H642.1 1826 19) ≤ 2147483647 := hrg659.1 1826 13 19 _ .int rfl rfl
                    have e722 : (H642.1 1826 19) = (H620.1 1826 19) := hx642f.2.2 19 (by decide)
                    rw [show ((2 * (l : Int)) + 1) = ((2 * l + 1 : Nat) : Int) by omega]
                    refine h_cv (i := 390) (j := 188) (b := 1826) (M' := mt_188) (xs := [.inl ((2 * l + 1 : Nat) : Int)]) (rest := []) rfl rfl rfl rfl rfl rfl (Nat.le_of_ble_eq_true rfl) (Nat.le_of_ble_eq_true rfl) (by omega) (m_keepSide (by omega) (s := 2 * l + 1) (by omega : 2 * (H642.1 1826 19) ≤ ((2 * l + 1 : Nat) : Int) ∧ 2 * l + 1 ≤ 31) (by omega : (H642.1 1826 35) = 0 → 0 ≤ (H642.1 1826 43) ∧ (H642.1 1826 43) ≤ 40)) ?_
                    rintro _ H723 ⟨rfl, hx723f, hx723g, hx723z, hx723b, hx723c⟩
                    refine h_rng (fun hrg724 => ?_)
                    have hf725 : fr [30, 31, 32, 33, 35, 36, 19, 39, 40, 41, 43, 44, 47] [1841, 1842, 1843, 1844, 1845, 1846, 1847, 1849, 1850, 1851, 1852, 1853, 1854] H H723 := fr_t hf660 hx723f (by decide) (by decide)
                    have ha726 : agp H H723 := agp_tr ha661 hx723g
                    replace hx723c : hid _ := hx723c
                    refine h_run 0 (pc' := 189) (l' := [(0, .inr (.inr 1826)), (1, .inl (l : Int)), (2, .inl hx582r), (3, .inl hx642r)]) (st' := []) rfl ?_
                    refine h_run 1 (pc' := 190) (l' := [(0, .inr (.inr 1826)), (1, .inl (l : Int)), (2, .inl hx582r), (3, .inl hx642r)]) (st' := [.inr (.inr 1826)]) rfl ?_
                    have g727 : -2147483648 ≤ (H723.1 1826 35) ∧ (H723.1 1826 35) ≤ 2147483647 := hrg724.1 1826 13 35 _ .int rfl rfl
                    have e728 : (H723.1 1826 35) = (H642.1 1826 35) := hx723f.2.2 35 (by decide)
                    refine h_cv (i := 293) (j := 158) (b := 1826) (M' := mt_158) (xs := []) (rest := []) rfl rfl rfl rfl rfl rfl (Nat.le_of_ble_eq_true rfl) (Nat.le_of_ble_eq_true rfl) (by omega) (m_good0 (by omega) (by omega : (H723.1 1826 35) ≠ 0)) ?_
                    rintro _ _ ⟨rfl, rfl⟩
                    refine h_run 0 (pc' := 193) (l' := [(0, .inr (.inr 1826)), (1, .inl (l : Int)), (2, .inl hx582r), (3, .inl hx642r)]) (st' := [.inl 0]) rfl ?_
                    refine h_zeq (off := 83) (t := 276) rfl rfl (by decide) (fun _ => ?_) (fun c => absurd c (by decide))
                    refine h_ret rfl rfl ?_
                    have g729 : -2147483648 ≤ (H723.1 1826 30) ∧ (H723.1 1826 30) ≤ 2147483647 := hrg724.1 1826 13 30 _ .int rfl rfl
                    have e730 : (H723.1 1826 30) = (H642.1 1826 30) := hx723f.2.2 30 (by decide)
                    have g731 : -2147483648 ≤ (H723.1 1826 32) ∧ (H723.1 1826 32) ≤ 2147483647 := hrg724.1 1826 13 32 _ .int rfl rfl
                    have e732 : (H723.1 1826 32) = (H642.1 1826 32) := hx723f.2.2 32 (by decide)
                    have g733 : -2147483648 ≤ (H723.1 1826 31) ∧ (H723.1 1826 31) ≤ 2147483647 := hrg724.1 1826 13 31 _ .int rfl rfl
                    have e734 : (H723.1 1826 31) = (H642.1 1826 31) := hx723f.2.2 31 (by decide)
                    have g735 : -2147483648 ≤ (H723.1 1826 29) ∧ (H723.1 1826 29) ≤ 2147483647 := hrg724.1 1826 13 29 _ .int rfl rfl
                    have e736 : (H723.1 1826 29) = (H642.1 1826 29) := hx723f.2.2 29 (by decide)
                    have e737 : (H642.1 1826 29) = (H620.1 1826 29) := hx642f.2.2 29 (by decide)
                    have g738 : -2147483648 ≤ (H723.1 1826 1) ∧ (H723.1 1826 1) ≤ 2147483647 := hrg724.1 1826 13 1 _ .int rfl rfl
                    have e739 : (H723.1 1826 1) = (H642.1 1826 1) := hx723f.2.2 1 (by decide)
                    have e740 : (H642.1 1826 1) = (H620.1 1826 1) := hx642f.2.2 1 (by decide)
                    have g741 : -2147483648 ≤ (H723.1 1826 3) ∧ (H723.1 1826 3) ≤ 2147483647 := hrg724.1 1826 13 3 _ .int rfl rfl
                    have e742 : (H723.1 1826 3) = (H642.1 1826 3) := hx723f.2.2 3 (by decide)
                    have e743 : (H642.1 1826 3) = (H620.1 1826 3) := hx642f.2.2 3 (by decide)
                    have g744 : -2147483648 ≤ (H723.1 1826 8) ∧ (H723.1 1826 8) ≤ 2147483647 := hrg724.1 1826 13 8 _ .int rfl rfl
                    have e745 : (H723.1 1826 8) = (H642.1 1826 8) := hx723f.2.2 8 (by decide)
                    have e746 : (H642.1 1826 8) = (H620.1 1826 8) := hx642f.2.2 8 (by decide)
                    have g747 : -2147483648 ≤ (H723.1 1826 13) ∧ (H723.1 1826 13) ≤ 2147483647 := hrg724.1 1826 13 13 _ .int rfl rfl
                    have e748 : (H723.1 1826 13) = (H642.1 1826 13) := hx723f.2.2 13 (by decide)
                    have e749 : (H642.1 1826 13) = (H620.1 1826 13) := hx642f.2.2 13 (by decide)
                    have g750 : -2147483648 ≤ (H723.1 1826 19) ∧ (H723.1 1826 19) ≤ 2147483647 := hrg724.1 1826 13 19 _ .int rfl rfl
                    have e751 : (H723.1 1826 19) = (H642.1 1826 19) := hx723f.2.2 19 (by decide)
                    have g752 : -2147483648 ≤ (H723.1 1826 39) ∧ (H723.1 1826 39) ≤ 2147483647 := hrg724.1 1826 13 39 _ .int rfl rfl
                    have e753 : (H723.1 1826 39) = (H642.1 1826 39) := hx723f.2.2 39 (by decide)
                    exact ⟨rfl, hf725, (by omega : (H.1 1826 30) ≤ (H723.1 1826 30) ∧ (H723.1 1826 30) ≤ (H.1 1826 29)), (by omega : 0 ≤ (H723.1 1826 35) ∧ (H723.1 1826 35) ≤ 5), (by omega : (H.1 1826 35) ≠ 0 → (H723.1 1826 35) ≠ 0), (by omega : 0 ≤ (H723.1 1826 32) ∧ (H723.1 1826 32) ≤ 1000), ha726, (fun (q : (H723.1 1826 35) = 0) => absurd q (by omega))⟩
                · skip
                  clear hx620g
                  refine h_run 2 (pc' := 150) (l' := [(0, .inr (.inr 1826)), (1, .inl (l : Int)), (2, .inl hx582r)]) (st' := [.inl 0, .inr (.inr 1826)]) rfl ?_
                  refine h_puti (i := 300) (ci := 13) (k := 40) (a := 1826) (x := 0) rfl rfl rfl rfl rfl rfl (by decide) (by decide) ?_
                  refine h_run 2 (pc' := 155) (l' := [(0, .inr (.inr 1826)), (1, .inl (l : Int)), (2, .inl hx582r)]) (st' := [.inl 0, .inr (.inr 1826)]) rfl ?_
                  refine h_puti (i := 335) (ci := 13) (k := 41) (a := 1826) (x := 0) rfl rfl rfl rfl rfl rfl (by decide) (by decide) ?_
                  refine h_run 2 (pc' := 160) (l' := [(0, .inr (.inr 1826)), (1, .inl (l : Int)), (2, .inl hx582r)]) (st' := [.inl 0, .inr (.inr 1826)]) rfl ?_
                  refine h_puti (i := 303) (ci := 13) (k := 43) (a := 1826) (x := 0) rfl rfl rfl rfl rfl rfl (by decide) (by decide) ?_
                  refine h_run 1 (pc' := 164) (l' := [(0, .inr (.inr 1826)), (1, .inl (l : Int)), (2, .inl hx582r)]) (st' := [.inr (.inr 1826)]) rfl ?_
                  refine h_cv (i := 293) (j := 158) (b := 1826) (M' := mt_158) (xs := []) (rest := []) rfl rfl rfl rfl rfl rfl (Nat.le_of_ble_eq_true rfl) (Nat.le_of_ble_eq_true rfl) (by omega) (m_good0 (by omega) (by omega : (H620.1 1826 35) ≠ 0)) ?_
                  rintro _ _ ⟨rfl, rfl⟩
                  refine h_run 0 (pc' := 167) (l' := [(0, .inr (.inr 1826)), (1, .inl (l : Int)), (2, .inl hx582r)]) (st' := [.inl 0]) rfl ?_
                  refine h_zeq (off := 11) (t := 178) rfl rfl (by decide) (fun _ => ?_) (fun c => absurd c (by decide))
                  refine h_run 1 (pc' := 179) (l' := [(0, .inr (.inr 1826)), (1, .inl (l : Int)), (2, .inl hx582r)]) (st' := [.inl (-1)]) rfl ?_
                  refine h_run 7 (pc' := 186) (l' := [(0, .inr (.inr 1826)), (1, .inl (l : Int)), (2, .inl hx582r), (3, .inl (-1))]) (st' := [.inl ((2 * (l : Int)) + 1), .inr (.inr 1826)]) rfl ?_
                  have g754 : -2147483648 ≤ (H620.1 1826 19) ∧ (H620.1 1826 19) ≤ 2147483647 := hrg623.1 1826 13 19 _ .int rfl rfl
                  have e755 : (H620.1 1826 19) = (H607.1 1826 19) := hx620f.2.2 19 (by decide)
                  have e756 : (H607.1 1826 19) = (H582.1 1826 19) := hx607f.2.2 19 (by decide)
                  rw [show ((2 * (l : Int)) + 1) = ((2 * l + 1 : Nat) : Int) by omega]
                  refine h_cv (i := 390) (j := 188) (b := 1826) (M' := mt_188) (xs := [.inl ((2 * l + 1 : Nat) : Int)]) (rest := []) rfl rfl rfl rfl rfl rfl (Nat.le_of_ble_eq_true rfl) (Nat.le_of_ble_eq_true rfl) (by omega) (m_keepSide (by omega) (s := 2 * l + 1) (by omega : 2 * (H620.1 1826 19) ≤ ((2 * l + 1 : Nat) : Int) ∧ 2 * l + 1 ≤ 31) (by omega : (H620.1 1826 35) = 0 → 0 ≤ (0 : Int) ∧ (0 : Int) ≤ 40)) ?_
                  rintro _ H757 ⟨rfl, hx757f, hx757g, hx757z, hx757b, hx757c⟩
                  refine h_rng (fun hrg758 => ?_)
                  have hf759 : fr [30, 31, 32, 33, 35, 36, 19, 39, 40, 41, 43, 44, 47] [1841, 1842, 1843, 1844, 1845, 1846, 1847, 1849, 1850, 1851, 1852, 1853, 1854] H H757 := fr_t (fr_o (fr_o (fr_o hf624 (by decide)) (by decide)) (by decide)) hx757f (by decide) (by decide)
                  have ha760 : agp H H757 := agp_tr (agp_o (agp_o (agp_o ha625 (by decide)) (by decide)) (by decide)) hx757g
                  replace hx757c : hid _ := hx757c
                  refine h_run 0 (pc' := 189) (l' := [(0, .inr (.inr 1826)), (1, .inl (l : Int)), (2, .inl hx582r), (3, .inl (-1))]) (st' := []) rfl ?_
                  refine h_run 1 (pc' := 190) (l' := [(0, .inr (.inr 1826)), (1, .inl (l : Int)), (2, .inl hx582r), (3, .inl (-1))]) (st' := [.inr (.inr 1826)]) rfl ?_
                  have g761 : -2147483648 ≤ (H757.1 1826 35) ∧ (H757.1 1826 35) ≤ 2147483647 := hrg758.1 1826 13 35 _ .int rfl rfl
                  have e762 : (H757.1 1826 35) = (H620.1 1826 35) := hx757f.2.2 35 (by decide)
                  refine h_cv (i := 293) (j := 158) (b := 1826) (M' := mt_158) (xs := []) (rest := []) rfl rfl rfl rfl rfl rfl (Nat.le_of_ble_eq_true rfl) (Nat.le_of_ble_eq_true rfl) (by omega) (m_good0 (by omega) (by omega : (H757.1 1826 35) ≠ 0)) ?_
                  rintro _ _ ⟨rfl, rfl⟩
                  refine h_run 0 (pc' := 193) (l' := [(0, .inr (.inr 1826)), (1, .inl (l : Int)), (2, .inl hx582r), (3, .inl (-1))]) (st' := [.inl 0]) rfl ?_
                  refine h_zeq (off := 83) (t := 276) rfl rfl (by decide) (fun _ => ?_) (fun c => absurd c (by decide))
                  refine h_ret rfl rfl ?_
                  have g763 : -2147483648 ≤ (H757.1 1826 30) ∧ (H757.1 1826 30) ≤ 2147483647 := hrg758.1 1826 13 30 _ .int rfl rfl
                  have e764 : (H757.1 1826 30) = (H620.1 1826 30) := hx757f.2.2 30 (by decide)
                  have g765 : -2147483648 ≤ (H757.1 1826 32) ∧ (H757.1 1826 32) ≤ 2147483647 := hrg758.1 1826 13 32 _ .int rfl rfl
                  have e766 : (H757.1 1826 32) = (H620.1 1826 32) := hx757f.2.2 32 (by decide)
                  have g767 : -2147483648 ≤ (H757.1 1826 31) ∧ (H757.1 1826 31) ≤ 2147483647 := hrg758.1 1826 13 31 _ .int rfl rfl
                  have e768 : (H757.1 1826 31) = (H620.1 1826 31) := hx757f.2.2 31 (by decide)
                  have g769 : -2147483648 ≤ (H757.1 1826 29) ∧ (H757.1 1826 29) ≤ 2147483647 := hrg758.1 1826 13 29 _ .int rfl rfl
                  have e770 : (H757.1 1826 29) = (H620.1 1826 29) := hx757f.2.2 29 (by decide)
                  have e771 : (H620.1 1826 29) = (H607.1 1826 29) := hx620f.2.2 29 (by decide)
                  have g772 : -2147483648 ≤ (H757.1 1826 1) ∧ (H757.1 1826 1) ≤ 2147483647 := hrg758.1 1826 13 1 _ .int rfl rfl
                  have e773 : (H757.1 1826 1) = (H620.1 1826 1) := hx757f.2.2 1 (by decide)
                  have e774 : (H620.1 1826 1) = (H607.1 1826 1) := hx620f.2.2 1 (by decide)
                  have e775 : (H607.1 1826 1) = (H582.1 1826 1) := hx607f.2.2 1 (by decide)
                  have e776 : (H582.1 1826 1) = (H568.1 1826 1) := hx582f.2.2 1 (by decide)
                  have g777 : -2147483648 ≤ (H757.1 1826 3) ∧ (H757.1 1826 3) ≤ 2147483647 := hrg758.1 1826 13 3 _ .int rfl rfl
                  have e778 : (H757.1 1826 3) = (H620.1 1826 3) := hx757f.2.2 3 (by decide)
                  have e779 : (H620.1 1826 3) = (H607.1 1826 3) := hx620f.2.2 3 (by decide)
                  have e780 : (H607.1 1826 3) = (H582.1 1826 3) := hx607f.2.2 3 (by decide)
                  have e781 : (H582.1 1826 3) = (H568.1 1826 3) := hx582f.2.2 3 (by decide)
                  have g782 : -2147483648 ≤ (H757.1 1826 8) ∧ (H757.1 1826 8) ≤ 2147483647 := hrg758.1 1826 13 8 _ .int rfl rfl
                  have e783 : (H757.1 1826 8) = (H620.1 1826 8) := hx757f.2.2 8 (by decide)
                  have e784 : (H620.1 1826 8) = (H607.1 1826 8) := hx620f.2.2 8 (by decide)
                  have e785 : (H607.1 1826 8) = (H582.1 1826 8) := hx607f.2.2 8 (by decide)
                  have e786 : (H582.1 1826 8) = (H568.1 1826 8) := hx582f.2.2 8 (by decide)
                  have g787 : -2147483648 ≤ (H757.1 1826 13) ∧ (H757.1 1826 13) ≤ 2147483647 := hrg758.1 1826 13 13 _ .int rfl rfl
                  have e788 : (H757.1 1826 13) = (H620.1 1826 13) := hx757f.2.2 13 (by decide)
                  have e789 : (H620.1 1826 13) = (H607.1 1826 13) := hx620f.2.2 13 (by decide)
                  have e790 : (H607.1 1826 13) = (H582.1 1826 13) := hx607f.2.2 13 (by decide)
                  have e791 : (H582.1 1826 13) = (H568.1 1826 13) := hx582f.2.2 13 (by decide)
                  have g792 : -2147483648 ≤ (H757.1 1826 19) ∧ (H757.1 1826 19) ≤ 2147483647 := hrg758.1 1826 13 19 _ .int rfl rfl
                  have e793 : (H757.1 1826 19) = (H620.1 1826 19) := hx757f.2.2 19 (by decide)
                  have g794 : -2147483648 ≤ (H757.1 1826 39) ∧ (H757.1 1826 39) ≤ 2147483647 := hrg758.1 1826 13 39 _ .int rfl rfl
                  have e795 : (H757.1 1826 39) = (H620.1 1826 39) := hx757f.2.2 39 (by decide)
                  have e796 : (H620.1 1826 39) = (H607.1 1826 39) := hx620f.2.2 39 (by decide)
                  have e797 : (H607.1 1826 39) = (H582.1 1826 39) := hx607f.2.2 39 (by decide)
                  exact ⟨rfl, hf759, (by omega : (H.1 1826 30) ≤ (H757.1 1826 30) ∧ (H757.1 1826 30) ≤ (H.1 1826 29)), (by omega : 0 ≤ (H757.1 1826 35) ∧ (H757.1 1826 35) ≤ 5), (by omega : (H.1 1826 35) ≠ 0 → (H757.1 1826 35) ≠ 0), (by omega : 0 ≤ (H757.1 1826 32) ∧ (H757.1 1826 32) ≤ 1000), ha760, (fun (q : (H757.1 1826 35) = 0) => absurd q (by omega))⟩
              · skip
                clear hx582k
                clear hx582w
                refine h_run 5 (pc' := 139) (l' := [(0, .inr (.inr 1826)), (1, .inl (l : Int)), (2, .inl hx582r)]) (st' := [.inl (2 * (l : Int)), .inr (.inr 1826)]) rfl ?_
                have g798 : -2147483648 ≤ (H582.1 1826 43) ∧ (H582.1 1826 43) ≤ 2147483647 := hrg599.1 1826 13 43 _ .int rfl rfl
                have g799 : -2147483648 ≤ (H582.1 1826 19) ∧ (H582.1 1826 19) ≤ 2147483647 := hrg599.1 1826 13 19 _ .int rfl rfl
                have e800 : (H582.1 1826 19) = (H568.1 1826 19) := hx582f.2.2 19 (by decide)
                rw [show (2 * (l : Int)) = ((2 * l : Nat) : Int) by omega]
                refine h_cv (i := 390) (j := 188) (b := 1826) (M' := mt_188) (xs := [.inl ((2 * l : Nat) : Int)]) (rest := []) rfl rfl rfl rfl rfl rfl (Nat.le_of_ble_eq_true rfl) (Nat.le_of_ble_eq_true rfl) (by omega) (m_keepSide (by omega) (s := 2 * l) (by omega : 2 * (H582.1 1826 19) ≤ ((2 * l : Nat) : Int) ∧ 2 * l ≤ 31) (by omega : (H582.1 1826 35) = 0 → 0 ≤ (H582.1 1826 43) ∧ (H582.1 1826 43) ≤ 40)) ?_
                rintro _ H801 ⟨rfl, hx801f, hx801g, hx801z, hx801b, hx801c⟩
                refine h_rng (fun hrg802 => ?_)
                have hf803 : fr [30, 31, 32, 33, 35, 36, 19, 39, 40, 41, 43, 44, 47] [1841, 1842, 1843, 1844, 1845, 1846, 1847, 1849, 1850, 1851, 1852, 1853, 1854] H H801 := fr_t hf600 hx801f (by decide) (by decide)
                have ha804 : agp H H801 := agp_tr ha601 hx801g
                replace hx801c : hid _ := hx801c
                refine h_run 0 (pc' := 142) (l' := [(0, .inr (.inr 1826)), (1, .inl (l : Int)), (2, .inl hx582r)]) (st' := []) rfl ?_
                refine h_run 2 (pc' := 145) (l' := [(0, .inr (.inr 1826)), (1, .inl (l : Int)), (2, .inl hx582r)]) (st' := [.inl 61, .inr (.inr 1826)]) rfl ?_
                have g805 : -2147483648 ≤ (H801.1 1826 30) ∧ (H801.1 1826 30) ≤ 2147483647 := hrg802.1 1826 13 30 _ .int rfl rfl
                have e806 : (H801.1 1826 30) = (H582.1 1826 30) := hx801f.2.2 30 (by decide)
                have g807 : -2147483648 ≤ (H801.1 1826 29) ∧ (H801.1 1826 29) ≤ 2147483647 := hrg802.1 1826 13 29 _ .int rfl rfl
                have e808 : (H801.1 1826 29) = (H582.1 1826 29) := hx801f.2.2 29 (by decide)
                have e809 : (H582.1 1826 29) = (H568.1 1826 29) := hx582f.2.2 29 (by decide)
                have g810 : -2147483648 ≤ (H801.1 1826 35) ∧ (H801.1 1826 35) ≤ 2147483647 := hrg802.1 1826 13 35 _ .int rfl rfl
                have e811 : (H801.1 1826 35) = (H582.1 1826 35) := hx801f.2.2 35 (by decide)
                have g812 : -2147483648 ≤ (H801.1 1826 31) ∧ (H801.1 1826 31) ≤ 2147483647 := hrg802.1 1826 13 31 _ .int rfl rfl
                have e813 : (H801.1 1826 31) = (H582.1 1826 31) := hx801f.2.2 31 (by decide)
                have g815 : -2147483648 ≤ (H801.1 1826 32) ∧ (H801.1 1826 32) ≤ 2147483647 := hrg802.1 1826 13 32 _ .int rfl rfl
                have e816 : (H801.1 1826 32) = (H582.1 1826 32) := hx801f.2.2 32 (by decide)
                refine h_cv (i := 313) (j := 166) (b := 1826) (M' := mt_166) (xs := [.inl 61]) (rest := []) rfl rfl rfl rfl rfl rfl (Nat.le_of_ble_eq_true rfl) (Nat.le_of_ble_eq_true rfl) (by omega) (m_want (by omega) (by omega : 0 ≤ (H801.1 1826 30) ∧ (H801.1 1826 30) ≤ (H801.1 1826 29) ∧ (H801.1 1826 29) ≤ 1000) (by omega : 0 ≤ (H801.1 1826 35) ∧ (H801.1 1826 35) ≤ 5) (by omega : 0 ≤ (H801.1 1826 32) ∧ (H801.1 1826 32) ≤ 1000) (by omega)) ?_
                rintro _ H814 ⟨rfl, hx814f, hx814a, hx814b, hx814c, hx814d, hx814e, hx814g⟩
                refine h_rng (fun hrg817 => ?_)
                have hf818 : fr [30, 31, 32, 33, 35, 36, 19, 39, 40, 41, 43, 44, 47] [1841, 1842, 1843, 1844, 1845, 1846, 1847, 1849, 1850, 1851, 1852, 1853, 1854] H H814 := fr_t hf803 hx814f (by decide) (by decide)
                have ha819 : agp H H814 := agp_tr ha804 (agp_fr hx814f (by decide) (by decide))
                replace hx814a : (H801.1 1826 30) ≤ (H814.1 1826 30) := hx814a
                replace hx814b : (H814.1 1826 30) ≤ (H801.1 1826 29) := hx814b
                replace hx814d : (H814.1 1826 35) = (H801.1 1826 35) := hx814d (by omega : (H801.1 1826 35) ≠ 0)
                replace hx814g : (H814.1 1826 35) = 0 → (H801.1 1826 31) = (61 : Int) ∧ ((H814.1 1826 31) = 0 ∨ (H801.1 1826 30) < (H814.1 1826 30)) := hx814g
                refine h_run 0 (pc' := 148) (l' := [(0, .inr (.inr 1826)), (1, .inl (l : Int)), (2, .inl hx582r)]) (st' := []) rfl ?_
                refine h_run 2 (pc' := 150) (l' := [(0, .inr (.inr 1826)), (1, .inl (l : Int)), (2, .inl hx582r)]) (st' := [.inl 0, .inr (.inr 1826)]) rfl ?_
                refine h_puti (i := 300) (ci := 13) (k := 40) (a := 1826) (x := 0) rfl rfl rfl rfl rfl rfl (by decide) (by decide) ?_
                refine h_run 2 (pc' := 155) (l' := [(0, .inr (.inr 1826)), (1, .inl (l : Int)), (2, .inl hx582r)]) (st' := [.inl 0, .inr (.inr 1826)]) rfl ?_
                refine h_puti (i := 335) (ci := 13) (k := 41) (a := 1826) (x := 0) rfl rfl rfl rfl rfl rfl (by decide) (by decide) ?_
                refine h_run 2 (pc' := 160) (l' := [(0, .inr (.inr 1826)), (1, .inl (l : Int)), (2, .inl hx582r)]) (st' := [.inl 0, .inr (.inr 1826)]) rfl ?_
                refine h_puti (i := 303) (ci := 13) (k := 43) (a := 1826) (x := 0) rfl rfl rfl rfl rfl rfl (by decide) (by decide) ?_
                refine h_run 1 (pc' := 164) (l' := [(0, .inr (.inr 1826)), (1, .inl (l : Int)), (2, .inl hx582r)]) (st' := [.inr (.inr 1826)]) rfl ?_
                have g820 : -2147483648 ≤ (H814.1 1826 35) ∧ (H814.1 1826 35) ≤ 2147483647 := hrg817.1 1826 13 35 _ .int rfl rfl
                refine h_cv (i := 293) (j := 158) (b := 1826) (M' := mt_158) (xs := []) (rest := []) rfl rfl rfl rfl rfl rfl (Nat.le_of_ble_eq_true rfl) (Nat.le_of_ble_eq_true rfl) (by omega) (m_good0 (by omega) (by omega : (H814.1 1826 35) ≠ 0)) ?_
                rintro _ _ ⟨rfl, rfl⟩
                refine h_run 0 (pc' := 167) (l' := [(0, .inr (.inr 1826)), (1, .inl (l : Int)), (2, .inl hx582r)]) (st' := [.inl 0]) rfl ?_
                refine h_zeq (off := 11) (t := 178) rfl rfl (by decide) (fun _ => ?_) (fun c => absurd c (by decide))
                refine h_run 1 (pc' := 179) (l' := [(0, .inr (.inr 1826)), (1, .inl (l : Int)), (2, .inl hx582r)]) (st' := [.inl (-1)]) rfl ?_
                refine h_run 7 (pc' := 186) (l' := [(0, .inr (.inr 1826)), (1, .inl (l : Int)), (2, .inl hx582r), (3, .inl (-1))]) (st' := [.inl ((2 * (l : Int)) + 1), .inr (.inr 1826)]) rfl ?_
                have g821 : -2147483648 ≤ (H814.1 1826 19) ∧ (H814.1 1826 19) ≤ 2147483647 := hrg817.1 1826 13 19 _ .int rfl rfl
                have e822 : (H814.1 1826 19) = (H801.1 1826 19) := hx814f.2.2 19 (by decide)
                have e823 : (H801.1 1826 19) = (H582.1 1826 19) := hx801f.2.2 19 (by decide)
                rw [show ((2 * (l : Int)) + 1) = ((2 * l + 1 : Nat) : Int) by omega]
                refine h_cv (i := 390) (j := 188) (b := 1826) (M' := mt_188) (xs := [.inl ((2 * l + 1 : Nat) : Int)]) (rest := []) rfl rfl rfl rfl rfl rfl (Nat.le_of_ble_eq_true rfl) (Nat.le_of_ble_eq_true rfl) (by omega) (m_keepSide (by omega) (s := 2 * l + 1) (by omega : 2 * (H814.1 1826 19) ≤ ((2 * l + 1 : Nat) : Int) ∧ 2 * l + 1 ≤ 31) (by omega : (H814.1 1826 35) = 0 → 0 ≤ (0 : Int) ∧ (0 : Int) ≤ 40)) ?_
                rintro _ H824 ⟨rfl, hx824f, hx824g, hx824z, hx824b, hx824c⟩
                refine h_rng (fun hrg825 => ?_)
                have hf826 : fr [30, 31, 32, 33, 35, 36, 19, 39, 40, 41, 43, 44, 47] [1841, 1842, 1843, 1844, 1845, 1846, 1847, 1849, 1850, 1851, 1852, 1853, 1854] H H824 := fr_t (fr_o (fr_o (fr_o hf818 (by decide)) (by decide)) (by decide)) hx824f (by decide) (by decide)
                have ha827 : agp H H824 := agp_tr (agp_o (agp_o (agp_o ha819 (by decide)) (by decide)) (by decide)) hx824g
                replace hx824c : hid _ := hx824c
                refine h_run 0 (pc' := 189) (l' := [(0, .inr (.inr 1826)), (1, .inl (l : Int)), (2, .inl hx582r), (3, .inl (-1))]) (st' := []) rfl ?_
                refine h_run 1 (pc' := 190) (l' := [(0, .inr (.inr 1826)), (1, .inl (l : Int)), (2, .inl hx582r), (3, .inl (-1))]) (st' := [.inr (.inr 1826)]) rfl ?_
                have g828 : -2147483648 ≤ (H824.1 1826 35) ∧ (H824.1 1826 35) ≤ 2147483647 := hrg825.1 1826 13 35 _ .int rfl rfl
                have e829 : (H824.1 1826 35) = (H814.1 1826 35) := hx824f.2.2 35 (by decide)
                refine h_cv (i := 293) (j := 158) (b := 1826) (M' := mt_158) (xs := []) (rest := []) rfl rfl rfl rfl rfl rfl (Nat.le_of_ble_eq_true rfl) (Nat.le_of_ble_eq_true rfl) (by omega) (m_good0 (by omega) (by omega : (H824.1 1826 35) ≠ 0)) ?_
                rintro _ _ ⟨rfl, rfl⟩
                refine h_run 0 (pc' := 193) (l' := [(0, .inr (.inr 1826)), (1, .inl (l : Int)), (2, .inl hx582r), (3, .inl (-1))]) (st' := [.inl 0]) rfl ?_
                refine h_zeq (off := 83) (t := 276) rfl rfl (by decide) (fun _ => ?_) (fun c => absurd c (by decide))
                refine h_ret rfl rfl ?_
                have g830 : -2147483648 ≤ (H824.1 1826 30) ∧ (H824.1 1826 30) ≤ 2147483647 := hrg825.1 1826 13 30 _ .int rfl rfl
                have e831 : (H824.1 1826 30) = (H814.1 1826 30) := hx824f.2.2 30 (by decide)
                have g832 : -2147483648 ≤ (H824.1 1826 32) ∧ (H824.1 1826 32) ≤ 2147483647 := hrg825.1 1826 13 32 _ .int rfl rfl
                have e833 : (H824.1 1826 32) = (H814.1 1826 32) := hx824f.2.2 32 (by decide)
                have g834 : -2147483648 ≤ (H824.1 1826 31) ∧ (H824.1 1826 31) ≤ 2147483647 := hrg825.1 1826 13 31 _ .int rfl rfl
                have e835 : (H824.1 1826 31) = (H814.1 1826 31) := hx824f.2.2 31 (by decide)
                have g836 : -2147483648 ≤ (H824.1 1826 29) ∧ (H824.1 1826 29) ≤ 2147483647 := hrg825.1 1826 13 29 _ .int rfl rfl
                have e837 : (H824.1 1826 29) = (H814.1 1826 29) := hx824f.2.2 29 (by decide)
                have e838 : (H814.1 1826 29) = (H801.1 1826 29) := hx814f.2.2 29 (by decide)
                have g839 : -2147483648 ≤ (H824.1 1826 1) ∧ (H824.1 1826 1) ≤ 2147483647 := hrg825.1 1826 13 1 _ .int rfl rfl
                have e840 : (H824.1 1826 1) = (H814.1 1826 1) := hx824f.2.2 1 (by decide)
                have e841 : (H814.1 1826 1) = (H801.1 1826 1) := hx814f.2.2 1 (by decide)
                have e842 : (H801.1 1826 1) = (H582.1 1826 1) := hx801f.2.2 1 (by decide)
                have e843 : (H582.1 1826 1) = (H568.1 1826 1) := hx582f.2.2 1 (by decide)
                have g844 : -2147483648 ≤ (H824.1 1826 3) ∧ (H824.1 1826 3) ≤ 2147483647 := hrg825.1 1826 13 3 _ .int rfl rfl
                have e845 : (H824.1 1826 3) = (H814.1 1826 3) := hx824f.2.2 3 (by decide)
                have e846 : (H814.1 1826 3) = (H801.1 1826 3) := hx814f.2.2 3 (by decide)
                have e847 : (H801.1 1826 3) = (H582.1 1826 3) := hx801f.2.2 3 (by decide)
                have e848 : (H582.1 1826 3) = (H568.1 1826 3) := hx582f.2.2 3 (by decide)
                have g849 : -2147483648 ≤ (H824.1 1826 8) ∧ (H824.1 1826 8) ≤ 2147483647 := hrg825.1 1826 13 8 _ .int rfl rfl
                have e850 : (H824.1 1826 8) = (H814.1 1826 8) := hx824f.2.2 8 (by decide)
                have e851 : (H814.1 1826 8) = (H801.1 1826 8) := hx814f.2.2 8 (by decide)
                have e852 : (H801.1 1826 8) = (H582.1 1826 8) := hx801f.2.2 8 (by decide)
                have e853 : (H582.1 1826 8) = (H568.1 1826 8) := hx582f.2.2 8 (by decide)
                have g854 : -2147483648 ≤ (H824.1 1826 13) ∧ (H824.1 1826 13) ≤ 2147483647 := hrg825.1 1826 13 13 _ .int rfl rfl
                have e855 : (H824.1 1826 13) = (H814.1 1826 13) := hx824f.2.2 13 (by decide)
                have e856 : (H814.1 1826 13) = (H801.1 1826 13) := hx814f.2.2 13 (by decide)
                have e857 : (H801.1 1826 13) = (H582.1 1826 13) := hx801f.2.2 13 (by decide)
                have e858 : (H582.1 1826 13) = (H568.1 1826 13) := hx582f.2.2 13 (by decide)
                have g859 : -2147483648 ≤ (H824.1 1826 19) ∧ (H824.1 1826 19) ≤ 2147483647 := hrg825.1 1826 13 19 _ .int rfl rfl
                have e860 : (H824.1 1826 19) = (H814.1 1826 19) := hx824f.2.2 19 (by decide)
                have g861 : -2147483648 ≤ (H824.1 1826 39) ∧ (H824.1 1826 39) ≤ 2147483647 := hrg825.1 1826 13 39 _ .int rfl rfl
                have e862 : (H824.1 1826 39) = (H814.1 1826 39) := hx824f.2.2 39 (by decide)
                have e863 : (H814.1 1826 39) = (H801.1 1826 39) := hx814f.2.2 39 (by decide)
                have e864 : (H801.1 1826 39) = (H582.1 1826 39) := hx801f.2.2 39 (by decide)
                exact ⟨rfl, hf826, (by omega : (H.1 1826 30) ≤ (H824.1 1826 30) ∧ (H824.1 1826 30) ≤ (H.1 1826 29)), (by omega : 0 ≤ (H824.1 1826 35) ∧ (H824.1 1826 35) ≤ 5), (by omega : (H.1 1826 35) ≠ 0 → (H824.1 1826 35) ≠ 0), (by omega : 0 ≤ (H824.1 1826 32) ∧ (H824.1 1826 32) ≤ 1000), ha827, (fun (q : (H824.1 1826 35) = 0) => absurd q (by omega))⟩
            · skip
              clear hx568g
              refine h_run 1 (pc' := 110) (l' := [(0, .inr (.inr 1826)), (1, .inl (l : Int))]) (st' := [.inr (.inr 1826)]) rfl ?_
              refine h_cv (i := 379) (j := 185) (b := 1826) (M' := mt_185) (xs := []) (rest := []) rfl rfl rfl rfl rfl rfl (Nat.le_of_ble_eq_true rfl) (Nat.le_of_ble_eq_true rfl) (by omega) (m_beginTerm (by omega)) ?_
              rintro _ _ ⟨rfl, rfl⟩
              refine h_run 0 (pc' := 113) (l' := [(0, .inr (.inr 1826)), (1, .inl (l : Int))]) (st' := []) rfl ?_
              refine h_run 2 (pc' := 115) (l' := [(0, .inr (.inr 1826)), (1, .inl (l : Int))]) (st' := [.inl 2, .inr (.inr 1826)]) rfl ?_
              refine h_puti (i := 367) (ci := 13) (k := 44) (a := 1826) (x := 2) rfl rfl rfl rfl rfl rfl (by decide) (by decide) ?_
              refine h_run 1 (pc' := 119) (l' := [(0, .inr (.inr 1826)), (1, .inl (l : Int))]) (st' := [.inr (.inr 1826)]) rfl ?_
              refine h_cv (i := 293) (j := 158) (b := 1826) (M' := mt_158) (xs := []) (rest := []) rfl rfl rfl rfl rfl rfl (Nat.le_of_ble_eq_true rfl) (Nat.le_of_ble_eq_true rfl) (by omega) (m_good0 (by omega) (by omega : (H568.1 1826 35) ≠ 0)) ?_
              rintro _ _ ⟨rfl, rfl⟩
              refine h_run 0 (pc' := 122) (l' := [(0, .inr (.inr 1826)), (1, .inl (l : Int))]) (st' := [.inl 0]) rfl ?_
              refine h_zeq (off := 11) (t := 133) rfl rfl (by decide) (fun _ => ?_) (fun c => absurd c (by decide))
              refine h_run 1 (pc' := 134) (l' := [(0, .inr (.inr 1826)), (1, .inl (l : Int))]) (st' := [.inl (-1)]) rfl ?_
              refine h_run 5 (pc' := 139) (l' := [(0, .inr (.inr 1826)), (1, .inl (l : Int)), (2, .inl (-1))]) (st' := [.inl (2 * (l : Int)), .inr (.inr 1826)]) rfl ?_
              have g865 : -2147483648 ≤ (H568.1 1826 19) ∧ (H568.1 1826 19) ≤ 2147483647 := hrg570.1 1826 13 19 _ .int rfl rfl
              have e866 : (H568.1 1826 19) = (H558.1 1826 19) := hx568f.2.2 19 (by decide)
              have e867 : (H558.1 1826 19) = (H39.1 1826 19) := hx558f.2.2 19 (by decide)
              rw [show (2 * (l : Int)) = ((2 * l : Nat) : Int) by omega]
              refine h_cv (i := 390) (j := 188) (b := 1826) (M' := mt_188) (xs := [.inl ((2 * l : Nat) : Int)]) (rest := []) rfl rfl rfl rfl rfl rfl (Nat.le_of_ble_eq_true rfl) (Nat.le_of_ble_eq_true rfl) (by omega) (m_keepSide (by omega) (s := 2 * l) (by omega : 2 * (H568.1 1826 19) ≤ ((2 * l : Nat) : Int) ∧ 2 * l ≤ 31) (by omega : (H568.1 1826 35) = 0 → 0 ≤ (0 : Int) ∧ (0 : Int) ≤ 40)) ?_
              rintro _ H868 ⟨rfl, hx868f, hx868g, hx868z, hx868b, hx868c⟩
              refine h_rng (fun hrg869 => ?_)
              have hf870 : fr [30, 31, 32, 33, 35, 36, 19, 39, 40, 41, 43, 44, 47] [1841, 1842, 1843, 1844, 1845, 1846, 1847, 1849, 1850, 1851, 1852, 1853, 1854] H H868 := fr_t (fr_o (fr_o (fr_o (fr_o (fr_o hf571 (by decide)) (by decide)) (by decide)) (by decide)) (by decide)) hx868f (by decide) (by decide)
              have ha871 : agp H H868 := agp_tr (agp_o (agp_o (agp_o (agp_o (agp_o ha572 (by decide)) (by decide)) (by decide)) (by decide)) (by decide)) hx868g
              replace hx868c : hid _ := hx868c
              refine h_run 0 (pc' := 142) (l' := [(0, .inr (.inr 1826)), (1, .inl (l : Int)), (2, .inl (-1))]) (st' := []) rfl ?_
              refine h_run 2 (pc' := 145) (l' := [(0, .inr (.inr 1826)), (1, .inl (l : Int)), (2, .inl (-1))]) (st' := [.inl 61, .inr (.inr 1826)]) rfl ?_
              have g872 : -2147483648 ≤ (H868.1 1826 30) ∧ (H868.1 1826 30) ≤ 2147483647 := hrg869.1 1826 13 30 _ .int rfl rfl
              have e873 : (H868.1 1826 30) = (H568.1 1826 30) := hx868f.2.2 30 (by decide)
              have g874 : -2147483648 ≤ (H868.1 1826 29) ∧ (H868.1 1826 29) ≤ 2147483647 := hrg869.1 1826 13 29 _ .int rfl rfl
              have e875 : (H868.1 1826 29) = (H568.1 1826 29) := hx868f.2.2 29 (by decide)
              have e876 : (H568.1 1826 29) = (H558.1 1826 29) := hx568f.2.2 29 (by decide)
              have g877 : -2147483648 ≤ (H868.1 1826 35) ∧ (H868.1 1826 35) ≤ 2147483647 := hrg869.1 1826 13 35 _ .int rfl rfl
              have e878 : (H868.1 1826 35) = (H568.1 1826 35) := hx868f.2.2 35 (by decide)
              have g879 : -2147483648 ≤ (H868.1 1826 31) ∧ (H868.1 1826 31) ≤ 2147483647 := hrg869.1 1826 13 31 _ .int rfl rfl
              have e880 : (H868.1 1826 31) = (H568.1 1826 31) := hx868f.2.2 31 (by decide)
              have g882 : -2147483648 ≤ (H868.1 1826 32) ∧ (H868.1 1826 32) ≤ 2147483647 := hrg869.1 1826 13 32 _ .int rfl rfl
              have e883 : (H868.1 1826 32) = (H568.1 1826 32) := hx868f.2.2 32 (by decide)
              refine h_cv (i := 313) (j := 166) (b := 1826) (M' := mt_166) (xs := [.inl 61]) (rest := []) rfl rfl rfl rfl rfl rfl (Nat.le_of_ble_eq_true rfl) (Nat.le_of_ble_eq_true rfl) (by omega) (m_want (by omega) (by omega : 0 ≤ (H868.1 1826 30) ∧ (H868.1 1826 30) ≤ (H868.1 1826 29) ∧ (H868.1 1826 29) ≤ 1000) (by omega : 0 ≤ (H868.1 1826 35) ∧ (H868.1 1826 35) ≤ 5) (by omega : 0 ≤ (H868.1 1826 32) ∧ (H868.1 1826 32) ≤ 1000) (by omega)) ?_
              rintro _ H881 ⟨rfl, hx881f, hx881a, hx881b, hx881c, hx881d, hx881e, hx881g⟩
              refine h_rng (fun hrg884 => ?_)
              have hf885 : fr [30, 31, 32, 33, 35, 36, 19, 39, 40, 41, 43, 44, 47] [1841, 1842, 1843, 1844, 1845, 1846, 1847, 1849, 1850, 1851, 1852, 1853, 1854] H H881 := fr_t hf870 hx881f (by decide) (by decide)
              have ha886 : agp H H881 := agp_tr ha871 (agp_fr hx881f (by decide) (by decide))
              replace hx881a : (H868.1 1826 30) ≤ (H881.1 1826 30) := hx881a
              replace hx881b : (H881.1 1826 30) ≤ (H868.1 1826 29) := hx881b
              replace hx881d : (H881.1 1826 35) = (H868.1 1826 35) := hx881d (by omega : (H868.1 1826 35) ≠ 0)
              replace hx881g : (H881.1 1826 35) = 0 → (H868.1 1826 31) = (61 : Int) ∧ ((H881.1 1826 31) = 0 ∨ (H868.1 1826 30) < (H881.1 1826 30)) := hx881g
              refine h_run 0 (pc' := 148) (l' := [(0, .inr (.inr 1826)), (1, .inl (l : Int)), (2, .inl (-1))]) (st' := []) rfl ?_
              refine h_run 2 (pc' := 150) (l' := [(0, .inr (.inr 1826)), (1, .inl (l : Int)), (2, .inl (-1))]) (st' := [.inl 0, .inr (.inr 1826)]) rfl ?_
              refine h_puti (i := 300) (ci := 13) (k := 40) (a := 1826) (x := 0) rfl rfl rfl rfl rfl rfl (by decide) (by decide) ?_
              refine h_run 2 (pc' := 155) (l' := [(0, .inr (.inr 1826)), (1, .inl (l : Int)), (2, .inl (-1))]) (st' := [.inl 0, .inr (.inr 1826)]) rfl ?_
              refine h_puti (i := 335) (ci := 13) (k := 41) (a := 1826) (x := 0) rfl rfl rfl rfl rfl rfl (by decide) (by decide) ?_
              refine h_run 2 (pc' := 160) (l' := [(0, .inr (.inr 1826)), (1, .inl (l : Int)), (2, .inl (-1))]) (st' := [.inl 0, .inr (.inr 1826)]) rfl ?_
              refine h_puti (i := 303) (ci := 13) (k := 43) (a := 1826) (x := 0) rfl rfl rfl rfl rfl rfl (by decide) (by decide) ?_
              refine h_run 1 (pc' := 164) (l' := [(0, .inr (.inr 1826)), (1, .inl (l : Int)), (2, .inl (-1))]) (st' := [.inr (.inr 1826)]) rfl ?_
              have g887 : -2147483648 ≤ (H881.1 1826 35) ∧ (H881.1 1826 35) ≤ 2147483647 := hrg884.1 1826 13 35 _ .int rfl rfl
              refine h_cv (i := 293) (j := 158) (b := 1826) (M' := mt_158) (xs := []) (rest := []) rfl rfl rfl rfl rfl rfl (Nat.le_of_ble_eq_true rfl) (Nat.le_of_ble_eq_true rfl) (by omega) (m_good0 (by omega) (by omega : (H881.1 1826 35) ≠ 0)) ?_
              rintro _ _ ⟨rfl, rfl⟩
              refine h_run 0 (pc' := 167) (l' := [(0, .inr (.inr 1826)), (1, .inl (l : Int)), (2, .inl (-1))]) (st' := [.inl 0]) rfl ?_
              refine h_zeq (off := 11) (t := 178) rfl rfl (by decide) (fun _ => ?_) (fun c => absurd c (by decide))
              refine h_run 1 (pc' := 179) (l' := [(0, .inr (.inr 1826)), (1, .inl (l : Int)), (2, .inl (-1))]) (st' := [.inl (-1)]) rfl ?_
              refine h_run 7 (pc' := 186) (l' := [(0, .inr (.inr 1826)), (1, .inl (l : Int)), (2, .inl (-1)), (3, .inl (-1))]) (st' := [.inl ((2 * (l : Int)) + 1), .inr (.inr 1826)]) rfl ?_
              have g888 : -2147483648 ≤ (H881.1 1826 19) ∧ (H881.1 1826 19) ≤ 2147483647 := hrg884.1 1826 13 19 _ .int rfl rfl
              have e889 : (H881.1 1826 19) = (H868.1 1826 19) := hx881f.2.2 19 (by decide)
              have e890 : (H868.1 1826 19) = (H568.1 1826 19) := hx868f.2.2 19 (by decide)
              rw [show ((2 * (l : Int)) + 1) = ((2 * l + 1 : Nat) : Int) by omega]
              refine h_cv (i := 390) (j := 188) (b := 1826) (M' := mt_188) (xs := [.inl ((2 * l + 1 : Nat) : Int)]) (rest := []) rfl rfl rfl rfl rfl rfl (Nat.le_of_ble_eq_true rfl) (Nat.le_of_ble_eq_true rfl) (by omega) (m_keepSide (by omega) (s := 2 * l + 1) (by omega : 2 * (H881.1 1826 19) ≤ ((2 * l + 1 : Nat) : Int) ∧ 2 * l + 1 ≤ 31) (by omega : (H881.1 1826 35) = 0 → 0 ≤ (0 : Int) ∧ (0 : Int) ≤ 40)) ?_
              rintro _ H891 ⟨rfl, hx891f, hx891g, hx891z, hx891b, hx891c⟩
              refine h_rng (fun hrg892 => ?_)
              have hf893 : fr [30, 31, 32, 33, 35, 36, 19, 39, 40, 41, 43, 44, 47] [1841, 1842, 1843, 1844, 1845, 1846, 1847, 1849, 1850, 1851, 1852, 1853, 1854] H H891 := fr_t (fr_o (fr_o (fr_o hf885 (by decide)) (by decide)) (by decide)) hx891f (by decide) (by decide)
              have ha894 : agp H H891 := agp_tr (agp_o (agp_o (agp_o ha886 (by decide)) (by decide)) (by decide)) hx891g
              replace hx891c : hid _ := hx891c
              refine h_run 0 (pc' := 189) (l' := [(0, .inr (.inr 1826)), (1, .inl (l : Int)), (2, .inl (-1)), (3, .inl (-1))]) (st' := []) rfl ?_
              refine h_run 1 (pc' := 190) (l' := [(0, .inr (.inr 1826)), (1, .inl (l : Int)), (2, .inl (-1)), (3, .inl (-1))]) (st' := [.inr (.inr 1826)]) rfl ?_
              have g895 : -2147483648 ≤ (H891.1 1826 35) ∧ (H891.1 1826 35) ≤ 2147483647 := hrg892.1 1826 13 35 _ .int rfl rfl
              have e896 : (H891.1 1826 35) = (H881.1 1826 35) := hx891f.2.2 35 (by decide)
              refine h_cv (i := 293) (j := 158) (b := 1826) (M' := mt_158) (xs := []) (rest := []) rfl rfl rfl rfl rfl rfl (Nat.le_of_ble_eq_true rfl) (Nat.le_of_ble_eq_true rfl) (by omega) (m_good0 (by omega) (by omega : (H891.1 1826 35) ≠ 0)) ?_
              rintro _ _ ⟨rfl, rfl⟩
              refine h_run 0 (pc' := 193) (l' := [(0, .inr (.inr 1826)), (1, .inl (l : Int)), (2, .inl (-1)), (3, .inl (-1))]) (st' := [.inl 0]) rfl ?_
              refine h_zeq (off := 83) (t := 276) rfl rfl (by decide) (fun _ => ?_) (fun c => absurd c (by decide))
              refine h_ret rfl rfl ?_
              have g897 : -2147483648 ≤ (H891.1 1826 30) ∧ (H891.1 1826 30) ≤ 2147483647 := hrg892.1 1826 13 30 _ .int rfl rfl
              have e898 : (H891.1 1826 30) = (H881.1 1826 30) := hx891f.2.2 30 (by decide)
              have g899 : -2147483648 ≤ (H891.1 1826 32) ∧ (H891.1 1826 32) ≤ 2147483647 := hrg892.1 1826 13 32 _ .int rfl rfl
              have e900 : (H891.1 1826 32) = (H881.1 1826 32) := hx891f.2.2 32 (by decide)
              have g901 : -2147483648 ≤ (H891.1 1826 31) ∧ (H891.1 1826 31) ≤ 2147483647 := hrg892.1 1826 13 31 _ .int rfl rfl
              have e902 : (H891.1 1826 31) = (H881.1 1826 31) := hx891f.2.2 31 (by decide)
              have g903 : -2147483648 ≤ (H891.1 1826 29) ∧ (H891.1 1826 29) ≤ 2147483647 := hrg892.1 1826 13 29 _ .int rfl rfl
              have e904 : (H891.1 1826 29) = (H881.1 1826 29) := hx891f.2.2 29 (by decide)
              have e905 : (H881.1 1826 29) = (H868.1 1826 29) := hx881f.2.2 29 (by decide)
              have g906 : -2147483648 ≤ (H891.1 1826 1) ∧ (H891.1 1826 1) ≤ 2147483647 := hrg892.1 1826 13 1 _ .int rfl rfl
              have e907 : (H891.1 1826 1) = (H881.1 1826 1) := hx891f.2.2 1 (by decide)
              have e908 : (H881.1 1826 1) = (H868.1 1826 1) := hx881f.2.2 1 (by decide)
              have e909 : (H868.1 1826 1) = (H568.1 1826 1) := hx868f.2.2 1 (by decide)
              have e910 : (H568.1 1826 1) = (H558.1 1826 1) := hx568f.2.2 1 (by decide)
              have e911 : (H558.1 1826 1) = (H39.1 1826 1) := hx558f.2.2 1 (by decide)
              have e912 : (H39.1 1826 1) = (H.1 1826 1) := hx39f.2.2 1 (by decide)
              have g913 : -2147483648 ≤ (H891.1 1826 3) ∧ (H891.1 1826 3) ≤ 2147483647 := hrg892.1 1826 13 3 _ .int rfl rfl
              have e914 : (H891.1 1826 3) = (H881.1 1826 3) := hx891f.2.2 3 (by decide)
              have e915 : (H881.1 1826 3) = (H868.1 1826 3) := hx881f.2.2 3 (by decide)
              have e916 : (H868.1 1826 3) = (H568.1 1826 3) := hx868f.2.2 3 (by decide)
              have e917 : (H568.1 1826 3) = (H558.1 1826 3) := hx568f.2.2 3 (by decide)
              have e918 : (H558.1 1826 3) = (H39.1 1826 3) := hx558f.2.2 3 (by decide)
              have e919 : (H39.1 1826 3) = (H.1 1826 3) := hx39f.2.2 3 (by decide)
              have g920 : -2147483648 ≤ (H891.1 1826 8) ∧ (H891.1 1826 8) ≤ 2147483647 := hrg892.1 1826 13 8 _ .int rfl rfl
              have e921 : (H891.1 1826 8) = (H881.1 1826 8) := hx891f.2.2 8 (by decide)
              have e922 : (H881.1 1826 8) = (H868.1 1826 8) := hx881f.2.2 8 (by decide)
              have e923 : (H868.1 1826 8) = (H568.1 1826 8) := hx868f.2.2 8 (by decide)
              have e924 : (H568.1 1826 8) = (H558.1 1826 8) := hx568f.2.2 8 (by decide)
              have e925 : (H558.1 1826 8) = (H39.1 1826 8) := hx558f.2.2 8 (by decide)
              have e926 : (H39.1 1826 8) = (H.1 1826 8) := hx39f.2.2 8 (by decide)
              have g927 : -2147483648 ≤ (H891.1 1826 13) ∧ (H891.1 1826 13) ≤ 2147483647 := hrg892.1 1826 13 13 _ .int rfl rfl
              have e928 : (H891.1 1826 13) = (H881.1 1826 13) := hx891f.2.2 13 (by decide)
              have e929 : (H881.1 1826 13) = (H868.1 1826 13) := hx881f.2.2 13 (by decide)
              have e930 : (H868.1 1826 13) = (H568.1 1826 13) := hx868f.2.2 13 (by decide)
              have e931 : (H568.1 1826 13) = (H558.1 1826 13) := hx568f.2.2 13 (by decide)
              have e932 : (H558.1 1826 13) = (H39.1 1826 13) := hx558f.2.2 13 (by decide)
              have e933 : (H39.1 1826 13) = (H.1 1826 13) := hx39f.2.2 13 (by decide)
              have g934 : -2147483648 ≤ (H891.1 1826 19) ∧ (H891.1 1826 19) ≤ 2147483647 := hrg892.1 1826 13 19 _ .int rfl rfl
              have e935 : (H891.1 1826 19) = (H881.1 1826 19) := hx891f.2.2 19 (by decide)
              have g936 : -2147483648 ≤ (H891.1 1826 39) ∧ (H891.1 1826 39) ≤ 2147483647 := hrg892.1 1826 13 39 _ .int rfl rfl
              have e937 : (H891.1 1826 39) = (H881.1 1826 39) := hx891f.2.2 39 (by decide)
              have e938 : (H881.1 1826 39) = (H868.1 1826 39) := hx881f.2.2 39 (by decide)
              have e939 : (H868.1 1826 39) = 0 := hx868f.2.2 39 (by decide)
              exact ⟨rfl, hf893, (by omega : (H.1 1826 30) ≤ (H891.1 1826 30) ∧ (H891.1 1826 30) ≤ (H.1 1826 29)), (by omega : 0 ≤ (H891.1 1826 35) ∧ (H891.1 1826 35) ≤ 5), (by omega : (H.1 1826 35) ≠ 0 → (H891.1 1826 35) ≠ 0), (by omega : 0 ≤ (H891.1 1826 32) ∧ (H891.1 1826 32) ≤ 1000), ha894, (fun (q : (H891.1 1826 35) = 0) => absurd q (by omega))⟩
          · skip
            clear hx558g
            refine h_run 2 (pc' := 106) (l' := [(0, .inr (.inr 1826)), (1, .inl (l : Int))]) (st' := [.inl 58, .inr (.inr 1826)]) rfl ?_
            have g940 : -2147483648 ≤ (H558.1 1826 30) ∧ (H558.1 1826 30) ≤ 2147483647 := hrg559.1 1826 13 30 _ .int rfl rfl
            have g941 : -2147483648 ≤ (H558.1 1826 29) ∧ (H558.1 1826 29) ≤ 2147483647 := hrg559.1 1826 13 29 _ .int rfl rfl
            have e942 : (H558.1 1826 29) = (H39.1 1826 29) := hx558f.2.2 29 (by decide)
            have g943 : -2147483648 ≤ (H558.1 1826 31) ∧ (H558.1 1826 31) ≤ 2147483647 := hrg559.1 1826 13 31 _ .int rfl rfl
            have g945 : -2147483648 ≤ (H558.1 1826 32) ∧ (H558.1 1826 32) ≤ 2147483647 := hrg559.1 1826 13 32 _ .int rfl rfl
            refine h_cv (i := 313) (j := 166) (b := 1826) (M' := mt_166) (xs := [.inl 58]) (rest := []) rfl rfl rfl rfl rfl rfl (Nat.le_of_ble_eq_true rfl) (Nat.le_of_ble_eq_true rfl) (by omega) (m_want (by omega) (by omega : 0 ≤ (H558.1 1826 30) ∧ (H558.1 1826 30) ≤ (H558.1 1826 29) ∧ (H558.1 1826 29) ≤ 1000) (by omega : 0 ≤ (H558.1 1826 35) ∧ (H558.1 1826 35) ≤ 5) (by omega : 0 ≤ (H558.1 1826 32) ∧ (H558.1 1826 32) ≤ 1000) (by omega)) ?_
            rintro _ H944 ⟨rfl, hx944f, hx944a, hx944b, hx944c, hx944d, hx944e, hx944g⟩
            refine h_rng (fun hrg946 => ?_)
            have hf947 : fr [30, 31, 32, 33, 35, 36, 19, 39, 40, 41, 43, 44, 47] [1841, 1842, 1843, 1844, 1845, 1846, 1847, 1849, 1850, 1851, 1852, 1853, 1854] H H944 := fr_t hf560 hx944f (by decide) (by decide)
            have ha948 : agp H H944 := agp_tr ha561 (agp_fr hx944f (by decide) (by decide))
            replace hx944a : (H558.1 1826 30) ≤ (H944.1 1826 30) := hx944a
            replace hx944b : (H944.1 1826 30) ≤ (H558.1 1826 29) := hx944b
            replace hx944d : (H944.1 1826 35) = (H558.1 1826 35) := hx944d (by omega : (H558.1 1826 35) ≠ 0)
            replace hx944g : (H944.1 1826 35) = 0 → (H558.1 1826 31) = (58 : Int) ∧ ((H944.1 1826 31) = 0 ∨ (H558.1 1826 30) < (H944.1 1826 30)) := hx944g
            refine h_run 0 (pc' := 109) (l' := [(0, .inr (.inr 1826)), (1, .inl (l : Int))]) (st' := []) rfl ?_
            refine h_run 1 (pc' := 110) (l' := [(0, .inr (.inr 1826)), (1, .inl (l : Int))]) (st' := [.inr (.inr 1826)]) rfl ?_
            refine h_cv (i := 379) (j := 185) (b := 1826) (M' := mt_185) (xs := []) (rest := []) rfl rfl rfl rfl rfl rfl (Nat.le_of_ble_eq_true rfl) (Nat.le_of_ble_eq_true rfl) (by omega) (m_beginTerm (by omega)) ?_
            rintro _ _ ⟨rfl, rfl⟩
            refine h_run 0 (pc' := 113) (l' := [(0, .inr (.inr 1826)), (1, .inl (l : Int))]) (st' := []) rfl ?_
            refine h_run 2 (pc' := 115) (l' := [(0, .inr (.inr 1826)), (1, .inl (l : Int))]) (st' := [.inl 2, .inr (.inr 1826)]) rfl ?_
            refine h_puti (i := 367) (ci := 13) (k := 44) (a := 1826) (x := 2) rfl rfl rfl rfl rfl rfl (by decide) (by decide) ?_
            refine h_run 1 (pc' := 119) (l' := [(0, .inr (.inr 1826)), (1, .inl (l : Int))]) (st' := [.inr (.inr 1826)]) rfl ?_
            have g949 : -2147483648 ≤ (H944.1 1826 35) ∧ (H944.1 1826 35) ≤ 2147483647 := hrg946.1 1826 13 35 _ .int rfl rfl
            refine h_cv (i := 293) (j := 158) (b := 1826) (M' := mt_158) (xs := []) (rest := []) rfl rfl rfl rfl rfl rfl (Nat.le_of_ble_eq_true rfl) (Nat.le_of_ble_eq_true rfl) (by omega) (m_good0 (by omega) (by omega : (H944.1 1826 35) ≠ 0)) ?_
            rintro _ _ ⟨rfl, rfl⟩
            refine h_run 0 (pc' := 122) (l' := [(0, .inr (.inr 1826)), (1, .inl (l : Int))]) (st' := [.inl 0]) rfl ?_
            refine h_zeq (off := 11) (t := 133) rfl rfl (by decide) (fun _ => ?_) (fun c => absurd c (by decide))
            refine h_run 1 (pc' := 134) (l' := [(0, .inr (.inr 1826)), (1, .inl (l : Int))]) (st' := [.inl (-1)]) rfl ?_
            refine h_run 5 (pc' := 139) (l' := [(0, .inr (.inr 1826)), (1, .inl (l : Int)), (2, .inl (-1))]) (st' := [.inl (2 * (l : Int)), .inr (.inr 1826)]) rfl ?_
            have g950 : -2147483648 ≤ (H944.1 1826 19) ∧ (H944.1 1826 19) ≤ 2147483647 := hrg946.1 1826 13 19 _ .int rfl rfl
            have e951 : (H944.1 1826 19) = (H558.1 1826 19) := hx944f.2.2 19 (by decide)
            have e952 : (H558.1 1826 19) = (H39.1 1826 19) := hx558f.2.2 19 (by decide)
            rw [show (2 * (l : Int)) = ((2 * l : Nat) : Int) by omega]
            refine h_cv (i := 390) (j := 188) (b := 1826) (M' := mt_188) (xs := [.inl ((2 * l : Nat) : Int)]) (rest := []) rfl rfl rfl rfl rfl rfl (Nat.le_of_ble_eq_true rfl) (Nat.le_of_ble_eq_true rfl) (by omega) (m_keepSide (by omega) (s := 2 * l) (by omega : 2 * (H944.1 1826 19) ≤ ((2 * l : Nat) : Int) ∧ 2 * l ≤ 31) (by omega : (H944.1 1826 35) = 0 → 0 ≤ (0 : Int) ∧ (0 : Int) ≤ 40)) ?_
            rintro _ H953 ⟨rfl, hx953f, hx953g, hx953z, hx953b, hx953c⟩
            refine h_rng (fun hrg954 => ?_)
            have hf955 : fr [30, 31, 32, 33, 35, 36, 19, 39, 40, 41, 43, 44, 47] [1841, 1842, 1843, 1844, 1845, 1846, 1847, 1849, 1850, 1851, 1852, 1853, 1854] H H953 := fr_t (fr_o (fr_o (fr_o (fr_o (fr_o hf947 (by decide)) (by decide)) (by decide)) (by decide)) (by decide)) hx953f (by decide) (by decide)
            have ha956 : agp H H953 := agp_tr (agp_o (agp_o (agp_o (agp_o (agp_o ha948 (by decide)) (by decide)) (by decide)) (by decide)) (by decide)) hx953g
            replace hx953c : hid _ := hx953c
            refine h_run 0 (pc' := 142) (l' := [(0, .inr (.inr 1826)), (1, .inl (l : Int)), (2, .inl (-1))]) (st' := []) rfl ?_
            refine h_run 2 (pc' := 145) (l' := [(0, .inr (.inr 1826)), (1, .inl (l : Int)), (2, .inl (-1))]) (st' := [.inl 61, .inr (.inr 1826)]) rfl ?_
            have g957 : -2147483648 ≤ (H953.1 1826 30) ∧ (H953.1 1826 30) ≤ 2147483647 := hrg954.1 1826 13 30 _ .int rfl rfl
            have e958 : (H953.1 1826 30) = (H944.1 1826 30) := hx953f.2.2 30 (by decide)
            have g959 : -2147483648 ≤ (H953.1 1826 29) ∧ (H953.1 1826 29) ≤ 2147483647 := hrg954.1 1826 13 29 _ .int rfl rfl
            have e960 : (H953.1 1826 29) = (H944.1 1826 29) := hx953f.2.2 29 (by decide)
            have e961 : (H944.1 1826 29) = (H558.1 1826 29) := hx944f.2.2 29 (by decide)
            have g962 : -2147483648 ≤ (H953.1 1826 35) ∧ (H953.1 1826 35) ≤ 2147483647 := hrg954.1 1826 13 35 _ .int rfl rfl
            have e963 : (H953.1 1826 35) = (H944.1 1826 35) := hx953f.2.2 35 (by decide)
            have g964 : -2147483648 ≤ (H953.1 1826 31) ∧ (H953.1 1826 31) ≤ 2147483647 := hrg954.1 1826 13 31 _ .int rfl rfl
            have e965 : (H953.1 1826 31) = (H944.1 1826 31) := hx953f.2.2 31 (by decide)
            have g967 : -2147483648 ≤ (H953.1 1826 32) ∧ (H953.1 1826 32) ≤ 2147483647 := hrg954.1 1826 13 32 _ .int rfl rfl
            have e968 : (H953.1 1826 32) = (H944.1 1826 32) := hx953f.2.2 32 (by decide)
            refine h_cv (i := 313) (j := 166) (b := 1826) (M' := mt_166) (xs := [.inl 61]) (rest := []) rfl rfl rfl rfl rfl rfl (Nat.le_of_ble_eq_true rfl) (Nat.le_of_ble_eq_true rfl) (by omega) (m_want (by omega) (by omega : 0 ≤ (H953.1 1826 30) ∧ (H953.1 1826 30) ≤ (H953.1 1826 29) ∧ (H953.1 1826 29) ≤ 1000) (by omega : 0 ≤ (H953.1 1826 35) ∧ (H953.1 1826 35) ≤ 5) (by omega : 0 ≤ (H953.1 1826 32) ∧ (H953.1 1826 32) ≤ 1000) (by omega)) ?_
            rintro _ H966 ⟨rfl, hx966f, hx966a, hx966b, hx966c, hx966d, hx966e, hx966g⟩
            refine h_rng (fun hrg969 => ?_)
            have hf970 : fr [30, 31, 32, 33, 35, 36, 19, 39, 40, 41, 43, 44, 47] [1841, 1842, 1843, 1844, 1845, 1846, 1847, 1849, 1850, 1851, 1852, 1853, 1854] H H966 := fr_t hf955 hx966f (by decide) (by decide)
            have ha971 : agp H H966 := agp_tr ha956 (agp_fr hx966f (by decide) (by decide))
            replace hx966a : (H953.1 1826 30) ≤ (H966.1 1826 30) := hx966a
            replace hx966b : (H966.1 1826 30) ≤ (H953.1 1826 29) := hx966b
            replace hx966d : (H966.1 1826 35) = (H953.1 1826 35) := hx966d (by omega : (H953.1 1826 35) ≠ 0)
            replace hx966g : (H966.1 1826 35) = 0 → (H953.1 1826 31) = (61 : Int) ∧ ((H966.1 1826 31) = 0 ∨ (H953.1 1826 30) < (H966.1 1826 30)) := hx966g
            refine h_run 0 (pc' := 148) (l' := [(0, .inr (.inr 1826)), (1, .inl (l : Int)), (2, .inl (-1))]) (st' := []) rfl ?_
            refine h_run 2 (pc' := 150) (l' := [(0, .inr (.inr 1826)), (1, .inl (l : Int)), (2, .inl (-1))]) (st' := [.inl 0, .inr (.inr 1826)]) rfl ?_
            refine h_puti (i := 300) (ci := 13) (k := 40) (a := 1826) (x := 0) rfl rfl rfl rfl rfl rfl (by decide) (by decide) ?_
            refine h_run 2 (pc' := 155) (l' := [(0, .inr (.inr 1826)), (1, .inl (l : Int)), (2, .inl (-1))]) (st' := [.inl 0, .inr (.inr 1826)]) rfl ?_
            refine h_puti (i := 335) (ci := 13) (k := 41) (a := 1826) (x := 0) rfl rfl rfl rfl rfl rfl (by decide) (by decide) ?_
            refine h_run 2 (pc' := 160) (l' := [(0, .inr (.inr 1826)), (1, .inl (l : Int)), (2, .inl (-1))]) (st' := [.inl 0, .inr (.inr 1826)]) rfl ?_
            refine h_puti (i := 303) (ci := 13) (k := 43) (a := 1826) (x := 0) rfl rfl rfl rfl rfl rfl (by decide) (by decide) ?_
            refine h_run 1 (pc' := 164) (l' := [(0, .inr (.inr 1826)), (1, .inl (l : Int)), (2, .inl (-1))]) (st' := [.inr (.inr 1826)]) rfl ?_
            have g972 : -2147483648 ≤ (H966.1 1826 35) ∧ (H966.1 1826 35) ≤ 2147483647 := hrg969.1 1826 13 35 _ .int rfl rfl
            refine h_cv (i := 293) (j := 158) (b := 1826) (M' := mt_158) (xs := []) (rest := []) rfl rfl rfl rfl rfl rfl (Nat.le_of_ble_eq_true rfl) (Nat.le_of_ble_eq_true rfl) (by omega) (m_good0 (by omega) (by omega : (H966.1 1826 35) ≠ 0)) ?_
            rintro _ _ ⟨rfl, rfl⟩
            refine h_run 0 (pc' := 167) (l' := [(0, .inr (.inr 1826)), (1, .inl (l : Int)), (2, .inl (-1))]) (st' := [.inl 0]) rfl ?_
            refine h_zeq (off := 11) (t := 178) rfl rfl (by decide) (fun _ => ?_) (fun c => absurd c (by decide))
            refine h_run 1 (pc' := 179) (l' := [(0, .inr (.inr 1826)), (1, .inl (l : Int)), (2, .inl (-1))]) (st' := [.inl (-1)]) rfl ?_
            refine h_run 7 (pc' := 186) (l' := [(0, .inr (.inr 1826)), (1, .inl (l : Int)), (2, .inl (-1)), (3, .inl (-1))]) (st' := [.inl ((2 * (l : Int)) + 1), .inr (.inr 1826)]) rfl ?_
            have g973 : -2147483648 ≤ (H966.1 1826 19) ∧ (H966.1 1826 19) ≤ 2147483647 := hrg969.1 1826 13 19 _ .int rfl rfl
            have e974 : (H966.1 1826 19) = (H953.1 1826 19) := hx966f.2.2 19 (by decide)
            have e975 : (H953.1 1826 19) = (H944.1 1826 19) := hx953f.2.2 19 (by decide)
            rw [show ((2 * (l : Int)) + 1) = ((2 * l + 1 : Nat) : Int) by omega]
            refine h_cv (i := 390) (j := 188) (b := 1826) (M' := mt_188) (xs := [.inl ((2 * l + 1 : Nat) : Int)]) (rest := []) rfl rfl rfl rfl rfl rfl (Nat.le_of_ble_eq_true rfl) (Nat.le_of_ble_eq_true rfl) (by omega) (m_keepSide (by omega) (s := 2 * l + 1) (by omega : 2 * (H966.1 1826 19) ≤ ((2 * l + 1 : Nat) : Int) ∧ 2 * l + 1 ≤ 31) (by omega : (H966.1 1826 35) = 0 → 0 ≤ (0 : Int) ∧ (0 : Int) ≤ 40)) ?_
            rintro _ H976 ⟨rfl, hx976f, hx976g, hx976z, hx976b, hx976c⟩
            refine h_rng (fun hrg977 => ?_)
            have hf978 : fr [30, 31, 32, 33, 35, 36, 19, 39, 40, 41, 43, 44, 47] [1841, 1842, 1843, 1844, 1845, 1846, 1847, 1849, 1850, 1851, 1852, 1853, 1854] H H976 := fr_t (fr_o (fr_o (fr_o hf970 (by decide)) (by decide)) (by decide)) hx976f (by decide) (by decide)
            have ha979 : agp H H976 := agp_tr (agp_o (agp_o (agp_o ha971 (by decide)) (by decide)) (by decide)) hx976g
            replace hx976c : hid _ := hx976c
            refine h_run 0 (pc' := 189) (l' := [(0, .inr (.inr 1826)), (1, .inl (l : Int)), (2, .inl (-1)), (3, .inl (-1))]) (st' := []) rfl ?_
            refine h_run 1 (pc' := 190) (l' := [(0, .inr (.inr 1826)), (1, .inl (l : Int)), (2, .inl (-1)), (3, .inl (-1))]) (st' := [.inr (.inr 1826)]) rfl ?_
            have g980 : -2147483648 ≤ (H976.1 1826 35) ∧ (H976.1 1826 35) ≤ 2147483647 := hrg977.1 1826 13 35 _ .int rfl rfl
            have e981 : (H976.1 1826 35) = (H966.1 1826 35) := hx976f.2.2 35 (by decide)
            refine h_cv (i := 293) (j := 158) (b := 1826) (M' := mt_158) (xs := []) (rest := []) rfl rfl rfl rfl rfl rfl (Nat.le_of_ble_eq_true rfl) (Nat.le_of_ble_eq_true rfl) (by omega) (m_good0 (by omega) (by omega : (H976.1 1826 35) ≠ 0)) ?_
            rintro _ _ ⟨rfl, rfl⟩
            refine h_run 0 (pc' := 193) (l' := [(0, .inr (.inr 1826)), (1, .inl (l : Int)), (2, .inl (-1)), (3, .inl (-1))]) (st' := [.inl 0]) rfl ?_
            refine h_zeq (off := 83) (t := 276) rfl rfl (by decide) (fun _ => ?_) (fun c => absurd c (by decide))
            refine h_ret rfl rfl ?_
            have g982 : -2147483648 ≤ (H976.1 1826 30) ∧ (H976.1 1826 30) ≤ 2147483647 := hrg977.1 1826 13 30 _ .int rfl rfl
            have e983 : (H976.1 1826 30) = (H966.1 1826 30) := hx976f.2.2 30 (by decide)
            have g984 : -2147483648 ≤ (H976.1 1826 32) ∧ (H976.1 1826 32) ≤ 2147483647 := hrg977.1 1826 13 32 _ .int rfl rfl
            have e985 : (H976.1 1826 32) = (H966.1 1826 32) := hx976f.2.2 32 (by decide)
            have g986 : -2147483648 ≤ (H976.1 1826 31) ∧ (H976.1 1826 31) ≤ 2147483647 := hrg977.1 1826 13 31 _ .int rfl rfl
            have e987 : (H976.1 1826 31) = (H966.1 1826 31) := hx976f.2.2 31 (by decide)
            have g988 : -2147483648 ≤ (H976.1 1826 29) ∧ (H976.1 1826 29) ≤ 2147483647 := hrg977.1 1826 13 29 _ .int rfl rfl
            have e989 : (H976.1 1826 29) = (H966.1 1826 29) := hx976f.2.2 29 (by decide)
            have e990 : (H966.1 1826 29) = (H953.1 1826 29) := hx966f.2.2 29 (by decide)
            have g991 : -2147483648 ≤ (H976.1 1826 1) ∧ (H976.1 1826 1) ≤ 2147483647 := hrg977.1 1826 13 1 _ .int rfl rfl
            have e992 : (H976.1 1826 1) = (H966.1 1826 1) := hx976f.2.2 1 (by decide)
            have e993 : (H966.1 1826 1) = (H953.1 1826 1) := hx966f.2.2 1 (by decide)
            have e994 : (H953.1 1826 1) = (H944.1 1826 1) := hx953f.2.2 1 (by decide)
            have e995 : (H944.1 1826 1) = (H558.1 1826 1) := hx944f.2.2 1 (by decide)
            have e996 : (H558.1 1826 1) = (H39.1 1826 1) := hx558f.2.2 1 (by decide)
            have e997 : (H39.1 1826 1) = (H.1 1826 1) := hx39f.2.2 1 (by decide)
            have g998 : -2147483648 ≤ (H976.1 1826 3) ∧ (H976.1 1826 3) ≤ 2147483647 := hrg977.1 1826 13 3 _ .int rfl rfl
            have e999 : (H976.1 1826 3) = (H966.1 1826 3) := hx976f.2.2 3 (by decide)
            have e1000 : (H966.1 1826 3) = (H953.1 1826 3) := hx966f.2.2 3 (by decide)
            have e1001 : (H953.1 1826 3) = (H944.1 1826 3) := hx953f.2.2 3 (by decide)
            have e1002 : (H944.1 1826 3) = (H558.1 1826 3) := hx944f.2.2 3 (by decide)
            have e1003 : (H558.1 1826 3) = (H39.1 1826 3) := hx558f.2.2 3 (by decide)
            have e1004 : (H39.1 1826 3) = (H.1 1826 3) := hx39f.2.2 3 (by decide)
            have g1005 : -2147483648 ≤ (H976.1 1826 8) ∧ (H976.1 1826 8) ≤ 2147483647 := hrg977.1 1826 13 8 _ .int rfl rfl
            have e1006 : (H976.1 1826 8) = (H966.1 1826 8) := hx976f.2.2 8 (by decide)
            have e1007 : (H966.1 1826 8) = (H953.1 1826 8) := hx966f.2.2 8 (by decide)
            have e1008 : (H953.1 1826 8) = (H944.1 1826 8) := hx953f.2.2 8 (by decide)
            have e1009 : (H944.1 1826 8) = (H558.1 1826 8) := hx944f.2.2 8 (by decide)
            have e1010 : (H558.1 1826 8) = (H39.1 1826 8) := hx558f.2.2 8 (by decide)
            have e1011 : (H39.1 1826 8) = (H.1 1826 8) := hx39f.2.2 8 (by decide)
            have g1012 : -2147483648 ≤ (H976.1 1826 13) ∧ (H976.1 1826 13) ≤ 2147483647 := hrg977.1 1826 13 13 _ .int rfl rfl
            have e1013 : (H976.1 1826 13) = (H966.1 1826 13) := hx976f.2.2 13 (by decide)
            have e1014 : (H966.1 1826 13) = (H953.1 1826 13) := hx966f.2.2 13 (by decide)
            have e1015 : (H953.1 1826 13) = (H944.1 1826 13) := hx953f.2.2 13 (by decide)
            have e1016 : (H944.1 1826 13) = (H558.1 1826 13) := hx944f.2.2 13 (by decide)
            have e1017 : (H558.1 1826 13) = (H39.1 1826 13) := hx558f.2.2 13 (by decide)
            have e1018 : (H39.1 1826 13) = (H.1 1826 13) := hx39f.2.2 13 (by decide)
            have g1019 : -2147483648 ≤ (H976.1 1826 19) ∧ (H976.1 1826 19) ≤ 2147483647 := hrg977.1 1826 13 19 _ .int rfl rfl
            have e1020 : (H976.1 1826 19) = (H966.1 1826 19) := hx976f.2.2 19 (by decide)
            have g1021 : -2147483648 ≤ (H976.1 1826 39) ∧ (H976.1 1826 39) ≤ 2147483647 := hrg977.1 1826 13 39 _ .int rfl rfl
            have e1022 : (H976.1 1826 39) = (H966.1 1826 39) := hx976f.2.2 39 (by decide)
            have e1023 : (H966.1 1826 39) = (H953.1 1826 39) := hx966f.2.2 39 (by decide)
            have e1024 : (H953.1 1826 39) = 0 := hx953f.2.2 39 (by decide)
            exact ⟨rfl, hf978, (by omega : (H.1 1826 30) ≤ (H976.1 1826 30) ∧ (H976.1 1826 30) ≤ (H.1 1826 29)), (by omega : 0 ≤ (H976.1 1826 35) ∧ (H976.1 1826 35) ≤ 5), (by omega : (H.1 1826 35) ≠ 0 → (H976.1 1826 35) ≠ 0), (by omega : 0 ≤ (H976.1 1826 32) ∧ (H976.1 1826 32) ≤ 1000), ha979, (fun (q : (H976.1 1826 35) = 0) => absurd q (by omega))⟩
        · refine h_run 2 (pc' := 73) (l' := [(0, .inr (.inr 1826))]) (st' := [.inl 5, .inr (.inr 1826)]) rfl ?_
          refine h_cv (i := 278) (j := 159) (b := 1826) (M' := mt_159) (xs := [.inl 5]) (rest := []) rfl rfl rfl rfl rfl rfl (Nat.le_of_ble_eq_true rfl) (Nat.le_of_ble_eq_true rfl) (by omega) (m_bad0 (by omega) (by omega) (by omega : (H39.1 1826 35) = 0)) ?_
          rintro _ _ ⟨rfl, rfl⟩
          refine h_run 0 (pc' := 76) (l' := [(0, .inr (.inr 1826))]) (st' := []) rfl ?_
          refine h_run 1 (pc' := 77) (l' := [(0, .inr (.inr 1826))]) (st' := [.inr (.inr 1826)]) rfl ?_
          refine h_cv (i := 293) (j := 158) (b := 1826) (M' := mt_158) (xs := []) (rest := []) rfl rfl rfl rfl rfl rfl (Nat.le_of_ble_eq_true rfl) (Nat.le_of_ble_eq_true rfl) (by omega) (m_good0 (by omega) (by omega : (5 : Int) ≠ 0)) ?_
          rintro _ _ ⟨rfl, rfl⟩
          refine h_run 0 (pc' := 80) (l' := [(0, .inr (.inr 1826))]) (st' := [.inl 0]) rfl ?_
          refine h_zne (off := 4) (t := 84) rfl rfl (by decide) (fun c => absurd c (by decide)) (fun _ => ?_)
          refine h_ret rfl rfl ?_
          have g1025 : -2147483648 ≤ (H39.1 1826 30) ∧ (H39.1 1826 30) ≤ 2147483647 := hrg40.1 1826 13 30 _ .int rfl rfl
          have g1026 : -2147483648 ≤ (H39.1 1826 32) ∧ (H39.1 1826 32) ≤ 2147483647 := hrg40.1 1826 13 32 _ .int rfl rfl
          have g1027 : -2147483648 ≤ (H39.1 1826 29) ∧ (H39.1 1826 29) ≤ 2147483647 := hrg40.1 1826 13 29 _ .int rfl rfl
          have e1028 : (H39.1 1826 29) = (H.1 1826 29) := hx39f.2.2 29 (by decide)
          have g1029 : -2147483648 ≤ (H39.1 1826 1) ∧ (H39.1 1826 1) ≤ 2147483647 := hrg40.1 1826 13 1 _ .int rfl rfl
          have e1030 : (H39.1 1826 1) = (H.1 1826 1) := hx39f.2.2 1 (by decide)
          have g1031 : -2147483648 ≤ (H39.1 1826 3) ∧ (H39.1 1826 3) ≤ 2147483647 := hrg40.1 1826 13 3 _ .int rfl rfl
          have e1032 : (H39.1 1826 3) = (H.1 1826 3) := hx39f.2.2 3 (by decide)
          have g1033 : -2147483648 ≤ (H39.1 1826 8) ∧ (H39.1 1826 8) ≤ 2147483647 := hrg40.1 1826 13 8 _ .int rfl rfl
          have e1034 : (H39.1 1826 8) = (H.1 1826 8) := hx39f.2.2 8 (by decide)
          have g1035 : -2147483648 ≤ (H39.1 1826 13) ∧ (H39.1 1826 13) ≤ 2147483647 := hrg40.1 1826 13 13 _ .int rfl rfl
          have e1036 : (H39.1 1826 13) = (H.1 1826 13) := hx39f.2.2 13 (by decide)
          have g1037 : -2147483648 ≤ (H39.1 1826 39) ∧ (H39.1 1826 39) ≤ 2147483647 := hrg40.1 1826 13 39 _ .int rfl rfl
          have e1038 : (H39.1 1826 39) = (H.1 1826 39) := hx39f.2.2 39 (by decide)
          exact ⟨rfl, (fr_o (fr_o hf41 (by decide)) (by decide)), (by omega : (H.1 1826 30) ≤ (H39.1 1826 30) ∧ (H39.1 1826 30) ≤ (H.1 1826 29)), (by omega : 0 ≤ (5 : Int) ∧ (5 : Int) ≤ 5), (by omega : (H.1 1826 35) ≠ 0 → (5 : Int) ≠ 0), (by omega : 0 ≤ (H39.1 1826 32) ∧ (H39.1 1826 32) ≤ 1000), (agp_o (agp_o ha42 (by decide)) (by decide)), (fun (q : (5 : Int) = 0) => absurd q (by omega))⟩
    · refine h_run 2 (pc' := 21) (l' := [(0, .inr (.inr 1826))]) (st' := [.inl 2, .inr (.inr 1826)]) rfl ?_
      refine h_cv (i := 278) (j := 159) (b := 1826) (M' := mt_159) (xs := [.inl 2]) (rest := []) rfl rfl rfl rfl rfl rfl (Nat.le_of_ble_eq_true rfl) (Nat.le_of_ble_eq_true rfl) (by omega) (m_bad0 (by omega) (by omega) (by omega : (H39.1 1826 35) = 0)) ?_
      rintro _ _ ⟨rfl, rfl⟩
      refine h_run 0 (pc' := 24) (l' := [(0, .inr (.inr 1826))]) (st' := []) rfl ?_
      refine h_run 1 (pc' := 25) (l' := [(0, .inr (.inr 1826))]) (st' := [.inr (.inr 1826)]) rfl ?_
      refine h_cv (i := 293) (j := 158) (b := 1826) (M' := mt_158) (xs := []) (rest := []) rfl rfl rfl rfl rfl rfl (Nat.le_of_ble_eq_true rfl) (Nat.le_of_ble_eq_true rfl) (by omega) (m_good0 (by omega) (by omega : (2 : Int) ≠ 0)) ?_
      rintro _ _ ⟨rfl, rfl⟩
      refine h_run 0 (pc' := 28) (l' := [(0, .inr (.inr 1826))]) (st' := [.inl 0]) rfl ?_
      refine h_zeq (off := 27) (t := 55) rfl rfl (by decide) (fun _ => ?_) (fun c => absurd c (by decide))
      refine h_run 1 (pc' := 56) (l' := [(0, .inr (.inr 1826))]) (st' := [.inr (.inr 1826)]) rfl ?_
      refine h_cv (i := 293) (j := 158) (b := 1826) (M' := mt_158) (xs := []) (rest := []) rfl rfl rfl rfl rfl rfl (Nat.le_of_ble_eq_true rfl) (Nat.le_of_ble_eq_true rfl) (by omega) (m_good0 (by omega) (by omega : (2 : Int) ≠ 0)) ?_
      rintro _ _ ⟨rfl, rfl⟩
      refine h_run 0 (pc' := 59) (l' := [(0, .inr (.inr 1826))]) (st' := [.inl 0]) rfl ?_
      refine h_zeq (off := 17) (t := 76) rfl rfl (by decide) (fun _ => ?_) (fun c => absurd c (by decide))
      refine h_run 1 (pc' := 77) (l' := [(0, .inr (.inr 1826))]) (st' := [.inr (.inr 1826)]) rfl ?_
      refine h_cv (i := 293) (j := 158) (b := 1826) (M' := mt_158) (xs := []) (rest := []) rfl rfl rfl rfl rfl rfl (Nat.le_of_ble_eq_true rfl) (Nat.le_of_ble_eq_true rfl) (by omega) (m_good0 (by omega) (by omega : (2 : Int) ≠ 0)) ?_
      rintro _ _ ⟨rfl, rfl⟩
      refine h_run 0 (pc' := 80) (l' := [(0, .inr (.inr 1826))]) (st' := [.inl 0]) rfl ?_
      refine h_zne (off := 4) (t := 84) rfl rfl (by decide) (fun c => absurd c (by decide)) (fun _ => ?_)
      refine h_ret rfl rfl ?_
      have g1039 : -2147483648 ≤ (H39.1 1826 30) ∧ (H39.1 1826 30) ≤ 2147483647 := hrg40.1 1826 13 30 _ .int rfl rfl
      have g1040 : -2147483648 ≤ (H39.1 1826 32) ∧ (H39.1 1826 32) ≤ 2147483647 := hrg40.1 1826 13 32 _ .int rfl rfl
      have g1041 : -2147483648 ≤ (H39.1 1826 29) ∧ (H39.1 1826 29) ≤ 2147483647 := hrg40.1 1826 13 29 _ .int rfl rfl
      have e1042 : (H39.1 1826 29) = (H.1 1826 29) := hx39f.2.2 29 (by decide)
      have g1043 : -2147483648 ≤ (H39.1 1826 1) ∧ (H39.1 1826 1) ≤ 2147483647 := hrg40.1 1826 13 1 _ .int rfl rfl
      have e1044 : (H39.1 1826 1) = (H.1 1826 1) := hx39f.2.2 1 (by decide)
      have g1045 : -2147483648 ≤ (H39.1 1826 3) ∧ (H39.1 1826 3) ≤ 2147483647 := hrg40.1 1826 13 3 _ .int rfl rfl
      have e1046 : (H39.1 1826 3) = (H.1 1826 3) := hx39f.2.2 3 (by decide)
      have g1047 : -2147483648 ≤ (H39.1 1826 8) ∧ (H39.1 1826 8) ≤ 2147483647 := hrg40.1 1826 13 8 _ .int rfl rfl
      have e1048 : (H39.1 1826 8) = (H.1 1826 8) := hx39f.2.2 8 (by decide)
      have g1049 : -2147483648 ≤ (H39.1 1826 13) ∧ (H39.1 1826 13) ≤ 2147483647 := hrg40.1 1826 13 13 _ .int rfl rfl
      have e1050 : (H39.1 1826 13) = (H.1 1826 13) := hx39f.2.2 13 (by decide)
      have g1051 : -2147483648 ≤ (H39.1 1826 19) ∧ (H39.1 1826 19) ≤ 2147483647 := hrg40.1 1826 13 19 _ .int rfl rfl
      have e1052 : (H39.1 1826 19) = (H.1 1826 19) := hx39f.2.2 19 (by decide)
      have g1053 : -2147483648 ≤ (H39.1 1826 39) ∧ (H39.1 1826 39) ≤ 2147483647 := hrg40.1 1826 13 39 _ .int rfl rfl
      have e1054 : (H39.1 1826 39) = (H.1 1826 39) := hx39f.2.2 39 (by decide)
      exact ⟨rfl, (fr_o (fr_o hf41 (by decide)) (by decide)), (by omega : (H.1 1826 30) ≤ (H39.1 1826 30) ∧ (H39.1 1826 30) ≤ (H.1 1826 29)), (by omega : 0 ≤ (2 : Int) ∧ (2 : Int) ≤ 5), (by omega : (H.1 1826 35) ≠ 0 → (2 : Int) ≠ 0), (by omega : 0 ≤ (H39.1 1826 32) ∧ (H39.1 1826 32) ≤ 1000), (agp_o (agp_o ha42 (by decide)) (by decide)), (fun (q : (2 : Int) = 0) => absurd q (by omega))⟩
  · have b44x : (H39.1 1826 35) ≠ 0 := b44
    clear hx39g
    refine h_run 0 (pc' := 8) (l' := [(0, .inr (.inr 1826))]) (st' := [.inl 0]) rfl ?_
    refine h_zeq (off := 16) (t := 24) rfl rfl (by decide) (fun _ => ?_) (fun c => absurd c (by decide))
    refine h_run 1 (pc' := 25) (l' := [(0, .inr (.inr 1826))]) (st' := [.inr (.inr 1826)]) rfl ?_
    refine h_cv (i := 293) (j := 158) (b := 1826) (M' := mt_158) (xs := []) (rest := []) rfl rfl rfl rfl rfl rfl (Nat.le_of_ble_eq_true rfl) (Nat.le_of_ble_eq_true rfl) (by omega) (m_good0 (by omega) (by omega : (H39.1 1826 35) ≠ 0)) ?_
    rintro _ _ ⟨rfl, rfl⟩
    refine h_run 0 (pc' := 28) (l' := [(0, .inr (.inr 1826))]) (st' := [.inl 0]) rfl ?_
    refine h_zeq (off := 27) (t := 55) rfl rfl (by decide) (fun _ => ?_) (fun c => absurd c (by decide))
    refine h_run 1 (pc' := 56) (l' := [(0, .inr (.inr 1826))]) (st' := [.inr (.inr 1826)]) rfl ?_
    refine h_cv (i := 293) (j := 158) (b := 1826) (M' := mt_158) (xs := []) (rest := []) rfl rfl rfl rfl rfl rfl (Nat.le_of_ble_eq_true rfl) (Nat.le_of_ble_eq_true rfl) (by omega) (m_good0 (by omega) (by omega : (H39.1 1826 35) ≠ 0)) ?_
    rintro _ _ ⟨rfl, rfl⟩
    refine h_run 0 (pc' := 59) (l' := [(0, .inr (.inr 1826))]) (st' := [.inl 0]) rfl ?_
    refine h_zeq (off := 17) (t := 76) rfl rfl (by decide) (fun _ => ?_) (fun c => absurd c (by decide))
    refine h_run 1 (pc' := 77) (l' := [(0, .inr (.inr 1826))]) (st' := [.inr (.inr 1826)]) rfl ?_
    refine h_cv (i := 293) (j := 158) (b := 1826) (M' := mt_158) (xs := []) (rest := []) rfl rfl rfl rfl rfl rfl (Nat.le_of_ble_eq_true rfl) (Nat.le_of_ble_eq_true rfl) (by omega) (m_good0 (by omega) (by omega : (H39.1 1826 35) ≠ 0)) ?_
    rintro _ _ ⟨rfl, rfl⟩
    refine h_run 0 (pc' := 80) (l' := [(0, .inr (.inr 1826))]) (st' := [.inl 0]) rfl ?_
    refine h_zne (off := 4) (t := 84) rfl rfl (by decide) (fun c => absurd c (by decide)) (fun _ => ?_)
    refine h_ret rfl rfl ?_
    have g1055 : -2147483648 ≤ (H39.1 1826 30) ∧ (H39.1 1826 30) ≤ 2147483647 := hrg40.1 1826 13 30 _ .int rfl rfl
    have g1056 : -2147483648 ≤ (H39.1 1826 32) ∧ (H39.1 1826 32) ≤ 2147483647 := hrg40.1 1826 13 32 _ .int rfl rfl
    have g1057 : -2147483648 ≤ (H39.1 1826 31) ∧ (H39.1 1826 31) ≤ 2147483647 := hrg40.1 1826 13 31 _ .int rfl rfl
    have g1058 : -2147483648 ≤ (H39.1 1826 29) ∧ (H39.1 1826 29) ≤ 2147483647 := hrg40.1 1826 13 29 _ .int rfl rfl
    have e1059 : (H39.1 1826 29) = (H.1 1826 29) := hx39f.2.2 29 (by decide)
    have g1060 : -2147483648 ≤ (H39.1 1826 1) ∧ (H39.1 1826 1) ≤ 2147483647 := hrg40.1 1826 13 1 _ .int rfl rfl
    have e1061 : (H39.1 1826 1) = (H.1 1826 1) := hx39f.2.2 1 (by decide)
    have g1062 : -2147483648 ≤ (H39.1 1826 3) ∧ (H39.1 1826 3) ≤ 2147483647 := hrg40.1 1826 13 3 _ .int rfl rfl
    have e1063 : (H39.1 1826 3) = (H.1 1826 3) := hx39f.2.2 3 (by decide)
    have g1064 : -2147483648 ≤ (H39.1 1826 8) ∧ (H39.1 1826 8) ≤ 2147483647 := hrg40.1 1826 13 8 _ .int rfl rfl
    have e1065 : (H39.1 1826 8) = (H.1 1826 8) := hx39f.2.2 8 (by decide)
    have g1066 : -2147483648 ≤ (H39.1 1826 13) ∧ (H39.1 1826 13) ≤ 2147483647 := hrg40.1 1826 13 13 _ .int rfl rfl
    have e1067 : (H39.1 1826 13) = (H.1 1826 13) := hx39f.2.2 13 (by decide)
    have g1068 : -2147483648 ≤ (H39.1 1826 19) ∧ (H39.1 1826 19) ≤ 2147483647 := hrg40.1 1826 13 19 _ .int rfl rfl
    have e1069 : (H39.1 1826 19) = (H.1 1826 19) := hx39f.2.2 19 (by decide)
    have g1070 : -2147483648 ≤ (H39.1 1826 39) ∧ (H39.1 1826 39) ≤ 2147483647 := hrg40.1 1826 13 39 _ .int rfl rfl
    have e1071 : (H39.1 1826 39) = (H.1 1826 39) := hx39f.2.2 39 (by decide)
    exact ⟨rfl, hf41, (by omega : (H.1 1826 30) ≤ (H39.1 1826 30) ∧ (H39.1 1826 30) ≤ (H.1 1826 29)), (by omega : 0 ≤ (H39.1 1826 35) ∧ (H39.1 1826 35) ≤ 5), (by omega : (H.1 1826 35) ≠ 0 → (H39.1 1826 35) ≠ 0), (by omega : 0 ≤ (H39.1 1826 32) ∧ (H39.1 1826 32) ≤ 1000), ha42, (fun (q : (H39.1 1826 35) = 0) => absurd q (by omega))⟩
