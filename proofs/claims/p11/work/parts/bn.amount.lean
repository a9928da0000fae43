/-! the reference: how many values there are -/
theorem z_t6 {x : Int} (h : -9223372036854775808 ≤ x ∧ x ≤ 9223372036854775807) : (Int64.ofInt x).toInt = x := Int64.toInt_ofInt_of_le (by omega) (by omega)
theorem z_cm {x y : Int} (hx : -9223372036854775808 ≤ x ∧ x ≤ 9223372036854775807) (hy : -9223372036854775808 ≤ y ∧ y ≤ 9223372036854775807) : (x < y ∧ z_cmp x y = -1) ∨ (x = y ∧ z_cmp x y = 0) ∨ (y < x ∧ z_cmp x y = 1) := by
  unfold z_cmp lg_cmp
  by_cases h1 : Int64.ofInt x > Int64.ofInt y
  · rw [if_pos h1]
    have h2 : Int64.ofInt y < Int64.ofInt x := h1
    rw [Int64.lt_iff_toInt_lt, z_t6 hx, z_t6 hy] at h2
    exact Or.inr (Or.inr ⟨h2, rfl⟩)
  · rw [if_neg h1]
    have h2 : ¬ Int64.ofInt y < Int64.ofInt x := h1
    rw [Int64.lt_iff_toInt_lt, z_t6 hx, z_t6 hy] at h2
    by_cases h3 : Int64.ofInt x = Int64.ofInt y
    · rw [if_pos h3]
      have h4 := congrArg Int64.toInt h3
      rw [z_t6 hx, z_t6 hy] at h4
      exact Or.inr (Or.inl ⟨h4, rfl⟩)
    · rw [if_neg h3]
      refine Or.inl ⟨?_, rfl⟩
      have h5 : x ≠ y := fun e => h3 (by rw [e])
      omega
theorem mulb {x y : Int} (hx : 0 ≤ x ∧ x ≤ 1000000) (hy : 0 ≤ y ∧ y ≤ 1000000) : 0 ≤ x * y ∧ x * y ≤ 1000000000000 ∧ (0 < x * y → 0 < x ∧ 0 < y) := by
  refine ⟨Int.mul_nonneg hx.1 hy.1, ?_, fun h => ?_⟩
  · exact Int.le_trans (Int.mul_le_mul hx.2 hy.2 hy.1 (by decide)) (by decide)
  · refine ⟨?_, ?_⟩
    · rcases Int.lt_or_eq_of_le hx.1 with q | q
      · exact q
      · rw [← q, Int.zero_mul] at h; exact absurd h (by decide)
    · rcases Int.lt_or_eq_of_le hy.1 with q | q
      · exact q
      · rw [← q, Int.mul_zero] at h; exact absurd h (by decide)
def PZ (x : Int) (W : Prop) : Prop := 0 < x → W
def AMb (am : Nat → Int) : Prop := ∀ j : Nat, j < 48 → 0 ≤ am j ∧ am j ≤ 1000000
def WT (am cA cG : Nat → Int) (c n : Nat) : Prop := (cA c = 0 ∧ n = 1) ∨ (cA c = 1 ∧ ∃ i : Nat, 1 ≤ i ∧ i + 1 = n ∧ 0 < am (8 * cG (3 * c) + (i : Int)).toNat) ∨ (cA c = 2 ∧ ∃ i j : Nat, 1 ≤ i ∧ 1 ≤ j ∧ i + j + 1 = n ∧ 0 < am (8 * cG (3 * c) + (i : Int)).toNat ∧ 0 < am (8 * cG (3 * c + 1) + (j : Int)).toNat) ∨ (cA c = 3 ∧ ∃ i j k : Nat, 1 ≤ i ∧ 1 ≤ j ∧ 1 ≤ k ∧ i + j + k + 1 = n ∧ 0 < am (8 * cG (3 * c) + (i : Int)).toNat ∧ 0 < am (8 * cG (3 * c + 1) + (j : Int)).toNat ∧ 0 < am (8 * cG (3 * c + 2) + (k : Int)).toNat)
def WA (am cT cA cG : Nat → Int) (cn al : Int) (t n : Nat) : Prop := (n = 1 ∧ al = 1) ∨ ∃ c : Nat, (c : Int) < cn ∧ cT c = (t : Int) ∧ WT am cA cG c n
theorem WT_up {tn cn : Int} {am cT cA cG : Nat → Int} {c k n t : Nat} {z : Int} (hm : m_con tn cn cT cA cG) (hc : (c : Int) < cn) (h : WT am cA cG c k) (hk : k ≤ n) (hn : n ≤ 6) : WT (up am (8 * t + n) z) cA cG c k := by
  obtain ⟨-, -, hg⟩ := hm c hc
  have e : ∀ (g : Int) (i : Nat), 0 ≤ g → i < n → up am (8 * t + n) z (8 * g + (i : Int)).toNat = am (8 * g + (i : Int)).toNat := fun g i h1 h2 => up_ne _ _ (by omega)
  rcases h with h | ⟨h1, i, h2, h3, h4⟩ | ⟨h1, i, j, h2, h3, h4, h5, h6⟩ | ⟨h1, i, j, l, h2, h3, h4, h5, h6, h7, h8⟩
  · exact Or.inl h
  · have g0 : 0 ≤ cG (3 * c) := (hg 0 (by omega)).1
    exact Or.inr (Or.inl ⟨h1, i, h2, h3, by rw [e _ _ g0 (by omega)]; exact h4⟩)
  · have g0 : 0 ≤ cG (3 * c) := (hg 0 (by omega)).1
    have g1 : 0 ≤ cG (3 * c + 1) := (hg 1 (by omega)).1
    exact Or.inr (Or.inr (Or.inl ⟨h1, i, j, h2, h3, h4, by rw [e _ _ g0 (by omega)]; exact h5, by rw [e _ _ g1 (by omega)]; exact h6⟩))
  · have g0 : 0 ≤ cG (3 * c) := (hg 0 (by omega)).1
    have g1 : 0 ≤ cG (3 * c + 1) := (hg 1 (by omega)).1
    have g2 : 0 ≤ cG (3 * c + 2) := (hg 2 (by omega)).1
    exact Or.inr (Or.inr (Or.inr ⟨h1, i, j, l, h2, h3, h4, h5, by rw [e _ _ g0 (by omega)]; exact h6, by rw [e _ _ g1 (by omega)]; exact h7, by rw [e _ _ g2 (by omega)]; exact h8⟩))
theorem WA_up {tn cn al : Int} {am cT cA cG : Nat → Int} {k n t t' : Nat} {z : Int} (hm : m_con tn cn cT cA cG) (h : WA am cT cA cG cn al t' k) (hk : k ≤ n) (hn : n ≤ 6) : WA (up am (8 * t + n) z) cT cA cG cn al t' k := by
  rcases h with h | ⟨c, h1, h2, h3⟩
  · exact Or.inl h
  · exact Or.inr ⟨c, h1, h2, WT_up hm h1 h3 hk hn⟩
/-- each amount up to (n, t) has its reason -/
def AW (am cT cA cG : Nat → Int) (tn cn al : Int) (n t : Nat) : Prop := ∀ u k : Nat, (u : Int) < tn → 1 ≤ k → (k < n ∨ (k = n ∧ u < t)) → 0 < am (8 * u + k) → WA am cT cA cG cn al u k
theorem AW_next {tn cn al : Int} {am cT cA cG : Nat → Int} {n t : Nat} (h : AW am cT cA cG tn cn al n t) (ht : tn ≤ (t : Int)) : AW am cT cA cG tn cn al (n + 1) 0 := by
  intro u k h1 h2 h3 h4
  exact h u k h1 h2 (by omega) h4
theorem AW_put {tn cn al : Int} {am cT cA cG : Nat → Int} {n t : Nat} {z : Int} (hm : m_con tn cn cT cA cG) (h : AW am cT cA cG tn cn al n t) (hn : n ≤ 6) (hz : PZ z (WA am cT cA cG cn al t n)) : AW (up am (8 * t + n) z) cT cA cG tn cn al n (t + 1) := by
  intro u k h1 h2 h3 h4
  by_cases e : u = t ∧ k = n
  · obtain ⟨rfl, rfl⟩ := e
    rw [up_eq] at h4
    exact WA_up hm (hz h4) (Nat.le_refl _) hn
  · rw [up_ne _ _ (by omega)] at h4
    exact WA_up hm (h u k h1 h2 (by omega) h4) (by omega) hn
theorem AMb_put {am : Nat → Int} {j : Nat} {z : Int} (h : AMb am) (hz : 0 ≤ z ∧ z ≤ 1000000) : AMb (up am j z) := by
  intro i hi
  by_cases e : i = j
  · rw [e, up_eq]; exact hz
  · rw [up_ne _ _ e]; exact h i hi

/-! bounded -/
set_option maxRecDepth 100000 in
theorem m_bounded {zC : Nat → Option zsh} {d : Nat} (hd : 2 ≤ d) {H : hp} {v : Int} (hv : 0 ≤ v ∧ v ≤ 2000000000000) : hG (zs zC) d mt_208 0 (zargs 0 [.inr (.inl v)]) [] H (fun r9 H2 => (∃ r : Int, r9 = some (.inr (.inl r)) ∧ (0 ≤ r ∧ r ≤ 1000000) ∧ (0 < r → 0 < v) ∧ (v ≤ 1000000 → r = v)) ∧ H = H2) := by
  refine h_rng (fun hrg0 => ?_)
  refine h_run 0 (pc' := 0) (l' := [(0, .inr (.inl v))]) (st' := []) rfl ?_
  refine h_run 1 (pc' := 1) (l' := [(0, .inr (.inl v))]) (st' := [.inr (.inl v)]) rfl ?_
  refine h_ldc2 (i := 483) (z := 1000000) rfl rfl rfl ?_
  refine h_run 0 (pc' := 4) (l' := [(0, .inr (.inl v))]) (st' := [.inr (.inl 1000000), .inr (.inl v)]) rfl ?_
  refine h_run 1 (pc' := 5) (l' := [(0, .inr (.inl v))]) (st' := [.inl (z_cmp v 1000000)]) rfl ?_
  have hcm := z_cm (x := v) (y := 1000000) (by omega) (by decide)
  refine h_zle (off := 9) (t := 14) rfl rfl (z_int _) (fun c1 => ?_) (fun c1 => ?_)
  · refine h_run 1 (pc' := 15) (l' := [(0, .inr (.inl v))]) (st' := [.inr (.inl v)]) rfl ?_
    refine h_retl (x := v) rfl rfl ?_
    exact ⟨⟨_, rfl, by omega, by omega, by omega⟩, rfl⟩
  · refine h_ldc2 (i := 483) (z := 1000000) rfl rfl rfl ?_
    refine h_run 0 (pc' := 11) (l' := [(0, .inr (.inl v))]) (st' := [.inr (.inl 1000000)]) rfl ?_
    refine h_run 1 (pc' := 15) (l' := [(0, .inr (.inl v))]) (st' := [.inr (.inl 1000000)]) rfl ?_
    refine h_retl (x := 1000000) rfl rfl ?_
    exact ⟨⟨_, rfl, by omega, by omega, by omega⟩, rfl⟩

/-! conAmount -/
set_option maxRecDepth 100000 in
theorem m_conAmount_cut {zC : Nat → Option zsh} {d : Nat} (hd : 4 ≤ d) {H : hp} {c n : Nat} (hP : PWc H) (hc : (c : Int) < (H.1 1826 3)) (hn : 1 ≤ n ∧ n ≤ 6) (hAM : AMb (H.1 1864)) : ∀ w : Nat, (∀ (sm : Int) (i : Nat), ((H.1 1830) c ≠ 0) → (1 ≤ i ∧ i ≤ n) → (0 ≤ sm ∧ sm ≤ 1000000 * i) → (PZ sm (WT (H.1 1864) (H.1 1830) (H.1 1831) c n)) → 1000 - 100 * i < w → hG (zs zC) d mt_210 28 [(0, .inr (.inr 1826)), (1, .inl (c : Int)), (2, .inl (n : Int)), (3, .inl (H.1 1830 c)), (4, .inr (.inl sm)), (6, .inl (i : Int))] [] H (fun r9 H2 => (∃ r : Int, r9 = some (.inr (.inl r)) ∧ (0 ≤ r ∧ r ≤ 1000000) ∧ PZ r (WT (H.1 1864) (H.1 1830) (H.1 1831) c n)) ∧ H = H2)) ∧ (∀ (sm : Int) (i : Nat) (j : Nat), ((H.1 1830) c ≠ 0) → (1 ≤ i ∧ i < n) → (1 ≤ j ∧ j ≤ n) → (0 ≤ sm ∧ sm ≤ 1000000 * (i + 1)) → (PZ sm (WT (H.1 1864) (H.1 1830) (H.1 1831) c n)) → 1000 - 100 * i - j < w → hG (zs zC) d mt_210 82 [(0, .inr (.inr 1826)), (1, .inl (c : Int)), (2, .inl (n : Int)), (3, .inl (H.1 1830 c)), (4, .inr (.inl sm)), (6, .inl (i : Int)), (7, .inr (.inl (H.1 1864 (((8 * (H.1 1831 (3 * c))) + (i : Int))).toNat))), (9, .inl (j : Int))] [] H (fun r9 H2 => (∃ r : Int, r9 = some (.inr (.inl r)) ∧ (0 ≤ r ∧ r ≤ 1000000) ∧ PZ r (WT (H.1 1864) (H.1 1830) (H.1 1831) c n)) ∧ H = H2)) := by
  intro w
  induction w with
  | zero => exact ⟨fun _ _ _ _ _ _ h => absurd h (Nat.not_lt_zero _), fun _ _ _ _ _ _ _ _ h => absurd h (Nat.not_lt_zero _)⟩
  | succ w ih =>
    refine ⟨?_, ?_⟩
    · intro sm i har hi hsm hz hw
      refine h_rng (fun hrg1 => ?_)
      obtain ⟨⟨pb1, pb2, pb3, pb4, pb5⟩, pw1, pw2, pw3, pw4⟩ := (id hP : PW H (H.1 1826 1) (H.1 1826 3) (H.1 1826 8) (H.1 1826 13) (H.1 1826 19))
      obtain ⟨hca, hct, hcg⟩ := pw1 c (by omega)
      have hg0 : 0 ≤ (H.1 1831) (3 * c) ∧ (H.1 1831) (3 * c) < (H.1 1826 1) := hcg 0 (by omega)
      refine h_run 2 (pc' := 31) (l' := [(0, .inr (.inr 1826)), (1, .inl (c : Int)), (2, .inl (n : Int)), (3, .inl (H.1 1830 c)), (4, .inr (.inl sm)), (6, .inl (i : Int))]) (st' := [.inl (n : Int), .inl (i : Int)]) rfl ?_
      refine h_ige (off := 180) (t := 211) rfl rfl (by omega) (by omega) (fun c2 => ?_) (fun c2 => ?_)
      · refine h_run 1 (pc' := 213) (l' := [(0, .inr (.inr 1826)), (1, .inl (c : Int)), (2, .inl (n : Int)), (3, .inl (H.1 1830 c)), (4, .inr (.inl sm)), (6, .inl (i : Int))]) (st' := [.inr (.inl sm)]) rfl ?_
        refine h_cs (i := 489) (j := 208) (M' := mt_208) (xs := [.inr (.inl sm)]) (rest := []) rfl rfl rfl rfl rfl (Nat.le_of_ble_eq_true rfl) (Nat.le_of_ble_eq_true rfl) (by omega) (m_bounded (by omega) (by omega)) ?_
        rintro _ _ ⟨⟨b3, rfl, b3r, b3p, -⟩, rfl⟩
        refine h_run 0 (pc' := 216) (l' := [(0, .inr (.inr 1826)), (1, .inl (c : Int)), (2, .inl (n : Int)), (3, .inl (H.1 1830 c)), (4, .inr (.inl sm)), (6, .inl (i : Int))]) (st' := [.inr (.inl b3)]) rfl ?_
        refine h_retl (x := b3) rfl rfl ?_
        exact ⟨⟨_, rfl, by omega, fun h9 => hz (by omega)⟩, rfl⟩
      · refine h_run 8 (pc' := 47) (l' := [(0, .inr (.inr 1826)), (1, .inl (c : Int)), (2, .inl (n : Int)), (3, .inl (H.1 1830 c)), (4, .inr (.inl sm)), (6, .inl (i : Int))]) (st' := [.inl (3 * (c : Int)), .inr (.inr 1831), .inl 8, .inr (.inr 1864)]) rfl ?_
        refine h_ild (c := 1831) (j := (3 * c)) (i := (3 * (c : Int))) rfl rfl (by decide) (by omega) (by omega) ?_
        have g4 : -2147483648 ≤ (H.1 1831 (3 * c)) ∧ (H.1 1831 (3 * c)) ≤ 2147483647 := hrg1.2 1831 (3 * c) 48 .int rfl (by omega)
        refine h_run 0 (pc' := 48) (l' := [(0, .inr (.inr 1826)), (1, .inl (c : Int)), (2, .inl (n : Int)), (3, .inl (H.1 1830 c)), (4, .inr (.inl sm)), (6, .inl (i : Int))]) (st' := [.inl (H.1 1831 (3 * c)), .inl 8, .inr (.inr 1864)]) rfl ?_
        refine h_run 3 (pc' := 52) (l' := [(0, .inr (.inr 1826)), (1, .inl (c : Int)), (2, .inl (n : Int)), (3, .inl (H.1 1830 c)), (4, .inr (.inl sm)), (6, .inl (i : Int))]) (st' := [.inl ((8 * (H.1 1831 (3 * c))) + (i : Int)), .inr (.inr 1864)]) rfl ?_
        refine h_lld (c := 1864) (j := (((8 * (H.1 1831 (3 * c))) + (i : Int))).toNat) (i := ((8 * (H.1 1831 (3 * c))) + (i : Int))) rfl rfl (by decide) (by omega) (by omega) ?_
        have g5 : -9223372036854775808 ≤ (H.1 1864 (((8 * (H.1 1831 (3 * c))) + (i : Int))).toNat) ∧ (H.1 1864 (((8 * (H.1 1831 (3 * c))) + (i : Int))).toNat) ≤ 9223372036854775807 := hrg1.2 1864 (((8 * (H.1 1831 (3 * c))) + (i : Int))).toNat 48 .long rfl (by omega)
        refine h_run 0 (pc' := 53) (l' := [(0, .inr (.inr 1826)), (1, .inl (c : Int)), (2, .inl (n : Int)), (3, .inl (H.1 1830 c)), (4, .inr (.inl sm)), (6, .inl (i : Int))]) (st' := [.inr (.inl (H.1 1864 (((8 * (H.1 1831 (3 * c))) + (i : Int))).toNat))]) rfl ?_
        have hxx : 0 ≤ (H.1 1864 (((8 * (H.1 1831 (3 * c))) + (i : Int))).toNat) ∧ (H.1 1864 (((8 * (H.1 1831 (3 * c))) + (i : Int))).toNat) ≤ 1000000 := hAM _ (by omega)
        refine h_run 3 (pc' := 57) (l' := [(0, .inr (.inr 1826)), (1, .inl (c : Int)), (2, .inl (n : Int)), (3, .inl (H.1 1830 c)), (4, .inr (.inl sm)), (6, .inl (i : Int)), (7, .inr (.inl (H.1 1864 (((8 * (H.1 1831 (3 * c))) + (i : Int))).toNat)))]) (st' := [.inl 1, .inl (H.1 1830 c)]) rfl ?_
        refine h_ine (off := 22) (t := 79) rfl rfl (by omega) (by decide) (fun c6 => ?_) (fun c6 => ?_)
        · refine h_run 2 (pc' := 82) (l' := [(0, .inr (.inr 1826)), (1, .inl (c : Int)), (2, .inl (n : Int)), (3, .inl (H.1 1830 c)), (4, .inr (.inl sm)), (6, .inl (i : Int)), (7, .inr (.inl (H.1 1864 (((8 * (H.1 1831 (3 * c))) + (i : Int))).toNat))), (9, .inl 1)]) (st' := []) rfl ?_
          exact ih.2 sm i 1 (by omega) (by omega) (by omega) (by omega) (fun h9 => by first | exact hz (by omega) | (by_cases hs9 : 0 < sm; { exact hz hs9 }; { exact Or.inr (Or.inl ⟨by omega, i, by omega, by omega, by omega⟩) })) (by omega : 1000 - 100 * i - 1 < w)
        · refine h_run 5 (pc' := 67) (l' := [(0, .inr (.inr 1826)), (1, .inl (c : Int)), (2, .inl (n : Int)), (3, .inl (H.1 1830 c)), (4, .inr (.inl sm)), (6, .inl (i : Int)), (7, .inr (.inl (H.1 1864 (((8 * (H.1 1831 (3 * c))) + (i : Int))).toNat)))]) (st' := [.inl ((n : Int) - 1), .inl (i : Int), .inr (.inl sm)]) rfl ?_
          refine h_ine (off := 8) (t := 75) rfl rfl (by omega) (by omega) (fun c7 => ?_) (fun c7 => ?_)
          · refine h_run 5 (pc' := 82) (l' := [(0, .inr (.inr 1826)), (1, .inl (c : Int)), (2, .inl (n : Int)), (3, .inl (H.1 1830 c)), (4, .inr (.inl (sm + 0))), (6, .inl (i : Int)), (7, .inr (.inl (H.1 1864 (((8 * (H.1 1831 (3 * c))) + (i : Int))).toNat))), (9, .inl 1)]) (st' := []) rfl ?_
            exact ih.2 (sm + 0) i 1 (by omega) (by omega) (by omega) (by omega) (fun h9 => by first | exact hz (by omega) | (by_cases hs9 : 0 < sm; { exact hz hs9 }; { exact Or.inr (Or.inl ⟨by omega, i, by omega, by omega, by omega⟩) })) (by omega : 1000 - 100 * i - 1 < w)
          · refine h_run 6 (pc' := 82) (l' := [(0, .inr (.inr 1826)), (1, .inl (c : Int)), (2, .inl (n : Int)), (3, .inl (H.1 1830 c)), (4, .inr (.inl (sm + (H.1 1864 (((8 * (H.1 1831 (3 * c))) + (i : Int))).toNat)))), (6, .inl (i : Int)), (7, .inr (.inl (H.1 1864 (((8 * (H.1 1831 (3 * c))) + (i : Int))).toNat))), (9, .inl 1)]) (st' := []) rfl ?_
            exact ih.2 (sm + (H.1 1864 (((8 * (H.1 1831 (3 * c))) + (i : Int))).toNat)) i 1 (by omega) (by omega) (by omega) (by omega) (fun h9 => by first | exact hz (by omega) | (by_cases hs9 : 0 < sm; { exact hz hs9 }; { exact Or.inr (Or.inl ⟨by omega, i, by omega, by omega, by omega⟩) })) (by omega : 1000 - 100 * i - 1 < w)
    · intro sm i j har hi hj hsm hz hw
      refine h_rng (fun hrg8 => ?_)
      obtain ⟨⟨pb1, pb2, pb3, pb4, pb5⟩, pw1, pw2, pw3, pw4⟩ := (id hP : PW H (H.1 1826 1) (H.1 1826 3) (H.1 1826 8) (H.1 1826 13) (H.1 1826 19))
      obtain ⟨hca, hct, hcg⟩ := pw1 c (by omega)
      have hg0 : 0 ≤ (H.1 1831) (3 * c) ∧ (H.1 1831) (3 * c) < (H.1 1826 1) := hcg 0 (by omega)
      have hxx : 0 ≤ (H.1 1864 (((8 * (H.1 1831 (3 * c))) + (i : Int))).toNat) ∧ (H.1 1864 (((8 * (H.1 1831 (3 * c))) + (i : Int))).toNat) ≤ 1000000 := hAM _ (by omega)
      refine h_run 2 (pc' := 84) (l' := [(0, .inr (.inr 1826)), (1, .inl (c : Int)), (2, .inl (n : Int)), (3, .inl (H.1 1830 c)), (4, .inr (.inl sm)), (6, .inl (i : Int)), (7, .inr (.inl (H.1 1864 (((8 * (H.1 1831 (3 * c))) + (i : Int))).toNat))), (9, .inl (j : Int))]) (st' := [.inl 1, .inl (H.1 1830 c)]) rfl ?_
      refine h_ile (off := 121) (t := 205) rfl rfl (by omega) (by decide) (fun c9 => ?_) (fun c9 => ?_)
      · refine h_run 2 (pc' := 28) (l' := [(0, .inr (.inr 1826)), (1, .inl (c : Int)), (2, .inl (n : Int)), (3, .inl (H.1 1830 c)), (4, .inr (.inl sm)), (6, .inl ((i : Int) + 1)), (7, .inr (.inl (H.1 1864 (((8 * (H.1 1831 (3 * c))) + (i : Int))).toNat))), (9, .inl (j : Int))]) (st' := []) rfl ?_
        refine h_loc [0, 1, 2, 3, 4, 6] rfl ?_
        rw [show ((i : Int) + 1) = (((i + 1) : Nat) : Int) by omega]
        exact ih.1 sm (i + 1) (by omega) (by omega) (by omega) hz (by omega : 1000 - 100 * (i + 1) < w)
      · refine h_run 4 (pc' := 93) (l' := [(0, .inr (.inr 1826)), (1, .inl (c : Int)), (2, .inl (n : Int)), (3, .inl (H.1 1830 c)), (4, .inr (.inl sm)), (6, .inl (i : Int)), (7, .inr (.inl (H.1 1864 (((8 * (H.1 1831 (3 * c))) + (i : Int))).toNat))), (9, .inl (j : Int))]) (st' := [.inl (n : Int), .inl ((i : Int) + (j : Int))]) rfl ?_
        refine h_ige (off := 112) (t := 205) rfl rfl (by omega) (by omega) (fun c10 => ?_) (fun c10 => ?_)
        · refine h_run 2 (pc' := 28) (l' := [(0, .inr (.inr 1826)), (1, .inl (c : Int)), (2, .inl (n : Int)), (3, .inl (H.1 1830 c)), (4, .inr (.inl sm)), (6, .inl ((i : Int) + 1)), (7, .inr (.inl (H.1 1864 (((8 * (H.1 1831 (3 * c))) + (i : Int))).toNat))), (9, .inl (j : Int))]) (st' := []) rfl ?_
          refine h_loc [0, 1, 2, 3, 4, 6] rfl ?_
          rw [show ((i : Int) + 1) = (((i + 1) : Nat) : Int) by omega]
          exact ih.1 sm (i + 1) (by omega) (by omega) (by omega) hz (by omega : 1000 - 100 * (i + 1) < w)
        · refine h_run 10 (pc' := 111) (l' := [(0, .inr (.inr 1826)), (1, .inl (c : Int)), (2, .inl (n : Int)), (3, .inl (H.1 1830 c)), (4, .inr (.inl sm)), (6, .inl (i : Int)), (7, .inr (.inl (H.1 1864 (((8 * (H.1 1831 (3 * c))) + (i : Int))).toNat))), (9, .inl (j : Int))]) (st' := [.inl ((3 * (c : Int)) + 1), .inr (.inr 1831), .inl 8, .inr (.inr 1864)]) rfl ?_
          have hg1 : 0 ≤ (H.1 1831) (3 * c + 1) ∧ (H.1 1831) (3 * c + 1) < (H.1 1826 1) := hcg 1 (by omega)
          refine h_ild (c := 1831) (j := ((3 * c) + 1)) (i := ((3 * (c : Int)) + 1)) rfl rfl (by decide) (by omega) (by omega) ?_
          have g11 : -2147483648 ≤ (H.1 1831 ((3 * c) + 1)) ∧ (H.1 1831 ((3 * c) + 1)) ≤ 2147483647 := hrg8.2 1831 ((3 * c) + 1) 48 .int rfl (by omega)
          refine h_run 0 (pc' := 112) (l' := [(0, .inr (.inr 1826)), (1, .inl (c : Int)), (2, .inl (n : Int)), (3, .inl (H.1 1830 c)), (4, .inr (.inl sm)), (6, .inl (i : Int)), (7, .inr (.inl (H.1 1864 (((8 * (H.1 1831 (3 * c))) + (i : Int))).toNat))), (9, .inl (j : Int))]) (st' := [.inl (H.1 1831 ((3 * c) + 1)), .inl 8, .inr (.inr 1864)]) rfl ?_
          refine h_run 3 (pc' := 116) (l' := [(0, .inr (.inr 1826)), (1, .inl (c : Int)), (2, .inl (n : Int)), (3, .inl (H.1 1830 c)), (4, .inr (.inl sm)), (6, .inl (i : Int)), (7, .inr (.inl (H.1 1864 (((8 * (H.1 1831 (3 * c))) + (i : Int))).toNat))), (9, .inl (j : Int))]) (st' := [.inl ((8 * (H.1 1831 ((3 * c) + 1))) + (j : Int)), .inr (.inr 1864)]) rfl ?_
          refine h_lld (c := 1864) (j := (((8 * (H.1 1831 ((3 * c) + 1))) + (j : Int))).toNat) (i := ((8 * (H.1 1831 ((3 * c) + 1))) + (j : Int))) rfl rfl (by decide) (by omega) (by omega) ?_
          have g12 : -9223372036854775808 ≤ (H.1 1864 (((8 * (H.1 1831 ((3 * c) + 1))) + (j : Int))).toNat) ∧ (H.1 1864 (((8 * (H.1 1831 ((3 * c) + 1))) + (j : Int))).toNat) ≤ 9223372036854775807 := hrg8.2 1864 (((8 * (H.1 1831 ((3 * c) + 1))) + (j : Int))).toNat 48 .long rfl (by omega)
          refine h_run 0 (pc' := 117) (l' := [(0, .inr (.inr 1826)), (1, .inl (c : Int)), (2, .inl (n : Int)), (3, .inl (H.1 1830 c)), (4, .inr (.inl sm)), (6, .inl (i : Int)), (7, .inr (.inl (H.1 1864 (((8 * (H.1 1831 (3 * c))) + (i : Int))).toNat))), (9, .inl (j : Int))]) (st' := [.inr (.inl (H.1 1864 (((8 * (H.1 1831 ((3 * c) + 1))) + (j : Int))).toNat))]) rfl ?_
          have hyy : 0 ≤ (H.1 1864 (((8 * (H.1 1831 ((3 * c) + 1))) + (j : Int))).toNat) ∧ (H.1 1864 (((8 * (H.1 1831 ((3 * c) + 1))) + (j : Int))).toNat) ≤ 1000000 := hAM _ (by omega)
          refine h_run 11 (pc' := 132) (l' := [(0, .inr (.inr 1826)), (1, .inl (c : Int)), (2, .inl (n : Int)), (3, .inl (H.1 1830 c)), (4, .inr (.inl sm)), (6, .inl (i : Int)), (7, .inr (.inl (H.1 1864 (((8 * (H.1 1831 (3 * c))) + (i : Int))).toNat))), (9, .inl (j : Int)), (10, .inr (.inl (H.1 1864 (((8 * (H.1 1831 ((3 * c) + 1))) + (j : Int))).toNat))), (12, .inl ((((n : Int) - 1) - (i : Int)) - (j : Int)))]) (st' := [.inl 2, .inl (H.1 1830 c)]) rfl ?_
          refine h_ine (off := 16) (t := 148) rfl rfl (by omega) (by decide) (fun c13 => ?_) (fun c13 => ?_)
          · refine h_run 1 (pc' := 150) (l' := [(0, .inr (.inr 1826)), (1, .inl (c : Int)), (2, .inl (n : Int)), (3, .inl (H.1 1830 c)), (4, .inr (.inl sm)), (6, .inl (i : Int)), (7, .inr (.inl (H.1 1864 (((8 * (H.1 1831 (3 * c))) + (i : Int))).toNat))), (9, .inl (j : Int)), (10, .inr (.inl (H.1 1864 (((8 * (H.1 1831 ((3 * c) + 1))) + (j : Int))).toNat))), (12, .inl ((((n : Int) - 1) - (i : Int)) - (j : Int)))]) (st' := [.inl ((((n : Int) - 1) - (i : Int)) - (j : Int))]) rfl ?_
            refine h_zle (off := 27) (t := 177) rfl rfl (by omega) (fun c14 => ?_) (fun c14 => ?_)
            · refine h_run 1 (pc' := 178) (l' := [(0, .inr (.inr 1826)), (1, .inl (c : Int)), (2, .inl (n : Int)), (3, .inl (H.1 1830 c)), (4, .inr (.inl sm)), (6, .inl (i : Int)), (7, .inr (.inl (H.1 1864 (((8 * (H.1 1831 (3 * c))) + (i : Int))).toNat))), (9, .inl (j : Int)), (10, .inr (.inl (H.1 1864 (((8 * (H.1 1831 ((3 * c) + 1))) + (j : Int))).toNat))), (12, .inl ((((n : Int) - 1) - (i : Int)) - (j : Int)))]) (st' := [.inr (.inl 0)]) rfl ?_
              refine h_run 5 (pc' := 187) (l' := [(0, .inr (.inr 1826)), (1, .inl (c : Int)), (2, .inl (n : Int)), (3, .inl (H.1 1830 c)), (4, .inr (.inl sm)), (6, .inl (i : Int)), (7, .inr (.inl (H.1 1864 (((8 * (H.1 1831 (3 * c))) + (i : Int))).toNat))), (9, .inl (j : Int)), (10, .inr (.inl (H.1 1864 (((8 * (H.1 1831 ((3 * c) + 1))) + (j : Int))).toNat))), (12, .inl ((((n : Int) - 1) - (i : Int)) - (j : Int))), (13, .inr (.inl 0))]) (st' := [.inr (.inl ((H.1 1864 (((8 * (H.1 1831 (3 * c))) + (i : Int))).toNat) * (H.1 1864 (((8 * (H.1 1831 ((3 * c) + 1))) + (j : Int))).toNat))), .inr (.inl sm)]) rfl ?_
              have hm1 := mulb (x := (H.1 1864 (((8 * (H.1 1831 (3 * c))) + (i : Int))).toNat)) (y := (H.1 1864 (((8 * (H.1 1831 ((3 * c) + 1))) + (j : Int))).toNat)) hxx hyy
              refine h_cs (i := 489) (j := 208) (M' := mt_208) (xs := [.inr (.inl ((H.1 1864 (((8 * (H.1 1831 (3 * c))) + (i : Int))).toNat) * (H.1 1864 (((8 * (H.1 1831 ((3 * c) + 1))) + (j : Int))).toNat)))]) (rest := [.inr (.inl sm)]) rfl rfl rfl rfl rfl (Nat.le_of_ble_eq_true rfl) (Nat.le_of_ble_eq_true rfl) (by omega) (m_bounded (by omega) (by omega)) ?_
              rintro _ _ ⟨⟨b15, rfl, b15r, b15p, -⟩, rfl⟩
              refine h_run 0 (pc' := 190) (l' := [(0, .inr (.inr 1826)), (1, .inl (c : Int)), (2, .inl (n : Int)), (3, .inl (H.1 1830 c)), (4, .inr (.inl sm)), (6, .inl (i : Int)), (7, .inr (.inl (H.1 1864 (((8 * (H.1 1831 (3 * c))) + (i : Int))).toNat))), (9, .inl (j : Int)), (10, .inr (.inl (H.1 1864 (((8 * (H.1 1831 ((3 * c) + 1))) + (j : Int))).toNat))), (12, .inl ((((n : Int) - 1) - (i : Int)) - (j : Int))), (13, .inr (.inl 0))]) (st' := [.inr (.inl b15), .inr (.inl sm)]) rfl ?_
              refine h_run 1 (pc' := 192) (l' := [(0, .inr (.inr 1826)), (1, .inl (c : Int)), (2, .inl (n : Int)), (3, .inl (H.1 1830 c)), (4, .inr (.inl sm)), (6, .inl (i : Int)), (7, .inr (.inl (H.1 1864 (((8 * (H.1 1831 (3 * c))) + (i : Int))).toNat))), (9, .inl (j : Int)), (10, .inr (.inl (H.1 1864 (((8 * (H.1 1831 ((3 * c) + 1))) + (j : Int))).toNat))), (12, .inl ((((n : Int) - 1) - (i : Int)) - (j : Int))), (13, .inr (.inl 0))]) (st' := [.inr (.inl 0), .inr (.inl b15), .inr (.inl sm)]) rfl ?_
              have hm2 := mulb (x := b15) (y := 0) (by omega) (by omega)
              refine h_run 2 (pc' := 194) (l' := [(0, .inr (.inr 1826)), (1, .inl (c : Int)), (2, .inl (n : Int)), (3, .inl (H.1 1830 c)), (4, .inr (.inl sm)), (6, .inl (i : Int)), (7, .inr (.inl (H.1 1864 (((8 * (H.1 1831 (3 * c))) + (i : Int))).toNat))), (9, .inl (j : Int)), (10, .inr (.inl (H.1 1864 (((8 * (H.1 1831 ((3 * c) + 1))) + (j : Int))).toNat))), (12, .inl ((((n : Int) - 1) - (i : Int)) - (j : Int))), (13, .inr (.inl 0))]) (st' := [.inr (.inl (sm + (b15 * 0)))]) rfl ?_
              refine h_cs (i := 489) (j := 208) (M' := mt_208) (xs := [.inr (.inl (sm + (b15 * 0)))]) (rest := []) rfl rfl rfl rfl rfl (Nat.le_of_ble_eq_true rfl) (Nat.le_of_ble_eq_true rfl) (by omega) (m_bounded (by omega) (by omega)) ?_
              rintro _ _ ⟨⟨b16, rfl, b16r, b16p, -⟩, rfl⟩
              refine h_run 0 (pc' := 197) (l' := [(0, .inr (.inr 1826)), (1, .inl (c : Int)), (2, .inl (n : Int)), (3, .inl (H.1 1830 c)), (4, .inr (.inl sm)), (6, .inl (i : Int)), (7, .inr (.inl (H.1 1864 (((8 * (H.1 1831 (3 * c))) + (i : Int))).toNat))), (9, .inl (j : Int)), (10, .inr (.inl (H.1 1864 (((8 * (H.1 1831 ((3 * c) + 1))) + (j : Int))).toNat))), (12, .inl ((((n : Int) - 1) - (i : Int)) - (j : Int))), (13, .inr (.inl 0))]) (st' := [.inr (.inl b16)]) rfl ?_
              refine h_run 3 (pc' := 82) (l' := [(0, .inr (.inr 1826)), (1, .inl (c : Int)), (2, .inl (n : Int)), (3, .inl (H.1 1830 c)), (4, .inr (.inl b16)), (6, .inl (i : Int)), (7, .inr (.inl (H.1 1864 (((8 * (H.1 1831 (3 * c))) + (i : Int))).toNat))), (9, .inl ((j : Int) + 1)), (10, .inr (.inl (H.1 1864 (((8 * (H.1 1831 ((3 * c) + 1))) + (j : Int))).toNat))), (12, .inl ((((n : Int) - 1) - (i : Int)) - (j : Int))), (13, .inr (.inl 0))]) (st' := []) rfl ?_
              refine h_loc [0, 1, 2, 3, 4, 6, 7, 9] rfl ?_
              rw [show ((j : Int) + 1) = (((j + 1) : Nat) : Int) by omega]
              exact ih.2 b16 i (j + 1) (by omega) (by omega) (by omega) (by omega) (fun h9 => by by_cases hs9 : 0 < sm; { exact hz hs9 }; { first | (exfalso; omega) | exact Or.inr (Or.inr (Or.inl ⟨by omega, i, j, by omega, by omega, by omega, by omega, by omega⟩)) | exact Or.inr (Or.inr (Or.inr ⟨by omega, i, j, kk, by omega, by omega, by omega, by omega, by omega, by omega, by omega⟩)) }) (by omega : 1000 - 100 * i - (j + 1) < w)
            · obtain ⟨kk, hkk⟩ : ∃ k9 : Nat, ((((n : Int) - 1) - (i : Int)) - (j : Int)) = (k9 : Int) := ⟨(((((n : Int) - 1) - (i : Int)) - (j : Int))).toNat, by omega⟩
              rw [show ((((n : Int) - 1) - (i : Int)) - (j : Int)) = (kk : Int) from hkk]
              refine h_run 10 (pc' := 168) (l' := [(0, .inr (.inr 1826)), (1, .inl (c : Int)), (2, .inl (n : Int)), (3, .inl (H.1 1830 c)), (4, .inr (.inl sm)), (6, .inl (i : Int)), (7, .inr (.inl (H.1 1864 (((8 * (H.1 1831 (3 * c))) + (i : Int))).toNat))), (9, .inl (j : Int)), (10, .inr (.inl (H.1 1864 (((8 * (H.1 1831 ((3 * c) + 1))) + (j : Int))).toNat))), (12, .inl (kk : Int))]) (st' := [.inl ((3 * (c : Int)) + 2), .inr (.inr 1831), .inl 8, .inr (.inr 1864)]) rfl ?_
              have hg2 : 0 ≤ (H.1 1831) (3 * c + 2) ∧ (H.1 1831) (3 * c + 2) < (H.1 1826 1) := hcg 2 (by omega)
              refine h_ild (c := 1831) (j := ((3 * c) + 2)) (i := ((3 * (c : Int)) + 2)) rfl rfl (by decide) (by omega) (by omega) ?_
              have g17 : -2147483648 ≤ (H.1 1831 ((3 * c) + 2)) ∧ (H.1 1831 ((3 * c) + 2)) ≤ 2147483647 := hrg8.2 1831 ((3 * c) + 2) 48 .int rfl (by omega)
              refine h_run 0 (pc' := 169) (l' := [(0, .inr (.inr 1826)), (1, .inl (c : Int)), (2, .inl (n : Int)), (3, .inl (H.1 1830 c)), (4, .inr (.inl sm)), (6, .inl (i : Int)), (7, .inr (.inl (H.1 1864 (((8 * (H.1 1831 (3 * c))) + (i : Int))).toNat))), (9, .inl (j : Int)), (10, .inr (.inl (H.1 1864 (((8 * (H.1 1831 ((3 * c) + 1))) + (j : Int))).toNat))), (12, .inl (kk : Int))]) (st' := [.inl (H.1 1831 ((3 * c) + 2)), .inl 8, .inr (.inr 1864)]) rfl ?_
              refine h_run 3 (pc' := 173) (l' := [(0, .inr (.inr 1826)), (1, .inl (c : Int)), (2, .inl (n : Int)), (3, .inl (H.1 1830 c)), (4, .inr (.inl sm)), (6, .inl (i : Int)), (7, .inr (.inl (H.1 1864 (((8 * (H.1 1831 (3 * c))) + (i : Int))).toNat))), (9, .inl (j : Int)), (10, .inr (.inl (H.1 1864 (((8 * (H.1 1831 ((3 * c) + 1))) + (j : Int))).toNat))), (12, .inl (kk : Int))]) (st' := [.inl ((8 * (H.1 1831 ((3 * c) + 2))) + (kk : Int)), .inr (.inr 1864)]) rfl ?_
              refine h_lld (c := 1864) (j := (((8 * (H.1 1831 ((3 * c) + 2))) + (kk : Int))).toNat) (i := ((8 * (H.1 1831 ((3 * c) + 2))) + (kk : Int))) rfl rfl (by decide) (by omega) (by omega) ?_
              have g18 : -9223372036854775808 ≤ (H.1 1864 (((8 * (H.1 1831 ((3 * c) + 2))) + (kk : Int))).toNat) ∧ (H.1 1864 (((8 * (H.1 1831 ((3 * c) + 2))) + (kk : Int))).toNat) ≤ 9223372036854775807 := hrg8.2 1864 (((8 * (H.1 1831 ((3 * c) + 2))) + (kk : Int))).toNat 48 .long rfl (by omega)
              refine h_run 0 (pc' := 174) (l' := [(0, .inr (.inr 1826)), (1, .inl (c : Int)), (2, .inl (n : Int)), (3, .inl (H.1 1830 c)), (4, .inr (.inl sm)), (6, .inl (i : Int)), (7, .inr (.inl (H.1 1864 (((8 * (H.1 1831 (3 * c))) + (i : Int))).toNat))), (9, .inl (j : Int)), (10, .inr (.inl (H.1 1864 (((8 * (H.1 1831 ((3 * c) + 1))) + (j : Int))).toNat))), (12, .inl (kk : Int))]) (st' := [.inr (.inl (H.1 1864 (((8 * (H.1 1831 ((3 * c) + 2))) + (kk : Int))).toNat))]) rfl ?_
              refine h_run 1 (pc' := 178) (l' := [(0, .inr (.inr 1826)), (1, .inl (c : Int)), (2, .inl (n : Int)), (3, .inl (H.1 1830 c)), (4, .inr (.inl sm)), (6, .inl (i : Int)), (7, .inr (.inl (H.1 1864 (((8 * (H.1 1831 (3 * c))) + (i : Int))).toNat))), (9, .inl (j : Int)), (10, .inr (.inl (H.1 1864 (((8 * (H.1 1831 ((3 * c) + 1))) + (j : Int))).toNat))), (12, .inl (kk : Int))]) (st' := [.inr (.inl (H.1 1864 (((8 * (H.1 1831 ((3 * c) + 2))) + (kk : Int))).toNat))]) rfl ?_
              have hzz : 0 ≤ (H.1 1864 (((8 * (H.1 1831 ((3 * c) + 2))) + (kk : Int))).toNat) ∧ (H.1 1864 (((8 * (H.1 1831 ((3 * c) + 2))) + (kk : Int))).toNat) ≤ 1000000 := hAM _ (by omega)
              refine h_run 5 (pc' := 187) (l' := [(0, .inr (.inr 1826)), (1, .inl (c : Int)), (2, .inl (n : Int)), (3, .inl (H.1 1830 c)), (4, .inr (.inl sm)), (6, .inl (i : Int)), (7, .inr (.inl (H.1 1864 (((8 * (H.1 1831 (3 * c))) + (i : Int))).toNat))), (9, .inl (j : Int)), (10, .inr (.inl (H.1 1864 (((8 * (H.1 1831 ((3 * c) + 1))) + (j : Int))).toNat))), (12, .inl (kk : Int)), (13, .inr (.inl (H.1 1864 (((8 * (H.1 1831 ((3 * c) + 2))) + (kk : Int))).toNat)))]) (st' := [.inr (.inl ((H.1 1864 (((8 * (H.1 1831 (3 * c))) + (i : Int))).toNat) * (H.1 1864 (((8 * (H.1 1831 ((3 * c) + 1))) + (j : Int))).toNat))), .inr (.inl sm)]) rfl ?_
              have hm1 := mulb (x := (H.1 1864 (((8 * (H.1 1831 (3 * c))) + (i : Int))).toNat)) (y := (H.1 1864 (((8 * (H.1 1831 ((3 * c) + 1))) + (j : Int))).toNat)) hxx hyy
              refine h_cs (i := 489) (j := 208) (M' := mt_208) (xs := [.inr (.inl ((H.1 1864 (((8 * (H.1 1831 (3 * c))) + (i : Int))).toNat) * (H.1 1864 (((8 * (H.1 1831 ((3 * c) + 1))) + (j : Int))).toNat)))]) (rest := [.inr (.inl sm)]) rfl rfl rfl rfl rfl (Nat.le_of_ble_eq_true rfl) (Nat.le_of_ble_eq_true rfl) (by omega) (m_bounded (by omega) (by omega)) ?_
              rintro _ _ ⟨⟨b19, rfl, b19r, b19p, -⟩, rfl⟩
              refine h_run 0 (pc' := 190) (l' := [(0, .inr (.inr 1826)), (1, .inl (c : Int)), (2, .inl (n : Int)), (3, .inl (H.1 1830 c)), (4, .inr (.inl sm)), (6, .inl (i : Int)), (7, .inr (.inl (H.1 1864 (((8 * (H.1 1831 (3 * c))) + (i : Int))).toNat))), (9, .inl (j : Int)), (10, .inr (.inl (H.1 1864 (((8 * (H.1 1831 ((3 * c) + 1))) + (j : Int))).toNat))), (12, .inl (kk : Int)), (13, .inr (.inl (H.1 1864 (((8 * (H.1 1831 ((3 * c) + 2))) + (kk : Int))).toNat)))]) (st' := [.inr (.inl b19), .inr (.inl sm)]) rfl ?_
              refine h_run 1 (pc' := 192) (l' := [(0, .inr (.inr 1826)), (1, .inl (c : Int)), (2, .inl (n : Int)), (3, .inl (H.1 1830 c)), (4, .inr (.inl sm)), (6, .inl (i : Int)), (7, .inr (.inl (H.1 1864 (((8 * (H.1 1831 (3 * c))) + (i : Int))).toNat))), (9, .inl (j : Int)), (10, .inr (.inl (H.1 1864 (((8 * (H.1 1831 ((3 * c) + 1))) + (j : Int))).toNat))), (12, .inl (kk : Int)), (13, .inr (.inl (H.1 1864 (((8 * (H.1 1831 ((3 * c) + 2))) + (kk : Int))).toNat)))]) (st' := [.inr (.inl (H.1 1864 (((8 * (H.1 1831 ((3 * c) + 2))) + (kk : Int))).toNat)), .inr (.inl b19), .inr (.inl sm)]) rfl ?_
              have hm2 := mulb (x := b19) (y := (H.1 1864 (((8 * (H.1 1831 ((3 * c) + 2))) + (kk : Int))).toNat)) (by omega) (by omega)
              refine h_run 2 (pc' := 194) (l' := [(0, .inr (.inr 1826)), (1, .inl (c : Int)), (2, .inl (n : Int)), (3, .inl (H.1 1830 c)), (4, .inr (.inl sm)), (6, .inl (i : Int)), (7, .inr (.inl (H.1 1864 (((8 * (H.1 1831 (3 * c))) + (i : Int))).toNat))), (9, .inl (j : Int)), (10, .inr (.inl (H.1 1864 (((8 * (H.1 1831 ((3 * c) + 1))) + (j : Int))).toNat))), (12, .inl (kk : Int)), (13, .inr (.inl (H.1 1864 (((8 * (H.1 1831 ((3 * c) + 2))) + (kk : Int))).toNat)))]) (st' := [.inr (.inl (sm + (b19 * (H.1 1864 (((8 * (H.1 1831 ((3 * c) + 2))) + (kk : Int))).toNat))))]) rfl ?_
              refine h_cs (i := 489) (j := 208) (M' := mt_208) (xs := [.inr (.inl (sm + (b19 * (H.1 1864 (((8 * (H.1 1831 ((3 * c) + 2))) + (kk : Int))).toNat))))]) (rest := []) rfl rfl rfl rfl rfl (Nat.le_of_ble_eq_true rfl) (Nat.le_of_ble_eq_true rfl) (by omega) (m_bounded (by omega) (by omega)) ?_
              rintro _ _ ⟨⟨b20, rfl, b20r, b20p, -⟩, rfl⟩
              refine h_run 0 (pc' := 197) (l' := [(0, .inr (.inr 1826)), (1, .inl (c : Int)), (2, .inl (n : Int)), (3, .inl (H.1 1830 c)), (4, .inr (.inl sm)), (6, .inl (i : Int)), (7, .inr (.inl (H.1 1864 (((8 * (H.1 1831 (3 * c))) + (i : Int))).toNat))), (9, .inl (j : Int)), (10, .inr (.inl (H.1 1864 (((8 * (H.1 1831 ((3 * c) + 1))) + (j : Int))).toNat))), (12, .inl (kk : Int)), (13, .inr (.inl (H.1 1864 (((8 * (H.1 1831 ((3 * c) + 2))) + (kk : Int))).toNat)))]) (st' := [.inr (.inl b20)]) rfl ?_
              refine h_run 3 (pc' := 82) (l' := [(0, .inr (.inr 1826)), (1, .inl (c : Int)), (2, .inl (n : Int)), (3, .inl (H.1 1830 c)), (4, .inr (.inl b20)), (6, .inl (i : Int)), (7, .inr (.inl (H.1 1864 (((8 * (H.1 1831 (3 * c))) + (i : Int))).toNat))), (9, .inl ((j : Int) + 1)), (10, .inr (.inl (H.1 1864 (((8 * (H.1 1831 ((3 * c) + 1))) + (j : Int))).toNat))), (12, .inl (kk : Int)), (13, .inr (.inl (H.1 1864 (((8 * (H.1 1831 ((3 * c) + 2))) + (kk : Int))).toNat)))]) (st' := []) rfl ?_
              refine h_loc [0, 1, 2, 3, 4, 6, 7, 9] rfl ?_
              rw [show ((j : Int) + 1) = (((j + 1) : Nat) : Int) by omega]
              exact ih.2 b20 i (j + 1) (by omega) (by omega) (by omega) (by omega) (fun h9 => by by_cases hs9 : 0 < sm; { exact hz hs9 }; { first | (exfalso; omega) | exact Or.inr (Or.inr (Or.inl ⟨by omega, i, j, by omega, by omega, by omega, by omega, by omega⟩)) | exact Or.inr (Or.inr (Or.inr ⟨by omega, i, j, kk, by omega, by omega, by omega, by omega, by omega, by omega, by omega⟩)) }) (by omega : 1000 - 100 * i - (j + 1) < w)
          · refine h_run 1 (pc' := 137) (l' := [(0, .inr (.inr 1826)), (1, .inl (c : Int)), (2, .inl (n : Int)), (3, .inl (H.1 1830 c)), (4, .inr (.inl sm)), (6, .inl (i : Int)), (7, .inr (.inl (H.1 1864 (((8 * (H.1 1831 (3 * c))) + (i : Int))).toNat))), (9, .inl (j : Int)), (10, .inr (.inl (H.1 1864 (((8 * (H.1 1831 ((3 * c) + 1))) + (j : Int))).toNat))), (12, .inl ((((n : Int) - 1) - (i : Int)) - (j : Int)))]) (st' := [.inl ((((n : Int) - 1) - (i : Int)) - (j : Int))]) rfl ?_
            refine h_zne (off := 7) (t := 144) rfl rfl (by omega) (fun c21 => ?_) (fun c21 => ?_)
            · refine h_run 2 (pc' := 178) (l' := [(0, .inr (.inr 1826)), (1, .inl (c : Int)), (2, .inl (n : Int)), (3, .inl (H.1 1830 c)), (4, .inr (.inl sm)), (6, .inl (i : Int)), (7, .inr (.inl (H.1 1864 (((8 * (H.1 1831 (3 * c))) + (i : Int))).toNat))), (9, .inl (j : Int)), (10, .inr (.inl (H.1 1864 (((8 * (H.1 1831 ((3 * c) + 1))) + (j : Int))).toNat))), (12, .inl ((((n : Int) - 1) - (i : Int)) - (j : Int)))]) (st' := [.inr (.inl 0)]) rfl ?_
              refine h_run 5 (pc' := 187) (l' := [(0, .inr (.inr 1826)), (1, .inl (c : Int)), (2, .inl (n : Int)), (3, .inl (H.1 1830 c)), (4, .inr (.inl sm)), (6, .inl (i : Int)), (7, .inr (.inl (H.1 1864 (((8 * (H.1 1831 (3 * c))) + (i : Int))).toNat))), (9, .inl (j : Int)), (10, .inr (.inl (H.1 1864 (((8 * (H.1 1831 ((3 * c) + 1))) + (j : Int))).toNat))), (12, .inl ((((n : Int) - 1) - (i : Int)) - (j : Int))), (13, .inr (.inl 0))]) (st' := [.inr (.inl ((H.1 1864 (((8 * (H.1 1831 (3 * c))) + (i : Int))).toNat) * (H.1 1864 (((8 * (H.1 1831 ((3 * c) + 1))) + (j : Int))).toNat))), .inr (.inl sm)]) rfl ?_
              have hm1 := mulb (x := (H.1 1864 (((8 * (H.1 1831 (3 * c))) + (i : Int))).toNat)) (y := (H.1 1864 (((8 * (H.1 1831 ((3 * c) + 1))) + (j : Int))).toNat)) hxx hyy
              refine h_cs (i := 489) (j := 208) (M' := mt_208) (xs := [.inr (.inl ((H.1 1864 (((8 * (H.1 1831 (3 * c))) + (i : Int))).toNat) * (H.1 1864 (((8 * (H.1 1831 ((3 * c) + 1))) + (j : Int))).toNat)))]) (rest := [.inr (.inl sm)]) rfl rfl rfl rfl rfl (Nat.le_of_ble_eq_true rfl) (Nat.le_of_ble_eq_true rfl) (by omega) (m_bounded (by omega) (by omega)) ?_
              rintro _ _ ⟨⟨b22, rfl, b22r, b22p, -⟩, rfl⟩
              refine h_run 0 (pc' := 190) (l' := [(0, .inr (.inr 1826)), (1, .inl (c : Int)), (2, .inl (n : Int)), (3, .inl (H.1 1830 c)), (4, .inr (.inl sm)), (6, .inl (i : Int)), (7, .inr (.inl (H.1 1864 (((8 * (H.1 1831 (3 * c))) + (i : Int))).toNat))), (9, .inl (j : Int)), (10, .inr (.inl (H.1 1864 (((8 * (H.1 1831 ((3 * c) + 1))) + (j : Int))).toNat))), (12, .inl ((((n : Int) - 1) - (i : Int)) - (j : Int))), (13, .inr (.inl 0))]) (st' := [.inr (.inl b22), .inr (.inl sm)]) rfl ?_
              refine h_run 1 (pc' := 192) (l' := [(0, .inr (.inr 1826)), (1, .inl (c : Int)), (2, .inl (n : Int)), (3, .inl (H.1 1830 c)), (4, .inr (.inl sm)), (6, .inl (i : Int)), (7, .inr (.inl (H.1 1864 (((8 * (H.1 1831 (3 * c))) + (i : Int))).toNat))), (9, .inl (j : Int)), (10, .inr (.inl (H.1 1864 (((8 * (H.1 1831 ((3 * c) + 1))) + (j : Int))).toNat))), (12, .inl ((((n : Int) - 1) - (i : Int)) - (j : Int))), (13, .inr (.inl 0))]) (st' := [.inr (.inl 0), .inr (.inl b22), .inr (.inl sm)]) rfl ?_
              have hm2 := mulb (x := b22) (y := 0) (by omega) (by omega)
              refine h_run 2 (pc' := 194) (l' := [(0, .inr (.inr 1826)), (1, .inl (c : Int)), (2, .inl (n : Int)), (3, .inl (H.1 1830 c)), (4, .inr (.inl sm)), (6, .inl (i : Int)), (7, .inr (.inl (H.1 1864 (((8 * (H.1 1831 (3 * c))) + (i : Int))).toNat))), (9, .inl (j : Int)), (10, .inr (.inl (H.1 1864 (((8 * (H.1 1831 ((3 * c) + 1))) + (j : Int))).toNat))), (12, .inl ((((n : Int) - 1) - (i : Int)) - (j : Int))), (13, .inr (.inl 0))]) (st' := [.inr (.inl (sm + (b22 * 0)))]) rfl ?_
              refine h_cs (i := 489) (j := 208) (M' := mt_208) (xs := [.inr (.inl (sm + (b22 * 0)))]) (rest := []) rfl rfl rfl rfl rfl (Nat.le_of_ble_eq_true rfl) (Nat.le_of_ble_eq_true rfl) (by omega) (m_bounded (by omega) (by omega)) ?_
              rintro _ _ ⟨⟨b23, rfl, b23r, b23p, -⟩, rfl⟩
              refine h_run 0 (pc' := 197) (l' := [(0, .inr (.inr 1826)), (1, .inl (c : Int)), (2, .inl (n : Int)), (3, .inl (H.1 1830 c)), (4, .inr (.inl sm)), (6, .inl (i : Int)), (7, .inr (.inl (H.1 1864 (((8 * (H.1 1831 (3 * c))) + (i : Int))).toNat))), (9, .inl (j : Int)), (10, .inr (.inl (H.1 1864 (((8 * (H.1 1831 ((3 * c) + 1))) + (j : Int))).toNat))), (12, .inl ((((n : Int) - 1) - (i : Int)) - (j : Int))), (13, .inr (.inl 0))]) (st' := [.inr (.inl b23)]) rfl ?_
              refine h_run 3 (pc' := 82) (l' := [(0, .inr (.inr 1826)), (1, .inl (c : Int)), (2, .inl (n : Int)), (3, .inl (H.1 1830 c)), (4, .inr (.inl b23)), (6, .inl (i : Int)), (7, .inr (.inl (H.1 1864 (((8 * (H.1 1831 (3 * c))) + (i : Int))).toNat))), (9, .inl ((j : Int) + 1)), (10, .inr (.inl (H.1 1864 (((8 * (H.1 1831 ((3 * c) + 1))) + (j : Int))).toNat))), (12, .inl ((((n : Int) - 1) - (i : Int)) - (j : Int))), (13, .inr (.inl 0))]) (st' := []) rfl ?_
              refine h_loc [0, 1, 2, 3, 4, 6, 7, 9] rfl ?_
              rw [show ((j : Int) + 1) = (((j + 1) : Nat) : Int) by omega]
              exact ih.2 b23 i (j + 1) (by omega) (by omega) (by omega) (by omega) (fun h9 => by by_cases hs9 : 0 < sm; { exact hz hs9 }; { first | (exfalso; omega) | exact Or.inr (Or.inr (Or.inl ⟨by omega, i, j, by omega, by omega, by omega, by omega, by omega⟩)) | exact Or.inr (Or.inr (Or.inr ⟨by omega, i, j, kk, by omega, by omega, by omega, by omega, by omega, by omega, by omega⟩)) }) (by omega : 1000 - 100 * i - (j + 1) < w)
            · refine h_run 2 (pc' := 178) (l' := [(0, .inr (.inr 1826)), (1, .inl (c : Int)), (2, .inl (n : Int)), (3, .inl (H.1 1830 c)), (4, .inr (.inl sm)), (6, .inl (i : Int)), (7, .inr (.inl (H.1 1864 (((8 * (H.1 1831 (3 * c))) + (i : Int))).toNat))), (9, .inl (j : Int)), (10, .inr (.inl (H.1 1864 (((8 * (H.1 1831 ((3 * c) + 1))) + (j : Int))).toNat))), (12, .inl ((((n : Int) - 1) - (i : Int)) - (j : Int)))]) (st' := [.inr (.inl 1)]) rfl ?_
              refine h_run 5 (pc' := 187) (l' := [(0, .inr (.inr 1826)), (1, .inl (c : Int)), (2, .inl (n : Int)), (3, .inl (H.1 1830 c)), (4, .inr (.inl sm)), (6, .inl (i : Int)), (7, .inr (.inl (H.1 1864 (((8 * (H.1 1831 (3 * c))) + (i : Int))).toNat))), (9, .inl (j : Int)), (10, .inr (.inl (H.1 1864 (((8 * (H.1 1831 ((3 * c) + 1))) + (j : Int))).toNat))), (12, .inl ((((n : Int) - 1) - (i : Int)) - (j : Int))), (13, .inr (.inl 1))]) (st' := [.inr (.inl ((H.1 1864 (((8 * (H.1 1831 (3 * c))) + (i : Int))).toNat) * (H.1 1864 (((8 * (H.1 1831 ((3 * c) + 1))) + (j : Int))).toNat))), .inr (.inl sm)]) rfl ?_
              have hm1 := mulb (x := (H.1 1864 (((8 * (H.1 1831 (3 * c))) + (i : Int))).toNat)) (y := (H.1 1864 (((8 * (H.1 1831 ((3 * c) + 1))) + (j : Int))).toNat)) hxx hyy
              refine h_cs (i := 489) (j := 208) (M' := mt_208) (xs := [.inr (.inl ((H.1 1864 (((8 * (H.1 1831 (3 * c))) + (i : Int))).toNat) * (H.1 1864 (((8 * (H.1 1831 ((3 * c) + 1))) + (j : Int))).toNat)))]) (rest := [.inr (.inl sm)]) rfl rfl rfl rfl rfl (Nat.le_of_ble_eq_true rfl) (Nat.le_of_ble_eq_true rfl) (by omega) (m_bounded (by omega) (by omega)) ?_
              rintro _ _ ⟨⟨b24, rfl, b24r, b24p, -⟩, rfl⟩
              refine h_run 0 (pc' := 190) (l' := [(0, .inr (.inr 1826)), (1, .inl (c : Int)), (2, .inl (n : Int)), (3, .inl (H.1 1830 c)), (4, .inr (.inl sm)), (6, .inl (i : Int)), (7, .inr (.inl (H.1 1864 (((8 * (H.1 1831 (3 * c))) + (i : Int))).toNat))), (9, .inl (j : Int)), (10, .inr (.inl (H.1 1864 (((8 * (H.1 1831 ((3 * c) + 1))) + (j : Int))).toNat))), (12, .inl ((((n : Int) - 1) - (i : Int)) - (j : Int))), (13, .inr (.inl 1))]) (st' := [.inr (.inl b24), .inr (.inl sm)]) rfl ?_
              refine h_run 1 (pc' := 192) (l' := [(0, .inr (.inr 1826)), (1, .inl (c : Int)), (2, .inl (n : Int)), (3, .inl (H.1 1830 c)), (4, .inr (.inl sm)), (6, .inl (i : Int)), (7, .inr (.inl (H.1 1864 (((8 * (H.1 1831 (3 * c))) + (i : Int))).toNat))), (9, .inl (j : Int)), (10, .inr (.inl (H.1 1864 (((8 * (H.1 1831 ((3 * c) + 1))) + (j : Int))).toNat))), (12, .inl ((((n : Int) - 1) - (i : Int)) - (j : Int))), (13, .inr (.inl 1))]) (st' := [.inr (.inl 1), .inr (.inl b24), .inr (.inl sm)]) rfl ?_
              have hm2 := mulb (x := b24) (y := 1) (by omega) (by omega)
              refine h_run 2 (pc' := 194) (l' := [(0, .inr (.inr 1826)), (1, .inl (c : Int)), (2, .inl (n : Int)), (3, .inl (H.1 1830 c)), (4, .inr (.inl sm)), (6, .inl (i : Int)), (7, .inr (.inl (H.1 1864 (((8 * (H.1 1831 (3 * c))) + (i : Int))).toNat))), (9, .inl (j : Int)), (10, .inr (.inl (H.1 1864 (((8 * (H.1 1831 ((3 * c) + 1))) + (j : Int))).toNat))), (12, .inl ((((n : Int) - 1) - (i : Int)) - (j : Int))), (13, .inr (.inl 1))]) (st' := [.inr (.inl (sm + (b24 * 1)))]) rfl ?_
              refine h_cs (i := 489) (j := 208) (M' := mt_208) (xs := [.inr (.inl (sm + (b24 * 1)))]) (rest := []) rfl rfl rfl rfl rfl (Nat.le_of_ble_eq_true rfl) (Nat.le_of_ble_eq_true rfl) (by omega) (m_bounded (by omega) (by omega)) ?_
              rintro _ _ ⟨⟨b25, rfl, b25r, b25p, -⟩, rfl⟩
              refine h_run 0 (pc' := 197) (l' := [(0, .inr (.inr 1826)), (1, .inl (c : Int)), (2, .inl (n : Int)), (3, .inl (H.1 1830 c)), (4, .inr (.inl sm)), (6, .inl (i : Int)), (7, .inr (.inl (H.1 1864 (((8 * (H.1 1831 (3 * c))) + (i : Int))).toNat))), (9, .inl (j : Int)), (10, .inr (.inl (H.1 1864 (((8 * (H.1 1831 ((3 * c) + 1))) + (j : Int))).toNat))), (12, .inl ((((n : Int) - 1) - (i : Int)) - (j : Int))), (13, .inr (.inl 1))]) (st' := [.inr (.inl b25)]) rfl ?_
              refine h_run 3 (pc' := 82) (l' := [(0, .inr (.inr 1826)), (1, .inl (c : Int)), (2, .inl (n : Int)), (3, .inl (H.1 1830 c)), (4, .inr (.inl b25)), (6, .inl (i : Int)), (7, .inr (.inl (H.1 1864 (((8 * (H.1 1831 (3 * c))) + (i : Int))).toNat))), (9, .inl ((j : Int) + 1)), (10, .inr (.inl (H.1 1864 (((8 * (H.1 1831 ((3 * c) + 1))) + (j : Int))).toNat))), (12, .inl ((((n : Int) - 1) - (i : Int)) - (j : Int))), (13, .inr (.inl 1))]) (st' := []) rfl ?_
              refine h_loc [0, 1, 2, 3, 4, 6, 7, 9] rfl ?_
              rw [show ((j : Int) + 1) = (((j + 1) : Nat) : Int) by omega]
              exact ih.2 b25 i (j + 1) (by omega) (by omega) (by omega) (by omega) (fun h9 => by by_cases hs9 : 0 < sm; { exact hz hs9 }; { first | (exfalso; omega) | exact Or.inr (Or.inr (Or.inl ⟨by omega, i, j, by omega, by omega, by omega, by omega, by omega⟩)) | exact Or.inr (Or.inr (Or.inr ⟨by omega, i, j, kk, by omega, by omega, by omega, by omega, by omega, by omega, by omega⟩)) }) (by omega : 1000 - 100 * i - (j + 1) < w)
set_option maxRecDepth 100000 in
theorem m_conAmount {zC : Nat → Option zsh} {d : Nat} (hd : 4 ≤ d) {H : hp} {c n : Nat} (hP : PWc H) (hc : (c : Int) < (H.1 1826 3)) (hn : 1 ≤ n ∧ n ≤ 6) (hAM : AMb (H.1 1864)) : hG (zs zC) d mt_210 0 (zargs 0 [.inr (.inr 1826), .inl (c : Int), .inl (n : Int)]) [] H (fun r9 H2 => (∃ r : Int, r9 = some (.inr (.inl r)) ∧ (0 ≤ r ∧ r ≤ 1000000) ∧ PZ r (WT (H.1 1864) (H.1 1830) (H.1 1831) c n)) ∧ H = H2) := by
  refine h_rng (fun hrg0 => ?_)
  refine h_run 0 (pc' := 0) (l' := [(0, .inr (.inr 1826)), (1, .inl (c : Int)), (2, .inl (n : Int))]) (st' := []) rfl ?_
  obtain ⟨⟨pb1, pb2, pb3, pb4, pb5⟩, pw1, pw2, pw3, pw4⟩ := (id hP : PW H (H.1 1826 1) (H.1 1826 3) (H.1 1826 8) (H.1 1826 13) (H.1 1826 19))
  obtain ⟨hca, hct, hcg⟩ := pw1 c (by omega)
  refine h_run 3 (pc' := 5) (l' := [(0, .inr (.inr 1826)), (1, .inl (c : Int)), (2, .inl (n : Int))]) (st' := [.inl (c : Int), .inr (.inr 1830)]) rfl ?_
  refine h_ild (c := 1830) (j := c) (i := (c : Int)) rfl rfl (by decide) rfl (by omega) ?_
  have g26 : -2147483648 ≤ (H.1 1830 c) ∧ (H.1 1830 c) ≤ 2147483647 := hrg0.2 1830 c 16 .int rfl (by omega)
  refine h_run 0 (pc' := 6) (l' := [(0, .inr (.inr 1826)), (1, .inl (c : Int)), (2, .inl (n : Int))]) (st' := [.inl (H.1 1830 c)]) rfl ?_
  refine h_run 2 (pc' := 8) (l' := [(0, .inr (.inr 1826)), (1, .inl (c : Int)), (2, .inl (n : Int)), (3, .inl (H.1 1830 c))]) (st' := [.inl (H.1 1830 c)]) rfl ?_
  refine h_zne (off := 14) (t := 22) rfl rfl (by omega) (fun c27 => ?_) (fun c27 => ?_)
  · refine h_run 4 (pc' := 28) (l' := [(0, .inr (.inr 1826)), (1, .inl (c : Int)), (2, .inl (n : Int)), (3, .inl (H.1 1830 c)), (4, .inr (.inl 0)), (6, .inl 1)]) (st' := []) rfl ?_
    exact (m_conAmount_cut hd hP hc hn hAM _).1 (0 : Int) 1 (by omega) (by omega) (by omega) (fun h9 => absurd h9 (by decide)) (Nat.lt_succ_self _)
  · refine h_run 2 (pc' := 13) (l' := [(0, .inr (.inr 1826)), (1, .inl (c : Int)), (2, .inl (n : Int)), (3, .inl (H.1 1830 c))]) (st' := [.inl 1, .inl (n : Int)]) rfl ?_
    refine h_ine (off := 7) (t := 20) rfl rfl (by omega) (by decide) (fun c28 => ?_) (fun c28 => ?_)
    · refine h_run 1 (pc' := 21) (l' := [(0, .inr (.inr 1826)), (1, .inl (c : Int)), (2, .inl (n : Int)), (3, .inl (H.1 1830 c))]) (st' := [.inr (.inl 0)]) rfl ?_
      refine h_retl (x := 0) rfl rfl ?_
      exact ⟨⟨_, rfl, by decide, fun h9 => absurd h9 (by decide)⟩, rfl⟩
    · refine h_run 2 (pc' := 21) (l' := [(0, .inr (.inr 1826)), (1, .inl (c : Int)), (2, .inl (n : Int)), (3, .inl (H.1 1830 c))]) (st' := [.inr (.inl 1)]) rfl ?_
      refine h_retl (x := 1) rfl rfl ?_
      exact ⟨⟨_, rfl, by decide, fun _ => Or.inl ⟨by omega, by omega⟩⟩, rfl⟩


theorem z0_up {a : Nat → Int} {k : Nat} (h : ∀ j, j < k → a j = 0) : ∀ j, j < k + 1 → up a k 0 j = 0 := by
  intro j hj
  by_cases e : j = k
  · rw [e, up_eq]
  · rw [up_ne _ _ e]; exact h j (by omega)
theorem AW_0 {tn cn al : Int} {am cT cA cG : Nat → Int} : AW am cT cA cG tn cn al 1 0 := by
  intro u k h1 h2 h3 h4
  omega

/-! countValues -/
set_option maxRecDepth 100000 in
theorem m_countValues_cut {zC : Nat → Option zsh} {d : Nat} (hd : 6 ≤ d) {H : hp} {mo : Nat} {al : Int} (hP : PWc H) (hm : 1 ≤ mo ∧ mo ≤ 6) (hal : 0 ≤ al ∧ al ≤ 1) : ∀ w : Nat, (∀ (H1 : hp) (k : Nat), (fr [] [1864] H H1) → (∀ j : Nat, j < k → (H1.1 1864) j = 0) → (k ≤ 48) → 100000 - k < w → hG (zs zC) d mt_209 2 [(0, .inr (.inr 1826)), (1, .inl (mo : Int)), (2, .inl al), (3, .inl (k : Int))] [] H1 (fun r9 H2 => r9 = none ∧ fr [] [1864] H H2 ∧ AMb (H2.1 1864) ∧ AW (H2.1 1864) (H2.1 1829) (H2.1 1830) (H2.1 1831) (H2.1 1826 1) (H2.1 1826 3) al (mo + 1) 0)) ∧ (∀ (H1 : hp) (n : Nat), (fr [] [1864] H H1) → (AMb (H1.1 1864)) → (AW (H1.1 1864) (H1.1 1829) (H1.1 1830) (H1.1 1831) (H1.1 1826 1) (H1.1 1826 3) al n 0) → (1 ≤ n ∧ n ≤ mo + 1) → 50000 - 5000 * n < w → hG (zs zC) d mt_209 23 [(0, .inr (.inr 1826)), (1, .inl (mo : Int)), (2, .inl al), (3, .inl (n : Int))] [] H1 (fun r9 H2 => r9 = none ∧ fr [] [1864] H H2 ∧ AMb (H2.1 1864) ∧ AW (H2.1 1864) (H2.1 1829) (H2.1 1830) (H2.1 1831) (H2.1 1826 1) (H2.1 1826 3) al (mo + 1) 0)) ∧ (∀ (H1 : hp) (n : Nat) (t : Nat), (fr [] [1864] H H1) → (AMb (H1.1 1864)) → (AW (H1.1 1864) (H1.1 1829) (H1.1 1830) (H1.1 1831) (H1.1 1826 1) (H1.1 1826 3) al n t) → (1 ≤ n ∧ n ≤ mo) → (t ≤ 6) → 50000 - 5000 * n - 100 - 100 * t < w → hG (zs zC) d mt_209 31 [(0, .inr (.inr 1826)), (1, .inl (mo : Int)), (2, .inl al), (3, .inl (n : Int)), (4, .inl (t : Int))] [] H1 (fun r9 H2 => r9 = none ∧ fr [] [1864] H H2 ∧ AMb (H2.1 1864) ∧ AW (H2.1 1864) (H2.1 1829) (H2.1 1830) (H2.1 1831) (H2.1 1826 1) (H2.1 1826 3) al (mo + 1) 0)) ∧ (∀ (H1 : hp) (n : Nat) (t : Nat) (sm : Int) (c : Nat), (fr [] [1864] H H1) → (AMb (H1.1 1864)) → (AW (H1.1 1864) (H1.1 1829) (H1.1 1830) (H1.1 1831) (H1.1 1826 1) (H1.1 1826 3) al n t) → (1 ≤ n ∧ n ≤ mo) → ((t : Int) < (H1.1 1826 1)) → (c ≤ 16) → (0 ≤ sm ∧ sm ≤ 1000000 * c + 1) → (PZ sm (WA (H1.1 1864) (H1.1 1829) (H1.1 1830) (H1.1 1831) (H1.1 1826 3) al t n)) → 50000 - 5000 * n - 100 - 100 * t - 10 - c < w → hG (zs zC) d mt_209 59 [(0, .inr (.inr 1826)), (1, .inl (mo : Int)), (2, .inl al), (3, .inl (n : Int)), (4, .inl (t : Int)), (5, .inr (.inl sm)), (7, .inl (c : Int))] [] H1 (fun r9 H2 => r9 = none ∧ fr [] [1864] H H2 ∧ AMb (H2.1 1864) ∧ AW (H2.1 1864) (H2.1 1829) (H2.1 1830) (H2.1 1831) (H2.1 1826 1) (H2.1 1826 3) al (mo + 1) 0)) := by
  intro w
  induction w with
  | zero => exact ⟨fun _ _ _ _ _ h => absurd h (Nat.not_lt_zero _), fun _ _ _ _ _ _ h => absurd h (Nat.not_lt_zero _), fun _ _ _ _ _ _ _ _ h => absurd h (Nat.not_lt_zero _), fun _ _ _ _ _ _ _ _ _ _ _ _ _ h => absurd h (Nat.not_lt_zero _)⟩
  | succ w ih =>
    refine ⟨?_, ?_, ?_, ?_⟩
    · intro H1 k hf hz0 hk hw
      refine h_rng (fun hrg1 => ?_)
      refine h_run 2 (pc' := 5) (l' := [(0, .inr (.inr 1826)), (1, .inl (mo : Int)), (2, .inl al), (3, .inl (k : Int))]) (st' := [.inl 48, .inl (k : Int)]) rfl ?_
      refine h_ige (off := 16) (t := 21) rfl rfl (by omega) (by decide) (fun c2 => ?_) (fun c2 => ?_)
      · refine h_run 2 (pc' := 23) (l' := [(0, .inr (.inr 1826)), (1, .inl (mo : Int)), (2, .inl al), (3, .inl 1)]) (st' := []) rfl ?_
        exact ih.2.1 _ 1 hf (fun j9 h9 => by rw [hz0 j9 (by omega)]; decide) AW_0 (by omega) (by omega : 50000 - 5000 * 1 < w)
      · refine h_run 4 (pc' := 14) (l' := [(0, .inr (.inr 1826)), (1, .inl (mo : Int)), (2, .inl al), (3, .inl (k : Int))]) (st' := [.inr (.inl 0), .inl (k : Int), .inr (.inr 1864)]) rfl ?_
        refine h_lst (c := 1864) (j := k) (i := (k : Int)) (x := 0) rfl rfl (by decide) (by decide) rfl (by omega) (by decide) ?_
        refine h_run 2 (pc' := 2) (l' := [(0, .inr (.inr 1826)), (1, .inl (mo : Int)), (2, .inl al), (3, .inl ((k : Int) + 1))]) (st' := []) rfl ?_
        rw [show ((k : Int) + 1) = (((k + 1) : Nat) : Int) by omega]
        exact ih.1 _ (k + 1) (fr_a hf (by decide)) (z0_up hz0) (by omega) (by omega : 100000 - (k + 1) < w)
    · intro H1 n hf hAM hAW hn hw
      refine h_rng (fun hrg3 => ?_)
      have hP1 : PWc H1 := PWc_fr hP hf (by decide) (by decide)
      obtain ⟨⟨pb1, pb2, pb3, pb4, pb5⟩, pw1, pw2, pw3, pw4⟩ := (id hP1 : PW H1 (H1.1 1826 1) (H1.1 1826 3) (H1.1 1826 8) (H1.1 1826 13) (H1.1 1826 19))
      refine h_run 2 (pc' := 25) (l' := [(0, .inr (.inr 1826)), (1, .inl (mo : Int)), (2, .inl al), (3, .inl (n : Int))]) (st' := [.inl (mo : Int), .inl (n : Int)]) rfl ?_
      refine h_igt (off := 106) (t := 131) rfl rfl (by omega) (by omega) (fun c4 => ?_) (fun c4 => ?_)
      · refine h_ret rfl rfl ?_
        exact ⟨rfl, hf, hAM, (by rw [show mo + 1 = n by omega]; exact hAW)⟩
      · refine h_run 2 (pc' := 31) (l' := [(0, .inr (.inr 1826)), (1, .inl (mo : Int)), (2, .inl al), (3, .inl (n : Int)), (4, .inl 0)]) (st' := []) rfl ?_
        have g5 : -2147483648 ≤ (H1.1 1826 1) ∧ (H1.1 1826 1) ≤ 2147483647 := hrg3.1 1826 13 1 _ .int rfl rfl
        have e6 : (H1.1 1826 1) = (H.1 1826 1) := hf.2.2 1 (by decide)
        exact ih.2.2.1 _ n 0 hf hAM hAW (by omega) (by omega) (by omega : 50000 - 5000 * n - 100 - 100 * 0 < w)
    · intro H1 n t hf hAM hAW hn ht hw
      refine h_rng (fun hrg7 => ?_)
      have hP1 : PWc H1 := PWc_fr hP hf (by decide) (by decide)
      obtain ⟨⟨pb1, pb2, pb3, pb4, pb5⟩, pw1, pw2, pw3, pw4⟩ := (id hP1 : PW H1 (H1.1 1826 1) (H1.1 1826 3) (H1.1 1826 8) (H1.1 1826 13) (H1.1 1826 19))
      refine h_run 3 (pc' := 37) (l' := [(0, .inr (.inr 1826)), (1, .inl (mo : Int)), (2, .inl al), (3, .inl (n : Int)), (4, .inl (t : Int))]) (st' := [.inl (H1.1 1826 1), .inl (t : Int)]) rfl ?_
      have g8 : -2147483648 ≤ (H1.1 1826 1) ∧ (H1.1 1826 1) ≤ 2147483647 := hrg7.1 1826 13 1 _ .int rfl rfl
      have e9 : (H1.1 1826 1) = (H.1 1826 1) := hf.2.2 1 (by decide)
      refine h_ige (off := 88) (t := 125) rfl rfl (by omega) (by omega) (fun c10 => ?_) (fun c10 => ?_)
      · refine h_run 2 (pc' := 23) (l' := [(0, .inr (.inr 1826)), (1, .inl (mo : Int)), (2, .inl al), (3, .inl ((n : Int) + 1)), (4, .inl (t : Int))]) (st' := []) rfl ?_
        refine h_loc [0, 1, 2, 3] rfl ?_
        rw [show ((n : Int) + 1) = (((n + 1) : Nat) : Int) by omega]
        exact ih.2.1 _ (n + 1) hf hAM (AW_next hAW (by omega)) (by omega) (by omega : 50000 - 5000 * (n + 1) < w)
      · refine h_run 2 (pc' := 42) (l' := [(0, .inr (.inr 1826)), (1, .inl (mo : Int)), (2, .inl al), (3, .inl (n : Int)), (4, .inl (t : Int))]) (st' := [.inl 1, .inl (n : Int)]) rfl ?_
        refine h_ine (off := 11) (t := 53) rfl rfl (by omega) (by decide) (fun c11 => ?_) (fun c11 => ?_)
        · refine h_run 4 (pc' := 59) (l' := [(0, .inr (.inr 1826)), (1, .inl (mo : Int)), (2, .inl al), (3, .inl (n : Int)), (4, .inl (t : Int)), (5, .inr (.inl 0)), (7, .inl 0)]) (st' := []) rfl ?_
          exact ih.2.2.2 _ n t (0 : Int) 0 hf hAM hAW (by omega) (by omega : (t : Int) < (H1.1 1826 1)) (by omega) (by omega) (fun h9 => absurd h9 (by decide)) (by omega : 50000 - 5000 * n - 100 - 100 * t - 10 - 0 < w)
        · refine h_run 1 (pc' := 46) (l' := [(0, .inr (.inr 1826)), (1, .inl (mo : Int)), (2, .inl al), (3, .inl (n : Int)), (4, .inl (t : Int))]) (st' := [.inl al]) rfl ?_
          refine h_zeq (off := 7) (t := 53) rfl rfl (by omega) (fun c12 => ?_) (fun c12 => ?_)
          · refine h_run 4 (pc' := 59) (l' := [(0, .inr (.inr 1826)), (1, .inl (mo : Int)), (2, .inl al), (3, .inl (n : Int)), (4, .inl (t : Int)), (5, .inr (.inl 0)), (7, .inl 0)]) (st' := []) rfl ?_
            exact ih.2.2.2 _ n t (0 : Int) 0 hf hAM hAW (by omega) (by omega : (t : Int) < (H1.1 1826 1)) (by omega) (by omega) (fun h9 => absurd h9 (by decide)) (by omega : 50000 - 5000 * n - 100 - 100 * t - 10 - 0 < w)
          · refine h_run 5 (pc' := 59) (l' := [(0, .inr (.inr 1826)), (1, .inl (mo : Int)), (2, .inl al), (3, .inl (n : Int)), (4, .inl (t : Int)), (5, .inr (.inl 1)), (7, .inl 0)]) (st' := []) rfl ?_
            exact ih.2.2.2 _ n t (1 : Int) 0 hf hAM hAW (by omega) (by omega : (t : Int) < (H1.1 1826 1)) (by omega) (by omega) (fun _ => Or.inl ⟨by omega, by omega⟩) (by omega : 50000 - 5000 * n - 100 - 100 * t - 10 - 0 < w)
    · intro H1 n t sm c hf hAM hAW hn ht hc hsm hz hw
      refine h_rng (fun hrg13 => ?_)
      have hP1 : PWc H1 := PWc_fr hP hf (by decide) (by decide)
      obtain ⟨⟨pb1, pb2, pb3, pb4, pb5⟩, pw1, pw2, pw3, pw4⟩ := (id hP1 : PW H1 (H1.1 1826 1) (H1.1 1826 3) (H1.1 1826 8) (H1.1 1826 13) (H1.1 1826 19))
      refine h_run 3 (pc' := 65) (l' := [(0, .inr (.inr 1826)), (1, .inl (mo : Int)), (2, .inl al), (3, .inl (n : Int)), (4, .inl (t : Int)), (5, .inr (.inl sm)), (7, .inl (c : Int))]) (st' := [.inl (H1.1 1826 3), .inl (c : Int)]) rfl ?_
      have g14 : -2147483648 ≤ (H1.1 1826 3) ∧ (H1.1 1826 3) ≤ 2147483647 := hrg13.1 1826 13 3 _ .int rfl rfl
      have e15 : (H1.1 1826 3) = (H.1 1826 3) := hf.2.2 3 (by decide)
      refine h_ige (off := 37) (t := 102) rfl rfl (by omega) (by omega) (fun c16 => ?_) (fun c16 => ?_)
      · refine h_run 8 (pc' := 115) (l' := [(0, .inr (.inr 1826)), (1, .inl (mo : Int)), (2, .inl al), (3, .inl (n : Int)), (4, .inl (t : Int)), (5, .inr (.inl sm)), (7, .inl (c : Int))]) (st' := [.inr (.inl sm), .inl ((8 * (t : Int)) + (n : Int)), .inr (.inr 1864)]) rfl ?_
        refine h_cs (i := 489) (j := 208) (M' := mt_208) (xs := [.inr (.inl sm)]) (rest := [.inl ((8 * (t : Int)) + (n : Int)), .inr (.inr 1864)]) rfl rfl rfl rfl rfl (Nat.le_of_ble_eq_true rfl) (Nat.le_of_ble_eq_true rfl) (by omega) (m_bounded (by omega) (by omega)) ?_
        rintro _ _ ⟨⟨b17, rfl, b17r, b17p, -⟩, rfl⟩
        refine h_run 0 (pc' := 118) (l' := [(0, .inr (.inr 1826)), (1, .inl (mo : Int)), (2, .inl al), (3, .inl (n : Int)), (4, .inl (t : Int)), (5, .inr (.inl sm)), (7, .inl (c : Int))]) (st' := [.inr (.inl b17), .inl ((8 * (t : Int)) + (n : Int)), .inr (.inr 1864)]) rfl ?_
        refine h_lst (c := 1864) (j := ((8 * t) + n)) (i := ((8 * (t : Int)) + (n : Int))) (x := b17) rfl rfl (by decide) (by decide) (by omega) (by omega) (by first | omega | exact z_long _) ?_
        refine h_run 2 (pc' := 31) (l' := [(0, .inr (.inr 1826)), (1, .inl (mo : Int)), (2, .inl al), (3, .inl (n : Int)), (4, .inl ((t : Int) + 1)), (5, .inr (.inl sm)), (7, .inl (c : Int))]) (st' := []) rfl ?_
        have g18 : -2147483648 ≤ (H1.1 1826 1) ∧ (H1.1 1826 1) ≤ 2147483647 := hrg13.1 1826 13 1 _ .int rfl rfl
        have e19 : (H1.1 1826 1) = (H.1 1826 1) := hf.2.2 1 (by decide)
        refine h_loc [0, 1, 2, 3, 4] rfl ?_
        rw [show ((t : Int) + 1) = (((t + 1) : Nat) : Int) by omega]
        exact ih.2.2.1 _ n (t + 1) (fr_a hf (by decide)) (AMb_put hAM b17r) (AW_put pw1 hAW (by omega) (fun h9 => hz (b17p h9))) (by omega) (by omega) (by omega : 50000 - 5000 * n - 100 - 100 * (t + 1) < w)
      · refine h_run 4 (pc' := 76) (l' := [(0, .inr (.inr 1826)), (1, .inl (mo : Int)), (2, .inl al), (3, .inl (n : Int)), (4, .inl (t : Int)), (5, .inr (.inl sm)), (7, .inl (c : Int))]) (st' := [.inl (c : Int), .inr (.inr 1829), .inr (.inl sm)]) rfl ?_
        refine h_ild (c := 1829) (j := c) (i := (c : Int)) rfl rfl (by decide) rfl (by omega) ?_
        have g20 : -2147483648 ≤ (H1.1 1829 c) ∧ (H1.1 1829 c) ≤ 2147483647 := hrg13.2 1829 c 16 .int rfl (by omega)
        have e21 : (H1.1 1829 c) = (H.1 1829 c) := congrFun (hf.2.1 1829 (by decide) (by decide)) c
        refine h_run 0 (pc' := 77) (l' := [(0, .inr (.inr 1826)), (1, .inl (mo : Int)), (2, .inl al), (3, .inl (n : Int)), (4, .inl (t : Int)), (5, .inr (.inl sm)), (7, .inl (c : Int))]) (st' := [.inl (H1.1 1829 c), .inr (.inl sm)]) rfl ?_
        refine h_run 1 (pc' := 79) (l' := [(0, .inr (.inr 1826)), (1, .inl (mo : Int)), (2, .inl al), (3, .inl (n : Int)), (4, .inl (t : Int)), (5, .inr (.inl sm)), (7, .inl (c : Int))]) (st' := [.inl (t : Int), .inl (H1.1 1829 c), .inr (.inl sm)]) rfl ?_
        refine h_ine (off := 13) (t := 92) rfl rfl (by omega) (by omega) (fun c22 => ?_) (fun c22 => ?_)
        · refine h_run 5 (pc' := 59) (l' := [(0, .inr (.inr 1826)), (1, .inl (mo : Int)), (2, .inl al), (3, .inl (n : Int)), (4, .inl (t : Int)), (5, .inr (.inl (sm + 0))), (7, .inl ((c : Int) + 1))]) (st' := []) rfl ?_
          rw [show ((c : Int) + 1) = (((c + 1) : Nat) : Int) by omega]
          exact ih.2.2.2 _ n t (sm + 0) (c + 1) hf hAM hAW (by omega) (by omega : (t : Int) < (H1.1 1826 1)) (by omega) (by omega) (fun h9 => by by_cases hs9 : 0 < sm; { exact hz hs9 }; { first | (exfalso; omega) | exact Or.inr ⟨c, by omega, by omega, b9z (by omega)⟩ }) (by omega : 50000 - 5000 * n - 100 - 100 * t - 10 - (c + 1) < w)
        · refine h_run 3 (pc' := 86) (l' := [(0, .inr (.inr 1826)), (1, .inl (mo : Int)), (2, .inl al), (3, .inl (n : Int)), (4, .inl (t : Int)), (5, .inr (.inl sm)), (7, .inl (c : Int))]) (st' := [.inl (n : Int), .inl (c : Int), .inr (.inr 1826), .inr (.inl sm)]) rfl ?_
          refine h_cv (i := 485) (j := 210) (b := 1826) (M' := mt_210) (xs := [.inl (n : Int), .inl (c : Int)]) (rest := [.inr (.inl sm)]) rfl rfl rfl rfl rfl rfl (Nat.le_of_ble_eq_true rfl) (Nat.le_of_ble_eq_true rfl) (by omega) (m_conAmount (by omega) hP1 (by omega) (by omega) hAM) ?_
          rintro _ _ ⟨⟨b23, rfl, b23r, b23z⟩, rfl⟩
          refine h_run 0 (pc' := 89) (l' := [(0, .inr (.inr 1826)), (1, .inl (mo : Int)), (2, .inl al), (3, .inl (n : Int)), (4, .inl (t : Int)), (5, .inr (.inl sm)), (7, .inl (c : Int))]) (st' := [.inr (.inl b23), .inr (.inl sm)]) rfl ?_
          refine h_run 5 (pc' := 59) (l' := [(0, .inr (.inr 1826)), (1, .inl (mo : Int)), (2, .inl al), (3, .inl (n : Int)), (4, .inl (t : Int)), (5, .inr (.inl (sm + b23))), (7, .inl ((c : Int) + 1))]) (st' := []) rfl ?_
          rw [show ((c : Int) + 1) = (((c + 1) : Nat) : Int) by omega]
          exact ih.2.2.2 _ n t (sm + b23) (c + 1) hf hAM hAW (by omega) (by omega : (t : Int) < (H1.1 1826 1)) (by omega) (by omega) (fun h9 => by by_cases hs9 : 0 < sm; { exact hz hs9 }; { first | (exfalso; omega) | exact Or.inr ⟨c, by omega, by omega, b23z (by omega)⟩ }) (by omega : 50000 - 5000 * n - 100 - 100 * t - 10 - (c + 1) < w)
set_option maxRecDepth 100000 in
theorem m_countValues {zC : Nat → Option zsh} {d : Nat} (hd : 6 ≤ d) {H : hp} {mo : Nat} {al : Int} (hP : PWc H) (hm : 1 ≤ mo ∧ mo ≤ 6) (hal : 0 ≤ al ∧ al ≤ 1) : hG (zs zC) d mt_209 0 (zargs 0 [.inr (.inr 1826), .inl (mo : Int), .inl al]) [] H (fun r9 H2 => r9 = none ∧ fr [] [1864] H H2 ∧ AMb (H2.1 1864) ∧ AW (H2.1 1864) (H2.1 1829) (H2.1 1830) (H2.1 1831) (H2.1 1826 1) (H2.1 1826 3) al (mo + 1) 0) := by
  refine h_rng (fun hrg0 => ?_)
  refine h_run 0 (pc' := 0) (l' := [(0, .inr (.inr 1826)), (1, .inl (mo : Int)), (2, .inl al)]) (st' := []) rfl ?_
  refine h_run 2 (pc' := 2) (l' := [(0, .inr (.inr 1826)), (1, .inl (mo : Int)), (2, .inl al), (3, .inl 0)]) (st' := []) rfl ?_
  exact (m_countValues_cut hd hP hm hal _).1 _ 0 (fr_rf _ _ _) (fun j9 h9 => absurd h9 (Nat.not_lt_zero _)) (by omega) (Nat.lt_succ_self _)
