/-! the reference: test, told -/
theorem z_or_b {x y : Int} (hx : 0 ≤ x ∧ x ≤ 1) (hy : 0 ≤ y ∧ y ≤ 1) : (0 ≤ z_or x y ∧ z_or x y ≤ 1) ∧ (z_or x y = 0 → x = 0 ∧ y = 0) := by
  rcases (show x = 0 ∨ x = 1 by omega) with rfl | rfl <;> rcases (show y = 0 ∨ y = 1 by omega) with rfl | rfl <;> decide
theorem z_and_b {x y : Int} (hx : 0 ≤ x ∧ x ≤ 1) (hy : 0 ≤ y ∧ y ≤ 1) : 0 ≤ z_and x y ∧ z_and x y ≤ 1 := by
  rcases (show x = 0 ∨ x = 1 by omega) with rfl | rfl <;> rcases (show y = 0 ∨ y = 1 by omega) with rfl | rfl <;> decide
theorem z_i2l_e {x : Int} (h : -2147483648 ≤ x ∧ x ≤ 2147483647) : z_i2l x = x := by
  unfold z_i2l
  rw [Int32.toInt_toInt64, z_t h]
def TVa (tl ln cn fn : Int) (lV fA cA tv : Nat → Int) : Prop := tl = -1 ∨ ∃ l : Nat, tl = (l : Int) ∧ (l : Int) < ln ∧ ∀ v : Nat, (v : Int) < lV l → ∃ k : Nat, (1 ≤ k ∧ k ≤ 6) ∧ tm (ma fA cA) (m_sg cn fn 0) tv k (7 * v) 1
def WK (am : Nat → Int) (g : Int) (k : Nat) : Prop := ∃ i : Nat, 1 ≤ i ∧ i < k ∧ 0 < am (8 * g + (i : Int)).toNat
def NZ (am lT : Nat → Int) (l mo v : Nat) : Prop := ∀ u : Nat, u < v → WK am (lT (6 * l + u)) (mo + 1)
def TP (cn fn : Int) (fA cA tv : Nat → Int) (v : Nat) : Prop := ∀ u : Nat, u < v → ∃ k : Nat, (1 ≤ k ∧ k ≤ 6) ∧ tm (ma fA cA) (m_sg cn fn 0) tv k (7 * u) 1
theorem TP_up {cn fn : Int} {fA cA tv : Nat → Int} {v j : Nat} {z : Int} (h : TP cn fn fA cA tv v) (hj : 7 * v ≤ j) : TP cn fn fA cA (up tv j z) v := by
  intro u hu
  obtain ⟨k, k1, k2⟩ := h u hu
  exact ⟨k, k1, tm_at k2 (fun x hx => up_ne _ _ (by omega))⟩
theorem TP_s {cn fn : Int} {fA cA tv : Nat → Int} {v k : Nat} (h : TP cn fn fA cA tv v) (hk : 1 ≤ k ∧ k ≤ 6) (ht : tm (ma fA cA) (m_sg cn fn 0) tv k (7 * v) 1) : TP cn fn fA cA tv (v + 1) := by
  intro u hu
  by_cases e : u = v
  · subst e; exact ⟨k, hk, ht⟩
  · exact h u (by omega)
theorem NW_up {lv y : Int} {lT now vc : Nat → Int} {l v : Nat} (h : NW lv lT now vc l) (hy : 0 ≤ y ∧ y < vc (lT (6 * l + v)).toNat) : NW lv lT (up now v y) vc l := by
  intro u hu
  by_cases e : u = v
  · rw [e, up_eq]; exact hy
  · rw [up_ne _ _ e]; exact h u hu
theorem up_up (a : Nat → Int) (j : Nat) (x y : Int) : up (up a j x) j y = up a j y := by
  funext k
  by_cases e : k = j
  · rw [e, up_eq, up_eq]
  · rw [up_ne _ _ e, up_ne _ _ e, up_ne _ _ e]

/-! test -/
set_option maxRecDepth 100000 in
theorem m_test_cut {zC : Nat → Option zsh} {d : Nat} (hd : 12 ≤ d) {H : hp} {x y al : Int} (hP : PWc H) (hT : TVa (H.1 1826 67) (H.1 1826 19) (H.1 1826 3) (H.1 1826 8) (H.1 1845) (H.1 1833) (H.1 1830) (H.1 1867)) (hal : 0 ≤ al ∧ al ≤ 1) (hx : -2147483648 ≤ x ∧ x ≤ 2147483647) (hy : -2147483648 ≤ y ∧ y ≤ 2147483647) : ∀ w : Nat, (∀ (H1 : hp) (l : Nat) (mo : Nat) (rw9 : Int) (no : Int) (v : Nat), (fr [50, 51, 53, 55, 56, 67, 72] [1855, 1856, 1857, 1861, 1862, 1863, 1864, 1865, 1867, 1868, 1869] H H1) → ((l : Int) < (H.1 1826 19)) → (1 ≤ mo ∧ mo ≤ 6) → (AMb (H1.1 1864)) → (AW (H1.1 1864) (H1.1 1829) (H1.1 1830) (H1.1 1831) (H1.1 1826 1) (H1.1 1826 3) al (mo + 1) 0) → (TVa (H1.1 1826 67) (H.1 1826 19) (H.1 1826 3) (H.1 1826 8) (H.1 1845) (H.1 1833) (H.1 1830) (H1.1 1867)) → (0 ≤ rw9 ∧ rw9 ≤ 1000000) → (0 ≤ no ∧ no ≤ 1) → (v ≤ 6) → (hid (no = 0 → NZ (H1.1 1864) (H1.1 1846) l mo v)) → 100000000 - 100 * v < w → hG (zs zC) d mt_218 44 [(0, .inr (.inr 1826)), (1, .inl (l : Int)), (2, .inl (mo : Int)), (3, .inl al), (4, .inr (.inl rw9)), (6, .inl no), (7, .inl (v : Int))] [] H1 (fun r9 H2 => fr [50, 51, 53, 55, 56, 67, 72] [1855, 1856, 1857, 1861, 1862, 1863, 1864, 1865, 1867, 1868, 1869] H H2 ∧ TVa (H2.1 1826 67) (H2.1 1826 19) (H2.1 1826 3) (H2.1 1826 8) (H2.1 1845) (H2.1 1833) (H2.1 1830) (H2.1 1867) ∧ ∃ r0 : Int, r9 = some (.inl r0))) ∧ (∀ (H1 : hp) (l : Nat) (mo : Nat) (rw9 : Int) (no : Int) (v : Nat) (n : Int) (k : Nat), (fr [50, 51, 53, 55, 56, 67, 72] [1855, 1856, 1857, 1861, 1862, 1863, 1864, 1865, 1867, 1868, 1869] H H1) → ((l : Int) < (H.1 1826 19)) → (1 ≤ mo ∧ mo ≤ 6) → (AMb (H1.1 1864)) → (AW (H1.1 1864) (H1.1 1829) (H1.1 1830) (H1.1 1831) (H1.1 1826 1) (H1.1 1826 3) al (mo + 1) 0) → (TVa (H1.1 1826 67) (H.1 1826 19) (H.1 1826 3) (H.1 1826 8) (H.1 1845) (H.1 1833) (H.1 1830) (H1.1 1867)) → (0 ≤ rw9 ∧ rw9 ≤ 1000000) → (0 ≤ no ∧ no ≤ 1) → ((v : Int) < (H.1 1845) l) → (hid (no = 0 → NZ (H1.1 1864) (H1.1 1846) l mo v)) → (0 ≤ n ∧ n ≤ 1000000) → (1 ≤ k ∧ k ≤ mo + 1) → (PZ n (WK (H1.1 1864) ((H1.1 1846) (6 * l + v)) k)) → 100000000 - 100 * v - 10 - k < w → hG (zs zC) d mt_218 61 [(0, .inr (.inr 1826)), (1, .inl (l : Int)), (2, .inl (mo : Int)), (3, .inl al), (4, .inr (.inl rw9)), (6, .inl no), (7, .inl (v : Int)), (8, .inr (.inl n)), (10, .inl (k : Int))] [] H1 (fun r9 H2 => fr [50, 51, 53, 55, 56, 67, 72] [1855, 1856, 1857, 1861, 1862, 1863, 1864, 1865, 1867, 1868, 1869] H H2 ∧ TVa (H2.1 1826 67) (H2.1 1826 19) (H2.1 1826 3) (H2.1 1826 8) (H2.1 1845) (H2.1 1833) (H2.1 1830) (H2.1 1867) ∧ ∃ r0 : Int, r9 = some (.inl r0))) ∧ (∀ (H1 : hp) (l : Nat) (mo : Nat) (rw9 : Int) (v : Nat), (fr [50, 51, 53, 55, 56, 67, 72] [1855, 1856, 1857, 1861, 1862, 1863, 1864, 1865, 1867, 1868, 1869] H H1) → ((l : Int) < (H.1 1826 19)) → (1 ≤ mo ∧ mo ≤ 6) → (VK (H1.1 1826 1) (H1.1 1826 3) (H1.1 1826 8) (H1.1 1833) (H1.1 1830) (H1.1 1861) (H1.1 1862) (H1.1 1863)) → (TVa (H1.1 1826 67) (H.1 1826 19) (H.1 1826 3) (H.1 1826 8) (H.1 1845) (H.1 1833) (H.1 1830) (H1.1 1867)) → (0 ≤ rw9 ∧ rw9 ≤ 1000000) → (v ≤ 6) → (∀ v8 : Nat, (v8 : Int) < (H.1 1845) l → 0 < (H1.1 1863) ((H.1 1846) (6 * l + v8)).toNat) → (∀ u : Nat, u < v → (H1.1 1868) u = 0) → 80000000 - v < w → hG (zs zC) d mt_218 165 [(0, .inr (.inr 1826)), (1, .inl (l : Int)), (2, .inl (mo : Int)), (3, .inl al), (4, .inr (.inl rw9)), (7, .inl (v : Int))] [] H1 (fun r9 H2 => fr [50, 51, 53, 55, 56, 67, 72] [1855, 1856, 1857, 1861, 1862, 1863, 1864, 1865, 1867, 1868, 1869] H H2 ∧ TVa (H2.1 1826 67) (H2.1 1826 19) (H2.1 1826 3) (H2.1 1826 8) (H2.1 1845) (H2.1 1833) (H2.1 1830) (H2.1 1867) ∧ ∃ r0 : Int, r9 = some (.inl r0))) ∧ (∀ (H1 : hp) (l : Nat) (mo : Nat) (rw9 : Int) (dn : Int) (i : Nat), (fr [50, 51, 53, 55, 56, 67, 72] [1855, 1856, 1857, 1861, 1862, 1863, 1864, 1865, 1867, 1868, 1869] H H1) → ((l : Int) < (H.1 1826 19)) → (1 ≤ mo ∧ mo ≤ 6) → (VK (H1.1 1826 1) (H1.1 1826 3) (H1.1 1826 8) (H1.1 1833) (H1.1 1830) (H1.1 1861) (H1.1 1862) (H1.1 1863)) → (TVa (H1.1 1826 67) (H.1 1826 19) (H.1 1826 3) (H.1 1826 8) (H.1 1845) (H.1 1833) (H.1 1830) (H1.1 1867)) → (NW ((H.1 1845) l) (H.1 1846) (H1.1 1868) (H1.1 1863) l) → (0 ≤ rw9 ∧ rw9 ≤ 1000000) → (0 ≤ dn ∧ dn ≤ 1) → (i ≤ 1000000) → 50000000 - 20 * i < w → hG (zs zC) d mt_218 192 [(0, .inr (.inr 1826)), (1, .inl (l : Int)), (2, .inl (mo : Int)), (3, .inl al), (4, .inr (.inl rw9)), (7, .inl dn), (8, .inl (i : Int))] [] H1 (fun r9 H2 => fr [50, 51, 53, 55, 56, 67, 72] [1855, 1856, 1857, 1861, 1862, 1863, 1864, 1865, 1867, 1868, 1869] H H2 ∧ TVa (H2.1 1826 67) (H2.1 1826 19) (H2.1 1826 3) (H2.1 1826 8) (H2.1 1845) (H2.1 1833) (H2.1 1830) (H2.1 1867) ∧ ∃ r0 : Int, r9 = some (.inl r0))) ∧ (∀ (H1 : hp) (l : Nat) (mo : Nat) (v : Nat), (fr [50, 51, 53, 55, 56, 67, 72] [1855, 1856, 1857, 1861, 1862, 1863, 1864, 1865, 1867, 1868, 1869] H H1) → ((l : Int) < (H.1 1826 19)) → (1 ≤ mo ∧ mo ≤ 6) → (VK (H1.1 1826 1) (H1.1 1826 3) (H1.1 1826 8) (H1.1 1833) (H1.1 1830) (H1.1 1861) (H1.1 1862) (H1.1 1863)) → (NW ((H.1 1845) l) (H.1 1846) (H1.1 1868) (H1.1 1863) l) → ((H1.1 1826 67) = (l : Int)) → (v ≤ 6) → (TP (H.1 1826 3) (H.1 1826 8) (H.1 1833) (H.1 1830) (H1.1 1867) v) → 10000 - 100 * v < w → hG (zs zC) d mt_218 222 [(0, .inr (.inr 1826)), (1, .inl (l : Int)), (2, .inl (mo : Int)), (3, .inl al), (10, .inl (v : Int))] [] H1 (fun r9 H2 => fr [50, 51, 53, 55, 56, 67, 72] [1855, 1856, 1857, 1861, 1862, 1863, 1864, 1865, 1867, 1868, 1869] H H2 ∧ TVa (H2.1 1826 67) (H2.1 1826 19) (H2.1 1826 3) (H2.1 1826 8) (H2.1 1845) (H2.1 1833) (H2.1 1830) (H2.1 1867) ∧ ∃ r0 : Int, r9 = some (.inl r0))) ∧ (∀ (H1 : hp) (l : Nat) (mo : Nat) (v : Nat) (q : Nat) (x9 : Nat) (z : Nat), (fr [50, 51, 53, 55, 56, 67, 72] [1855, 1856, 1857, 1861, 1862, 1863, 1864, 1865, 1867, 1868, 1869] H H1) → ((l : Int) < (H.1 1826 19)) → (1 ≤ mo ∧ mo ≤ 6) → (VK (H1.1 1826 1) (H1.1 1826 3) (H1.1 1826 8) (H1.1 1833) (H1.1 1830) (H1.1 1861) (H1.1 1862) (H1.1 1863)) → (NW ((H.1 1845) l) (H.1 1846) (H1.1 1868) (H1.1 1863) l) → ((H1.1 1826 67) = (l : Int)) → ((v : Int) < (H.1 1845) l) → (TP (H.1 1826 3) (H.1 1826 8) (H.1 1833) (H.1 1830) (H1.1 1867) v) → (x9 ≤ z) → (q < 12006) → ((H1.1 1862) q = (z : Int) ∧ 1 ≤ z ∧ z ≤ 6) → (tm (ma (H.1 1833) (H.1 1830)) (m_sg (H.1 1826 3) (H.1 1826 8) 0) (H1.1 1861) z (7 * q) 1) → (∀ y, y < x9 → (H1.1 1867) (7 * v + y) = (H1.1 1861) (7 * q + y)) → 10000 - 100 * v - 10 - x9 < w → hG (zs zC) d mt_218 262 [(0, .inr (.inr 1826)), (1, .inl (l : Int)), (2, .inl (mo : Int)), (3, .inl al), (10, .inl (v : Int)), (11, .inl (q : Int)), (12, .inl (x9 : Int))] [] H1 (fun r9 H2 => fr [50, 51, 53, 55, 56, 67, 72] [1855, 1856, 1857, 1861, 1862, 1863, 1864, 1865, 1867, 1868, 1869] H H2 ∧ TVa (H2.1 1826 67) (H2.1 1826 19) (H2.1 1826 3) (H2.1 1826 8) (H2.1 1845) (H2.1 1833) (H2.1 1830) (H2.1 1867) ∧ ∃ r0 : Int, r9 = some (.inl r0))) ∧ (∀ (H1 : hp) (l : Nat) (mo : Nat) (rw9 : Int) (dn : Int) (i : Nat) (vv : Int), (fr [50, 51, 53, 55, 56, 67, 72] [1855, 1856, 1857, 1861, 1862, 1863, 1864, 1865, 1867, 1868, 1869] H H1) → ((l : Int) < (H.1 1826 19)) → (1 ≤ mo ∧ mo ≤ 6) → (VK (H1.1 1826 1) (H1.1 1826 3) (H1.1 1826 8) (H1.1 1833) (H1.1 1830) (H1.1 1861) (H1.1 1862) (H1.1 1863)) → (TVa (H1.1 1826 67) (H.1 1826 19) (H.1 1826 3) (H.1 1826 8) (H.1 1845) (H.1 1833) (H.1 1830) (H1.1 1867)) → (NW ((H.1 1845) l) (H.1 1846) (H1.1 1868) (H1.1 1863) l) → (0 ≤ rw9 ∧ rw9 ≤ 1000000) → (0 ≤ dn ∧ dn ≤ 1) → (i < 1000000) → (-1 ≤ vv ∧ vv < (H.1 1845) l) → 50000000 - 20 * i - 10 + (vv + 1).toNat < w → hG (zs zC) d mt_218 339 [(0, .inr (.inr 1826)), (1, .inl (l : Int)), (2, .inl (mo : Int)), (3, .inl al), (4, .inr (.inl rw9)), (7, .inl dn), (8, .inl (i : Int)), (10, .inl vv)] [] H1 (fun r9 H2 => fr [50, 51, 53, 55, 56, 67, 72] [1855, 1856, 1857, 1861, 1862, 1863, 1864, 1865, 1867, 1868, 1869] H H2 ∧ TVa (H2.1 1826 67) (H2.1 1826 19) (H2.1 1826 3) (H2.1 1826 8) (H2.1 1845) (H2.1 1833) (H2.1 1830) (H2.1 1867) ∧ ∃ r0 : Int, r9 = some (.inl r0))) := by
  intro w
  induction w with
  | zero => exact ⟨fun _ _ _ _ _ _ _ _ _ _ _ _ _ _ _ _ h => absurd h (Nat.not_lt_zero _), fun _ _ _ _ _ _ _ _ _ _ _ _ _ _ _ _ _ _ _ _ _ h => absurd h (Nat.not_lt_zero _), fun _ _ _ _ _ _ _ _ _ _ _ _ _ _ h => absurd h (Nat.not_lt_zero _), fun _ _ _ _ _ _ _ _ _ _ _ _ _ _ _ h => absurd h (Nat.not_lt_zero _), fun _ _ _ _ _ _ _ _ _ _ _ _ h => absurd h (Nat.not_lt_zero _), fun _ _ _ _ _ _ _ _ _ _ _ _ _ _ _ _ _ _ _ _ h => absurd h (Nat.not_lt_zero _), fun _ _ _ _ _ _ _ _ _ _ _ _ _ _ _ _ _ h => absurd h (Nat.not_lt_zero _)⟩
  | succ w ih =>
    refine ⟨?_, ?_, ?_, ?_, ?_, ?_, ?_⟩
    · intro H1 l mo rw9 no v hf hl hmo hMH1 hWH1 hTH1 hrw hno hv hnz hw
      refine h_rng (fun hrg1 => ?_)
      have hPH1 : PWc H1 := PWc_fr hP hf (by decide) (by decide)
      have cAH1 : (H1.1 1830) = (H.1 1830) := hf.2.1 1830 (by decide) (by decide)
      have fAH1 : (H1.1 1833) = (H.1 1833) := hf.2.1 1833 (by decide) (by decide)
      have lVH1 : (H1.1 1845) = (H.1 1845) := hf.2.1 1845 (by decide) (by decide)
      have lTH1 : (H1.1 1846) = (H.1 1846) := hf.2.1 1846 (by decide) (by decide)
      have tyH1 : (H1.1 1826 1) = (H.1 1826 1) := hf.2.2 1 (by decide)
      have cnH1 : (H1.1 1826 3) = (H.1 1826 3) := hf.2.2 3 (by decide)
      have fnH1 : (H1.1 1826 8) = (H.1 1826 8) := hf.2.2 8 (by decide)
      have lnH1 : (H1.1 1826 19) = (H.1 1826 19) := hf.2.2 19 (by decide)
      obtain ⟨⟨pb1, pb2, pb3, pb4, pb5⟩, pw1, pw2, pw3, pw4⟩ := (id hP : PW H (H.1 1826 1) (H.1 1826 3) (H.1 1826 8) (H.1 1826 13) (H.1 1826 19))
      obtain ⟨v9, ⟨lv1, lv2⟩, lv3, lv4⟩ := pw4 l (by omega)
      have hlv9 := congrFun lVH1 l
      refine h_run 4 (pc' := 51) (l' := [(0, .inr (.inr 1826)), (1, .inl (l : Int)), (2, .inl (mo : Int)), (3, .inl al), (4, .inr (.inl rw9)), (6, .inl no), (7, .inl (v : Int))]) (st' := [.inl (l : Int), .inr (.inr 1845), .inl (v : Int)]) rfl ?_
      refine h_ild (c := 1845) (j := l) (i := (l : Int)) rfl rfl (by decide) rfl (by omega) ?_
      have g2 : -2147483648 ≤ (H1.1 1845 l) ∧ (H1.1 1845 l) ≤ 2147483647 := hrg1.2 1845 l 16 .int rfl (by omega)
      have e3 : (H1.1 1845 l) = (H.1 1845 l) := congrFun (hf.2.1 1845 (by decide) (by decide)) l
      refine h_run 0 (pc' := 52) (l' := [(0, .inr (.inr 1826)), (1, .inl (l : Int)), (2, .inl (mo : Int)), (3, .inl al), (4, .inr (.inl rw9)), (6, .inl no), (7, .inl (v : Int))]) (st' := [.inl (H1.1 1845 l), .inl (v : Int)]) rfl ?_
      refine h_ige (off := 85) (t := 137) rfl rfl (by omega) (by omega) (fun c4 => ?_) (fun c4 => ?_)
      · refine h_run 1 (pc' := 139) (l' := [(0, .inr (.inr 1826)), (1, .inl (l : Int)), (2, .inl (mo : Int)), (3, .inl al), (4, .inr (.inl rw9)), (6, .inl no), (7, .inl (v : Int))]) (st' := [.inl no]) rfl ?_
        refine h_zeq (off := 5) (t := 144) rfl rfl (by omega) (fun c5 => ?_) (fun c5 => ?_)
        · refine h_run 1 (pc' := 146) (l' := [(0, .inr (.inr 1826)), (1, .inl (l : Int)), (2, .inl (mo : Int)), (3, .inl al), (4, .inr (.inl rw9)), (6, .inl no), (7, .inl (v : Int))]) (st' := [.inr (.inl rw9)]) rfl ?_
          refine h_ldc2 (i := 517) (z := 2000) rfl rfl rfl ?_
          refine h_run 0 (pc' := 149) (l' := [(0, .inr (.inr 1826)), (1, .inl (l : Int)), (2, .inl (mo : Int)), (3, .inl al), (4, .inr (.inl rw9)), (6, .inl no), (7, .inl (v : Int))]) (st' := [.inr (.inl 2000), .inr (.inl rw9)]) rfl ?_
          refine h_run 1 (pc' := 150) (l' := [(0, .inr (.inr 1826)), (1, .inl (l : Int)), (2, .inl (mo : Int)), (3, .inl al), (4, .inr (.inl rw9)), (6, .inl no), (7, .inl (v : Int))]) (st' := [.inl (z_cmp rw9 2000)]) rfl ?_
          have hcm := z_cm (x := rw9) (y := 2000) (by omega) (by decide)
          refine h_zle (off := 6) (t := 156) rfl rfl (z_int _) (fun c6 => ?_) (fun c6 => ?_)
          · refine h_run 3 (pc' := 159) (l' := [(0, .inr (.inr 1826)), (1, .inl (l : Int)), (2, .inl (mo : Int)), (3, .inl al), (4, .inr (.inl rw9)), (6, .inl no), (7, .inl (v : Int))]) (st' := [.inl al, .inl (mo : Int), .inr (.inr 1826)]) rfl ?_
            refine h_cv (i := 519) (j := 212) (b := 1826) (M' := mt_212) (xs := [.inl al, .inl (mo : Int)]) (rest := []) rfl rfl rfl rfl rfl rfl (Nat.le_of_ble_eq_true rfl) (Nat.le_of_ble_eq_true rfl) (by omega) (m_makeValues (by omega) hPH1 (by omega) hal) ?_
            rintro _ H7 ⟨rfl, hfH7, hVH7, hLH7⟩
            refine h_rng (fun hrg8 => ?_)
            have hf9 : fr [50, 51, 53, 55, 56, 67, 72] [1855, 1856, 1857, 1861, 1862, 1863, 1864, 1865, 1867, 1868, 1869] H H7 := fr_t hf hfH7 (by decide) (by decide)
            have hPH7 : PWc H7 := PWc_fr hP hf9 (by decide) (by decide)
            have cAH7 : (H7.1 1830) = (H.1 1830) := hf9.2.1 1830 (by decide) (by decide)
            have fAH7 : (H7.1 1833) = (H.1 1833) := hf9.2.1 1833 (by decide) (by decide)
            have lVH7 : (H7.1 1845) = (H.1 1845) := hf9.2.1 1845 (by decide) (by decide)
            have lTH7 : (H7.1 1846) = (H.1 1846) := hf9.2.1 1846 (by decide) (by decide)
            have tyH7 : (H7.1 1826 1) = (H.1 1826 1) := hf9.2.2 1 (by decide)
            have cnH7 : (H7.1 1826 3) = (H.1 1826 3) := hf9.2.2 3 (by decide)
            have fnH7 : (H7.1 1826 8) = (H.1 1826 8) := hf9.2.2 8 (by decide)
            have lnH7 : (H7.1 1826 19) = (H.1 1826 19) := hf9.2.2 19 (by decide)
            have hTH7 : TVa (H7.1 1826 67) (H.1 1826 19) (H.1 1826 3) (H.1 1826 8) (H.1 1845) (H.1 1833) (H.1 1830) (H7.1 1867) := by rw [hfH7.2.2 67 (by decide), hfH7.2.1 1867 (by decide) (by decide)]; exact hTH1
            have hnz9 := hnz (by omega)
            obtain ⟨-, pwb, -⟩ := (id hPH1 : PW H1 (H1.1 1826 1) (H1.1 1826 3) (H1.1 1826 8) (H1.1 1826 13) (H1.1 1826 19))
            have hCH7 : ∀ v8 : Nat, (v8 : Int) < (H.1 1845) l → 0 < (H7.1 1863) ((H.1 1846) (6 * l + v8)).toNat := by intro v8 h8; obtain ⟨i8, i81, i82, i83⟩ := hnz9 v8 (by omega); have h7 := lv3 v8 (by omega); rw [lTH1, show (8 * (H.1 1846) (6 * l + v8) + (i8 : Int)).toNat = 8 * ((H.1 1846) (6 * l + v8)).toNat + i8 by omega] at i83; exact (LV_am pwb hLH7 hWH1 (by omega) (i8 + 1) i8 _ (by omega) i81 (by omega) (by omega) i83).1
            refine h_run 0 (pc' := 162) (l' := [(0, .inr (.inr 1826)), (1, .inl (l : Int)), (2, .inl (mo : Int)), (3, .inl al), (4, .inr (.inl rw9)), (6, .inl no), (7, .inl (v : Int))]) (st' := []) rfl ?_
            refine h_run 2 (pc' := 165) (l' := [(0, .inr (.inr 1826)), (1, .inl (l : Int)), (2, .inl (mo : Int)), (3, .inl al), (4, .inr (.inl rw9)), (6, .inl no), (7, .inl 0)]) (st' := []) rfl ?_
            refine h_loc [0, 1, 2, 3, 4, 7] rfl ?_
            exact ih.2.2.1 _ l mo rw9 0 hf9 (by omega) (by omega) hVH7 hTH7 (by omega) (by omega) hCH7 (fun _ h9 => absurd h9 (Nat.not_lt_zero _)) (by omega : 80000000 - 0 < w)
          · refine h_run 1 (pc' := 155) (l' := [(0, .inr (.inr 1826)), (1, .inl (l : Int)), (2, .inl (mo : Int)), (3, .inl al), (4, .inr (.inl rw9)), (6, .inl no), (7, .inl (v : Int))]) (st' := [.inl (-105)]) rfl ?_
            refine h_reti (x := (-105)) rfl rfl ?_
            exact ⟨hf, by rw [lnH1, cnH1, fnH1, lVH1, fAH1, cAH1]; exact hTH1, _, rfl⟩
        · refine h_run 1 (pc' := 143) (l' := [(0, .inr (.inr 1826)), (1, .inl (l : Int)), (2, .inl (mo : Int)), (3, .inl al), (4, .inr (.inl rw9)), (6, .inl no), (7, .inl (v : Int))]) (st' := [.inl 0]) rfl ?_
          refine h_reti (x := 0) rfl rfl ?_
          exact ⟨hf, by rw [lnH1, cnH1, fnH1, lVH1, fAH1, cAH1]; exact hTH1, _, rfl⟩
      · refine h_run 4 (pc' := 61) (l' := [(0, .inr (.inr 1826)), (1, .inl (l : Int)), (2, .inl (mo : Int)), (3, .inl al), (4, .inr (.inl rw9)), (6, .inl no), (7, .inl (v : Int)), (8, .inr (.inl 0)), (10, .inl 1)]) (st' := []) rfl ?_
        exact ih.2.1 _ l mo rw9 no v (0 : Int) 1 hf (by omega) (by omega) hMH1 hWH1 hTH1 (by omega) hno (by omega) hnz (by omega) (by omega) (fun h9 => absurd h9 (by decide)) (by omega : 100000000 - 100 * v - 10 - 1 < w)
    · intro H1 l mo rw9 no v n k hf hl hmo hMH1 hWH1 hTH1 hrw hno hv hnz hn9 hk hnk hw
      refine h_rng (fun hrg10 => ?_)
      have hPH1 : PWc H1 := PWc_fr hP hf (by decide) (by decide)
      have cAH1 : (H1.1 1830) = (H.1 1830) := hf.2.1 1830 (by decide) (by decide)
      have fAH1 : (H1.1 1833) = (H.1 1833) := hf.2.1 1833 (by decide) (by decide)
      have lVH1 : (H1.1 1845) = (H.1 1845) := hf.2.1 1845 (by decide) (by decide)
      have lTH1 : (H1.1 1846) = (H.1 1846) := hf.2.1 1846 (by decide) (by decide)
      have tyH1 : (H1.1 1826 1) = (H.1 1826 1) := hf.2.2 1 (by decide)
      have cnH1 : (H1.1 1826 3) = (H.1 1826 3) := hf.2.2 3 (by decide)
      have fnH1 : (H1.1 1826 8) = (H.1 1826 8) := hf.2.2 8 (by decide)
      have lnH1 : (H1.1 1826 19) = (H.1 1826 19) := hf.2.2 19 (by decide)
      obtain ⟨⟨pb1, pb2, pb3, pb4, pb5⟩, pw1, pw2, pw3, pw4⟩ := (id hP : PW H (H.1 1826 1) (H.1 1826 3) (H.1 1826 8) (H.1 1826 13) (H.1 1826 19))
      obtain ⟨v9, ⟨lv1, lv2⟩, lv3, lv4⟩ := pw4 l (by omega)
      have hlv9 := congrFun lVH1 l
      have hlt9 := lv3 v (by omega)
      have hlt8 := congrFun lTH1 (6 * l + v)
      refine h_run 2 (pc' := 64) (l' := [(0, .inr (.inr 1826)), (1, .inl (l : Int)), (2, .inl (mo : Int)), (3, .inl al), (4, .inr (.inl rw9)), (6, .inl no), (7, .inl (v : Int)), (8, .inr (.inl n)), (10, .inl (k : Int))]) (st' := [.inl (mo : Int), .inl (k : Int)]) rfl ?_
      refine h_igt (off := 40) (t := 104) rfl rfl (by omega) (by omega) (fun c11 => ?_) (fun c11 => ?_)
      · refine h_run 4 (pc' := 110) (l' := [(0, .inr (.inr 1826)), (1, .inl (l : Int)), (2, .inl (mo : Int)), (3, .inl al), (4, .inr (.inl rw9)), (6, .inl no), (7, .inl (v : Int)), (8, .inr (.inl n)), (10, .inl (k : Int))]) (st' := [.inl (z_cmp n 0), .inl no]) rfl ?_
        have hcm := z_cm (x := n) (y := 0) (by omega) (by decide)
        refine h_zne (off := 7) (t := 117) rfl rfl (z_int _) (fun c12 => ?_) (fun c12 => ?_)
        · refine h_run 1 (pc' := 118) (l' := [(0, .inr (.inr 1826)), (1, .inl (l : Int)), (2, .inl (mo : Int)), (3, .inl al), (4, .inr (.inl rw9)), (6, .inl no), (7, .inl (v : Int)), (8, .inr (.inl n)), (10, .inl (k : Int))]) (st' := [.inl 0, .inl no]) rfl ?_
          have hzo := z_or_b (x := no) (y := 0) hno (by decide)
          refine h_run 4 (pc' := 125) (l' := [(0, .inr (.inr 1826)), (1, .inl (l : Int)), (2, .inl (mo : Int)), (3, .inl al), (4, .inr (.inl rw9)), (6, .inl (z_or no 0)), (7, .inl (v : Int)), (8, .inr (.inl n)), (10, .inl (k : Int))]) (st' := [.inr (.inl n), .inr (.inl rw9)]) rfl ?_
          have hmu := mulb (x := rw9) (y := n) hrw hn9
          refine h_run 1 (pc' := 126) (l' := [(0, .inr (.inr 1826)), (1, .inl (l : Int)), (2, .inl (mo : Int)), (3, .inl al), (4, .inr (.inl rw9)), (6, .inl (z_or no 0)), (7, .inl (v : Int)), (8, .inr (.inl n)), (10, .inl (k : Int))]) (st' := [.inr (.inl (rw9 * n))]) rfl ?_
          refine h_cs (i := 489) (j := 208) (M' := mt_208) (xs := [.inr (.inl (rw9 * n))]) (rest := []) rfl rfl rfl rfl rfl (Nat.le_of_ble_eq_true rfl) (Nat.le_of_ble_eq_true rfl) (by omega) (m_bounded (by omega) (by omega)) ?_
          rintro _ _ ⟨⟨b13, rfl, b13r, b13p, -⟩, rfl⟩
          refine h_run 0 (pc' := 129) (l' := [(0, .inr (.inr 1826)), (1, .inl (l : Int)), (2, .inl (mo : Int)), (3, .inl al), (4, .inr (.inl rw9)), (6, .inl (z_or no 0)), (7, .inl (v : Int)), (8, .inr (.inl n)), (10, .inl (k : Int))]) (st' := [.inr (.inl b13)]) rfl ?_
          refine h_run 3 (pc' := 44) (l' := [(0, .inr (.inr 1826)), (1, .inl (l : Int)), (2, .inl (mo : Int)), (3, .inl al), (4, .inr (.inl b13)), (6, .inl (z_or no 0)), (7, .inl ((v : Int) + 1)), (8, .inr (.inl n)), (10, .inl (k : Int))]) (st' := []) rfl ?_
          refine h_loc [0, 1, 2, 3, 4, 6, 7] rfl ?_
          rw [show ((v : Int) + 1) = (((v + 1) : Nat) : Int) by omega]
          exact ih.1 _ l mo b13 (z_or no 0) (v + 1) hf (by omega) (by omega) hMH1 hWH1 hTH1 (by omega) hzo.1 (by omega) (fun h9 u8 h8 => by have h7 := hzo.2 h9; by_cases e8 : u8 = v; { rw [e8]; have h6 := hnk (by omega); rw [show k = mo + 1 by omega] at h6; exact h6 }; { exact hnz h7.1 u8 (by omega) }) (by omega : 100000000 - 100 * (v + 1) < w)
        · refine h_run 2 (pc' := 118) (l' := [(0, .inr (.inr 1826)), (1, .inl (l : Int)), (2, .inl (mo : Int)), (3, .inl al), (4, .inr (.inl rw9)), (6, .inl no), (7, .inl (v : Int)), (8, .inr (.inl n)), (10, .inl (k : Int))]) (st' := [.inl 1, .inl no]) rfl ?_
          have hzo := z_or_b (x := no) (y := 1) hno (by decide)
          refine h_run 4 (pc' := 125) (l' := [(0, .inr (.inr 1826)), (1, .inl (l : Int)), (2, .inl (mo : Int)), (3, .inl al), (4, .inr (.inl rw9)), (6, .inl (z_or no 1)), (7, .inl (v : Int)), (8, .inr (.inl n)), (10, .inl (k : Int))]) (st' := [.inr (.inl n), .inr (.inl rw9)]) rfl ?_
          have hmu := mulb (x := rw9) (y := n) hrw hn9
          refine h_run 1 (pc' := 126) (l' := [(0, .inr (.inr 1826)), (1, .inl (l : Int)), (2, .inl (mo : Int)), (3, .inl al), (4, .inr (.inl rw9)), (6, .inl (z_or no 1)), (7, .inl (v : Int)), (8, .inr (.inl n)), (10, .inl (k : Int))]) (st' := [.inr (.inl (rw9 * n))]) rfl ?_
          refine h_cs (i := 489) (j := 208) (M' := mt_208) (xs := [.inr (.inl (rw9 * n))]) (rest := []) rfl rfl rfl rfl rfl (Nat.le_of_ble_eq_true rfl) (Nat.le_of_ble_eq_true rfl) (by omega) (m_bounded (by omega) (by omega)) ?_
          rintro _ _ ⟨⟨b14, rfl, b14r, b14p, -⟩, rfl⟩
          refine h_run 0 (pc' := 129) (l' := [(0, .inr (.inr 1826)), (1, .inl (l : Int)), (2, .inl (mo : Int)), (3, .inl al), (4, .inr (.inl rw9)), (6, .inl (z_or no 1)), (7, .inl (v : Int)), (8, .inr (.inl n)), (10, .inl (k : Int))]) (st' := [.inr (.inl b14)]) rfl ?_
          refine h_run 3 (pc' := 44) (l' := [(0, .inr (.inr 1826)), (1, .inl (l : Int)), (2, .inl (mo : Int)), (3, .inl al), (4, .inr (.inl b14)), (6, .inl (z_or no 1)), (7, .inl ((v : Int) + 1)), (8, .inr (.inl n)), (10, .inl (k : Int))]) (st' := []) rfl ?_
          refine h_loc [0, 1, 2, 3, 4, 6, 7] rfl ?_
          rw [show ((v : Int) + 1) = (((v + 1) : Nat) : Int) by omega]
          exact ih.1 _ l mo b14 (z_or no 1) (v + 1) hf (by omega) (by omega) hMH1 hWH1 hTH1 (by omega) hzo.1 (by omega) (fun h9 u8 h8 => by have h7 := hzo.2 h9; by_cases e8 : u8 = v; { rw [e8]; have h6 := hnk (by omega); rw [show k = mo + 1 by omega] at h6; exact h6 }; { exact hnz h7.1 u8 (by omega) }) (by omega : 100000000 - 100 * (v + 1) < w)
      · refine h_run 11 (pc' := 86) (l' := [(0, .inr (.inr 1826)), (1, .inl (l : Int)), (2, .inl (mo : Int)), (3, .inl al), (4, .inr (.inl rw9)), (6, .inl no), (7, .inl (v : Int)), (8, .inr (.inl n)), (10, .inl (k : Int))]) (st' := [.inl ((6 * (l : Int)) + (v : Int)), .inr (.inr 1846), .inl 8, .inr (.inr 1864), .inr (.inl n)]) rfl ?_
        refine h_ild (c := 1846) (j := ((6 * l) + v)) (i := ((6 * (l : Int)) + (v : Int))) rfl rfl (by decide) (by omega) (by omega) ?_
        have g15 : -2147483648 ≤ (H1.1 1846 ((6 * l) + v)) ∧ (H1.1 1846 ((6 * l) + v)) ≤ 2147483647 := hrg10.2 1846 ((6 * l) + v) 96 .int rfl (by omega)
        have e16 : (H1.1 1846 ((6 * l) + v)) = (H.1 1846 ((6 * l) + v)) := congrFun (hf.2.1 1846 (by decide) (by decide)) ((6 * l) + v)
        refine h_run 0 (pc' := 87) (l' := [(0, .inr (.inr 1826)), (1, .inl (l : Int)), (2, .inl (mo : Int)), (3, .inl al), (4, .inr (.inl rw9)), (6, .inl no), (7, .inl (v : Int)), (8, .inr (.inl n)), (10, .inl (k : Int))]) (st' := [.inl (H1.1 1846 ((6 * l) + v)), .inl 8, .inr (.inr 1864), .inr (.inl n)]) rfl ?_
        refine h_run 3 (pc' := 91) (l' := [(0, .inr (.inr 1826)), (1, .inl (l : Int)), (2, .inl (mo : Int)), (3, .inl al), (4, .inr (.inl rw9)), (6, .inl no), (7, .inl (v : Int)), (8, .inr (.inl n)), (10, .inl (k : Int))]) (st' := [.inl ((8 * (H1.1 1846 ((6 * l) + v))) + (k : Int)), .inr (.inr 1864), .inr (.inl n)]) rfl ?_
        refine h_lld (c := 1864) (j := (((8 * (H1.1 1846 ((6 * l) + v))) + (k : Int))).toNat) (i := ((8 * (H1.1 1846 ((6 * l) + v))) + (k : Int))) rfl rfl (by decide) (by omega) (by omega) ?_
        have g17 : -9223372036854775808 ≤ (H1.1 1864 (((8 * (H1.1 1846 ((6 * l) + v))) + (k : Int))).toNat) ∧ (H1.1 1864 (((8 * (H1.1 1846 ((6 * l) + v))) + (k : Int))).toNat) ≤ 9223372036854775807 := hrg10.2 1864 (((8 * (H1.1 1846 ((6 * l) + v))) + (k : Int))).toNat 48 .long rfl (by omega)
        refine h_run 0 (pc' := 92) (l' := [(0, .inr (.inr 1826)), (1, .inl (l : Int)), (2, .inl (mo : Int)), (3, .inl al), (4, .inr (.inl rw9)), (6, .inl no), (7, .inl (v : Int)), (8, .inr (.inl n)), (10, .inl (k : Int))]) (st' := [.inr (.inl (H1.1 1864 (((8 * (H1.1 1846 ((6 * l) + v))) + (k : Int))).toNat)), .inr (.inl n)]) rfl ?_
        have ham : 0 ≤ (H1.1 1864 (((8 * (H1.1 1846 ((6 * l) + v))) + (k : Int))).toNat) ∧ (H1.1 1864 (((8 * (H1.1 1846 ((6 * l) + v))) + (k : Int))).toNat) ≤ 1000000 := hMH1 _ (by omega)
        refine h_run 1 (pc' := 93) (l' := [(0, .inr (.inr 1826)), (1, .inl (l : Int)), (2, .inl (mo : Int)), (3, .inl al), (4, .inr (.inl rw9)), (6, .inl no), (7, .inl (v : Int)), (8, .inr (.inl n)), (10, .inl (k : Int))]) (st' := [.inr (.inl (n + (H1.1 1864 (((8 * (H1.1 1846 ((6 * l) + v))) + (k : Int))).toNat)))]) rfl ?_
        refine h_cs (i := 489) (j := 208) (M' := mt_208) (xs := [.inr (.inl (n + (H1.1 1864 (((8 * (H1.1 1846 ((6 * l) + v))) + (k : Int))).toNat)))]) (rest := []) rfl rfl rfl rfl rfl (Nat.le_of_ble_eq_true rfl) (Nat.le_of_ble_eq_true rfl) (by omega) (m_bounded (by omega) (by omega)) ?_
        rintro _ _ ⟨⟨b18, rfl, b18r, b18p, -⟩, rfl⟩
        refine h_run 0 (pc' := 96) (l' := [(0, .inr (.inr 1826)), (1, .inl (l : Int)), (2, .inl (mo : Int)), (3, .inl al), (4, .inr (.inl rw9)), (6, .inl no), (7, .inl (v : Int)), (8, .inr (.inl n)), (10, .inl (k : Int))]) (st' := [.inr (.inl b18)]) rfl ?_
        refine h_run 3 (pc' := 61) (l' := [(0, .inr (.inr 1826)), (1, .inl (l : Int)), (2, .inl (mo : Int)), (3, .inl al), (4, .inr (.inl rw9)), (6, .inl no), (7, .inl (v : Int)), (8, .inr (.inl b18)), (10, .inl ((k : Int) + 1))]) (st' := []) rfl ?_
        rw [show ((k : Int) + 1) = (((k + 1) : Nat) : Int) by omega]
        exact ih.2.1 _ l mo rw9 no v b18 (k + 1) hf (by omega) (by omega) hMH1 hWH1 hTH1 (by omega) hno (by omega) hnz (by omega) (by omega) (fun h9 => by by_cases hs9 : 0 < n; { obtain ⟨i8, y1, y2, y3⟩ := hnk hs9; exact ⟨i8, y1, by omega, y3⟩ }; { exact ⟨k, by omega, by omega, by omega⟩ }) (by omega : 100000000 - 100 * v - 10 - (k + 1) < w)
    · intro H1 l mo rw9 v hf hl hmo hVH1 hTH1 hrw hv hCH1 hz0 hw
      refine h_rng (fun hrg19 => ?_)
      have hPH1 : PWc H1 := PWc_fr hP hf (by decide) (by decide)
      have cAH1 : (H1.1 1830) = (H.1 1830) := hf.2.1 1830 (by decide) (by decide)
      have fAH1 : (H1.1 1833) = (H.1 1833) := hf.2.1 1833 (by decide) (by decide)
      have lVH1 : (H1.1 1845) = (H.1 1845) := hf.2.1 1845 (by decide) (by decide)
      have lTH1 : (H1.1 1846) = (H.1 1846) := hf.2.1 1846 (by decide) (by decide)
      have tyH1 : (H1.1 1826 1) = (H.1 1826 1) := hf.2.2 1 (by decide)
      have cnH1 : (H1.1 1826 3) = (H.1 1826 3) := hf.2.2 3 (by decide)
      have fnH1 : (H1.1 1826 8) = (H.1 1826 8) := hf.2.2 8 (by decide)
      have lnH1 : (H1.1 1826 19) = (H.1 1826 19) := hf.2.2 19 (by decide)
      obtain ⟨⟨pb1, pb2, pb3, pb4, pb5⟩, pw1, pw2, pw3, pw4⟩ := (id hP : PW H (H.1 1826 1) (H.1 1826 3) (H.1 1826 8) (H.1 1826 13) (H.1 1826 19))
      obtain ⟨v9, ⟨lv1, lv2⟩, lv3, lv4⟩ := pw4 l (by omega)
      refine h_run 2 (pc' := 169) (l' := [(0, .inr (.inr 1826)), (1, .inl (l : Int)), (2, .inl (mo : Int)), (3, .inl al), (4, .inr (.inl rw9)), (7, .inl (v : Int))]) (st' := [.inl 6, .inl (v : Int)]) rfl ?_
      refine h_ige (off := 17) (t := 186) rfl rfl (by omega) (by decide) (fun c20 => ?_) (fun c20 => ?_)
      · refine h_run 4 (pc' := 192) (l' := [(0, .inr (.inr 1826)), (1, .inl (l : Int)), (2, .inl (mo : Int)), (3, .inl al), (4, .inr (.inl rw9)), (7, .inl 1), (8, .inl 0)]) (st' := []) rfl ?_
        exact ih.2.2.2.1 _ l mo rw9 (1 : Int) 0 hf (by omega) (by omega) hVH1 hTH1 (fun v8 h8 => by rw [hz0 v8 (by omega)]; exact ⟨Int.le_refl _, hCH1 v8 h8⟩) (by omega) (by decide) (by omega) (by omega : 50000000 - 20 * 0 < w)
      · refine h_run 4 (pc' := 179) (l' := [(0, .inr (.inr 1826)), (1, .inl (l : Int)), (2, .inl (mo : Int)), (3, .inl al), (4, .inr (.inl rw9)), (7, .inl (v : Int))]) (st' := [.inl 0, .inl (v : Int), .inr (.inr 1868)]) rfl ?_
        refine h_ist (c := 1868) (j := v) (i := (v : Int)) (x := 0) rfl rfl (by decide) (by decide) rfl (by omega) (by decide) ?_
        refine h_run 2 (pc' := 165) (l' := [(0, .inr (.inr 1826)), (1, .inl (l : Int)), (2, .inl (mo : Int)), (3, .inl al), (4, .inr (.inl rw9)), (7, .inl ((v : Int) + 1))]) (st' := []) rfl ?_
        rw [show ((v : Int) + 1) = (((v + 1) : Nat) : Int) by omega]
        exact ih.2.2.1 _ l mo rw9 (v + 1) (fr_a hf (by decide)) (by omega) (by omega) hVH1 hTH1 (by omega) (by omega) hCH1 (z0_up hz0) (by omega : 80000000 - (v + 1) < w)
    · intro H1 l mo rw9 dn i hf hl hmo hVH1 hTH1 hNH1 hrw hdn hi hw
      refine h_rng (fun hrg21 => ?_)
      have hPH1 : PWc H1 := PWc_fr hP hf (by decide) (by decide)
      have cAH1 : (H1.1 1830) = (H.1 1830) := hf.2.1 1830 (by decide) (by decide)
      have fAH1 : (H1.1 1833) = (H.1 1833) := hf.2.1 1833 (by decide) (by decide)
      have lVH1 : (H1.1 1845) = (H.1 1845) := hf.2.1 1845 (by decide) (by decide)
      have lTH1 : (H1.1 1846) = (H.1 1846) := hf.2.1 1846 (by decide) (by decide)
      have tyH1 : (H1.1 1826 1) = (H.1 1826 1) := hf.2.2 1 (by decide)
      have cnH1 : (H1.1 1826 3) = (H.1 1826 3) := hf.2.2 3 (by decide)
      have fnH1 : (H1.1 1826 8) = (H.1 1826 8) := hf.2.2 8 (by decide)
      have lnH1 : (H1.1 1826 19) = (H.1 1826 19) := hf.2.2 19 (by decide)
      obtain ⟨⟨pb1, pb2, pb3, pb4, pb5⟩, pw1, pw2, pw3, pw4⟩ := (id hP : PW H (H.1 1826 1) (H.1 1826 3) (H.1 1826 8) (H.1 1826 13) (H.1 1826 19))
      obtain ⟨v9, ⟨lv1, lv2⟩, lv3, lv4⟩ := pw4 l (by omega)
      have hlv9 := congrFun lVH1 l
      refine h_run 4 (pc' := 198) (l' := [(0, .inr (.inr 1826)), (1, .inl (l : Int)), (2, .inl (mo : Int)), (3, .inl al), (4, .inr (.inl rw9)), (7, .inl dn), (8, .inl (i : Int))]) (st' := [.inl (z_cmp (z_i2l (i : Int)) rw9)]) rfl ?_
      have hcm := z_cm (x := z_i2l (i : Int)) (y := rw9) (z_long _) (by omega)
      have hil := z_i2l_e (x := (i : Int)) (by omega)
      refine h_zge (off := 207) (t := 405) rfl rfl (z_int _) (fun c22 => ?_) (fun c22 => ?_)
      · refine h_run 1 (pc' := 407) (l' := [(0, .inr (.inr 1826)), (1, .inl (l : Int)), (2, .inl (mo : Int)), (3, .inl al), (4, .inr (.inl rw9)), (7, .inl dn), (8, .inl (i : Int))]) (st' := [.inl dn]) rfl ?_
        refine h_zeq (off := 7) (t := 414) rfl rfl (by omega) (fun c23 => ?_) (fun c23 => ?_)
        · refine h_run 1 (pc' := 415) (l' := [(0, .inr (.inr 1826)), (1, .inl (l : Int)), (2, .inl (mo : Int)), (3, .inl al), (4, .inr (.inl rw9)), (7, .inl dn), (8, .inl (i : Int))]) (st' := [.inl 2]) rfl ?_
          refine h_reti (x := 2) rfl rfl ?_
          exact ⟨hf, by rw [lnH1, cnH1, fnH1, lVH1, fAH1, cAH1]; exact hTH1, _, rfl⟩
        · refine h_run 2 (pc' := 415) (l' := [(0, .inr (.inr 1826)), (1, .inl (l : Int)), (2, .inl (mo : Int)), (3, .inl al), (4, .inr (.inl rw9)), (7, .inl dn), (8, .inl (i : Int))]) (st' := [.inl 0]) rfl ?_
          refine h_reti (x := 0) rfl rfl ?_
          exact ⟨hf, by rw [lnH1, cnH1, fnH1, lVH1, fAH1, cAH1]; exact hTH1, _, rfl⟩
      · refine h_run 2 (pc' := 203) (l' := [(0, .inr (.inr 1826)), (1, .inl (l : Int)), (2, .inl (mo : Int)), (3, .inl al), (4, .inr (.inl rw9)), (7, .inl dn), (8, .inl (i : Int))]) (st' := [.inl (l : Int), .inr (.inr 1826)]) rfl ?_
        refine h_cv (i := 522) (j := 219) (b := 1826) (M' := mt_219) (xs := [.inl (l : Int)]) (rest := []) rfl rfl rfl rfl rfl rfl (Nat.le_of_ble_eq_true rfl) (Nat.le_of_ble_eq_true rfl) (by omega) (m_row (l := l) (by omega) hPH1 (by omega) hVH1 (by rw [lVH1, lTH1]; exact hNH1)) ?_
        rintro _ H24 ⟨hfH24, rH24, rfl, bH24⟩
        refine h_rng (fun hrg25 => ?_)
        have hf26 : fr [50, 51, 53, 55, 56, 67, 72] [1855, 1856, 1857, 1861, 1862, 1863, 1864, 1865, 1867, 1868, 1869] H H24 := fr_t hf hfH24 (by decide) (by decide)
        have hPH24 : PWc H24 := PWc_fr hP hf26 (by decide) (by decide)
        have cAH24 : (H24.1 1830) = (H.1 1830) := hf26.2.1 1830 (by decide) (by decide)
        have fAH24 : (H24.1 1833) = (H.1 1833) := hf26.2.1 1833 (by decide) (by decide)
        have lVH24 : (H24.1 1845) = (H.1 1845) := hf26.2.1 1845 (by decide) (by decide)
        have lTH24 : (H24.1 1846) = (H.1 1846) := hf26.2.1 1846 (by decide) (by decide)
        have tyH24 : (H24.1 1826 1) = (H.1 1826 1) := hf26.2.2 1 (by decide)
        have cnH24 : (H24.1 1826 3) = (H.1 1826 3) := hf26.2.2 3 (by decide)
        have fnH24 : (H24.1 1826 8) = (H.1 1826 8) := hf26.2.2 8 (by decide)
        have lnH24 : (H24.1 1826 19) = (H.1 1826 19) := hf26.2.2 19 (by decide)
        have hTH24 : TVa (H24.1 1826 67) (H.1 1826 19) (H.1 1826 3) (H.1 1826 8) (H.1 1845) (H.1 1833) (H.1 1830) (H24.1 1867) := by rw [hfH24.2.2 67 (by decide), hfH24.2.1 1867 (by decide) (by decide)]; exact hTH1
        have hVH24 : VK (H24.1 1826 1) (H24.1 1826 3) (H24.1 1826 8) (H24.1 1833) (H24.1 1830) (H24.1 1861) (H24.1 1862) (H24.1 1863) := VK_fr hVH1 hfH24 (by decide) (by decide)
        have hNH24 : NW ((H.1 1845) l) (H.1 1846) (H24.1 1868) (H24.1 1863) l := by rw [hfH24.2.1 1868 (by decide) (by decide), hfH24.2.1 1863 (by decide) (by decide)]; exact hNH1
        refine h_run 0 (pc' := 206) (l' := [(0, .inr (.inr 1826)), (1, .inl (l : Int)), (2, .inl (mo : Int)), (3, .inl al), (4, .inr (.inl rw9)), (7, .inl dn), (8, .inl (i : Int))]) (st' := [.inl rH24]) rfl ?_
        refine h_run 3 (pc' := 211) (l' := [(0, .inr (.inr 1826)), (1, .inl (l : Int)), (2, .inl (mo : Int)), (3, .inl al), (4, .inr (.inl rw9)), (7, .inl dn), (8, .inl (i : Int)), (9, .inl rH24)]) (st' := [.inl 1, .inl rH24]) rfl ?_
        refine h_ine (off := 103) (t := 314) rfl rfl (by omega) (by decide) (fun c27 => ?_) (fun c27 => ?_)
        · refine h_run 2 (pc' := 318) (l' := [(0, .inr (.inr 1826)), (1, .inl (l : Int)), (2, .inl (mo : Int)), (3, .inl al), (4, .inr (.inl rw9)), (7, .inl dn), (8, .inl (i : Int)), (9, .inl rH24)]) (st' := [.inl rH24, .inl dn]) rfl ?_
          refine h_zne (off := 7) (t := 325) rfl rfl (by omega) (fun c28 => ?_) (fun c28 => ?_)
          · refine h_run 1 (pc' := 326) (l' := [(0, .inr (.inr 1826)), (1, .inl (l : Int)), (2, .inl (mo : Int)), (3, .inl al), (4, .inr (.inl rw9)), (7, .inl dn), (8, .inl (i : Int)), (9, .inl rH24)]) (st' := [.inl 0, .inl dn]) rfl ?_
            have hdn9 := z_and_b (x := dn) (y := 0) hdn (by decide)
            refine h_run 5 (pc' := 334) (l' := [(0, .inr (.inr 1826)), (1, .inl (l : Int)), (2, .inl (mo : Int)), (3, .inl al), (4, .inr (.inl rw9)), (7, .inl (z_and dn 0)), (8, .inl (i : Int)), (9, .inl rH24)]) (st' := [.inl (l : Int), .inr (.inr 1845)]) rfl ?_
            refine h_ild (c := 1845) (j := l) (i := (l : Int)) rfl rfl (by decide) rfl (by omega) ?_
            have g29 : -2147483648 ≤ (H24.1 1845 l) ∧ (H24.1 1845 l) ≤ 2147483647 := hrg25.2 1845 l 16 .int rfl (by omega)
            have e30 : (H24.1 1845 l) = (H1.1 1845 l) := congrFun (hfH24.2.1 1845 (by decide) (by decide)) l
            have e31 : (H1.1 1845 l) = (H.1 1845 l) := congrFun (hf.2.1 1845 (by decide) (by decide)) l
            refine h_run 0 (pc' := 335) (l' := [(0, .inr (.inr 1826)), (1, .inl (l : Int)), (2, .inl (mo : Int)), (3, .inl al), (4, .inr (.inl rw9)), (7, .inl (z_and dn 0)), (8, .inl (i : Int)), (9, .inl rH24)]) (st' := [.inl (H24.1 1845 l)]) rfl ?_
            refine h_run 3 (pc' := 339) (l' := [(0, .inr (.inr 1826)), (1, .inl (l : Int)), (2, .inl (mo : Int)), (3, .inl al), (4, .inr (.inl rw9)), (7, .inl (z_and dn 0)), (8, .inl (i : Int)), (9, .inl rH24), (10, .inl ((H24.1 1845 l) - 1))]) (st' := []) rfl ?_
            refine h_loc [0, 1, 2, 3, 4, 7, 8, 10] rfl ?_
            exact ih.2.2.2.2.2.2 _ l mo rw9 (z_and dn 0) i ((H24.1 1845 l) - 1) hf26 (by omega) (by omega) hVH24 hTH24 hNH24 (by omega) hdn9 (by omega) (by omega) (by omega : 50000000 - 20 * i - 10 + (((H24.1 1845 l) - 1) + 1).toNat < w)
          · refine h_run 2 (pc' := 326) (l' := [(0, .inr (.inr 1826)), (1, .inl (l : Int)), (2, .inl (mo : Int)), (3, .inl al), (4, .inr (.inl rw9)), (7, .inl dn), (8, .inl (i : Int)), (9, .inl rH24)]) (st' := [.inl 1, .inl dn]) rfl ?_
            have hdn9 := z_and_b (x := dn) (y := 1) hdn (by decide)
            refine h_run 5 (pc' := 334) (l' := [(0, .inr (.inr 1826)), (1, .inl (l : Int)), (2, .inl (mo : Int)), (3, .inl al), (4, .inr (.inl rw9)), (7, .inl (z_and dn 1)), (8, .inl (i : Int)), (9, .inl rH24)]) (st' := [.inl (l : Int), .inr (.inr 1845)]) rfl ?_
            refine h_ild (c := 1845) (j := l) (i := (l : Int)) rfl rfl (by decide) rfl (by omega) ?_
            have g32 : -2147483648 ≤ (H24.1 1845 l) ∧ (H24.1 1845 l) ≤ 2147483647 := hrg25.2 1845 l 16 .int rfl (by omega)
            have e33 : (H24.1 1845 l) = (H1.1 1845 l) := congrFun (hfH24.2.1 1845 (by decide) (by decide)) l
            have e34 : (H1.1 1845 l) = (H.1 1845 l) := congrFun (hf.2.1 1845 (by decide) (by decide)) l
            refine h_run 0 (pc' := 335) (l' := [(0, .inr (.inr 1826)), (1, .inl (l : Int)), (2, .inl (mo : Int)), (3, .inl al), (4, .inr (.inl rw9)), (7, .inl (z_and dn 1)), (8, .inl (i : Int)), (9, .inl rH24)]) (st' := [.inl (H24.1 1845 l)]) rfl ?_
            refine h_run 3 (pc' := 339) (l' := [(0, .inr (.inr 1826)), (1, .inl (l : Int)), (2, .inl (mo : Int)), (3, .inl al), (4, .inr (.inl rw9)), (7, .inl (z_and dn 1)), (8, .inl (i : Int)), (9, .inl rH24), (10, .inl ((H24.1 1845 l) - 1))]) (st' := []) rfl ?_
            refine h_loc [0, 1, 2, 3, 4, 7, 8, 10] rfl ?_
            exact ih.2.2.2.2.2.2 _ l mo rw9 (z_and dn 1) i ((H24.1 1845 l) - 1) hf26 (by omega) (by omega) hVH24 hTH24 hNH24 (by omega) hdn9 (by omega) (by omega) (by omega : 50000000 - 20 * i - 10 + (((H24.1 1845 l) - 1) + 1).toNat < w)
        · refine h_run 2 (pc' := 216) (l' := [(0, .inr (.inr 1826)), (1, .inl (l : Int)), (2, .inl (mo : Int)), (3, .inl al), (4, .inr (.inl rw9)), (7, .inl dn), (8, .inl (i : Int)), (9, .inl rH24)]) (st' := [.inl (l : Int), .inr (.inr 1826)]) rfl ?_
          refine h_puti (i := 131) (ci := 13) (k := 67) (a := 1826) (x := (l : Int)) rfl rfl rfl rfl rfl rfl (by decide) (by omega) ?_
          refine h_run 2 (pc' := 222) (l' := [(0, .inr (.inr 1826)), (1, .inl (l : Int)), (2, .inl (mo : Int)), (3, .inl al), (4, .inr (.inl rw9)), (7, .inl dn), (8, .inl (i : Int)), (9, .inl rH24), (10, .inl 0)]) (st' := []) rfl ?_
          refine h_loc [0, 1, 2, 3, 10] rfl ?_
          exact ih.2.2.2.2.1 _ l mo 0 (fr_o hf26 (by decide)) (by omega) (by omega) hVH24 hNH24 (by omega : (l : Int) = (l : Int)) (by omega) (fun _ h9 => absurd h9 (Nat.not_lt_zero _)) (by omega : 10000 - 100 * 0 < w)
    · intro H1 l mo v hf hl hmo hVH1 hNH1 htl hv hTP hw
      refine h_rng (fun hrg35 => ?_)
      have hPH1 : PWc H1 := PWc_fr hP hf (by decide) (by decide)
      have cAH1 : (H1.1 1830) = (H.1 1830) := hf.2.1 1830 (by decide) (by decide)
      have fAH1 : (H1.1 1833) = (H.1 1833) := hf.2.1 1833 (by decide) (by decide)
      have lVH1 : (H1.1 1845) = (H.1 1845) := hf.2.1 1845 (by decide) (by decide)
      have lTH1 : (H1.1 1846) = (H.1 1846) := hf.2.1 1846 (by decide) (by decide)
      have tyH1 : (H1.1 1826 1) = (H.1 1826 1) := hf.2.2 1 (by decide)
      have cnH1 : (H1.1 1826 3) = (H.1 1826 3) := hf.2.2 3 (by decide)
      have fnH1 : (H1.1 1826 8) = (H.1 1826 8) := hf.2.2 8 (by decide)
      have lnH1 : (H1.1 1826 19) = (H.1 1826 19) := hf.2.2 19 (by decide)
      obtain ⟨⟨pb1, pb2, pb3, pb4, pb5⟩, pw1, pw2, pw3, pw4⟩ := (id hP : PW H (H.1 1826 1) (H.1 1826 3) (H.1 1826 8) (H.1 1826 13) (H.1 1826 19))
      obtain ⟨v9, ⟨lv1, lv2⟩, lv3, lv4⟩ := pw4 l (by omega)
      have hlv9 := congrFun lVH1 l
      refine h_run 4 (pc' := 229) (l' := [(0, .inr (.inr 1826)), (1, .inl (l : Int)), (2, .inl (mo : Int)), (3, .inl al), (10, .inl (v : Int))]) (st' := [.inl (l : Int), .inr (.inr 1845), .inl (v : Int)]) rfl ?_
      refine h_ild (c := 1845) (j := l) (i := (l : Int)) rfl rfl (by decide) rfl (by omega) ?_
      have g36 : -2147483648 ≤ (H1.1 1845 l) ∧ (H1.1 1845 l) ≤ 2147483647 := hrg35.2 1845 l 16 .int rfl (by omega)
      have e37 : (H1.1 1845 l) = (H.1 1845 l) := congrFun (hf.2.1 1845 (by decide) (by decide)) l
      refine h_run 0 (pc' := 230) (l' := [(0, .inr (.inr 1826)), (1, .inl (l : Int)), (2, .inl (mo : Int)), (3, .inl al), (10, .inl (v : Int))]) (st' := [.inl (H1.1 1845 l), .inl (v : Int)]) rfl ?_
      refine h_ige (off := 82) (t := 312) rfl rfl (by omega) (by omega) (fun c38 => ?_) (fun c38 => ?_)
      · have hTf : TVa (H1.1 1826 67) (H.1 1826 19) (H.1 1826 3) (H.1 1826 8) (H.1 1845) (H.1 1833) (H.1 1830) (H1.1 1867) := Or.inr ⟨l, htl, hl, fun v8 h8 => hTP v8 (by omega)⟩
        refine h_run 1 (pc' := 313) (l' := [(0, .inr (.inr 1826)), (1, .inl (l : Int)), (2, .inl (mo : Int)), (3, .inl al), (10, .inl (v : Int))]) (st' := [.inl 1]) rfl ?_
        refine h_reti (x := 1) rfl rfl ?_
        exact ⟨hf, by rw [lnH1, cnH1, fnH1, lVH1, fAH1, cAH1]; exact hTf, _, rfl⟩
      · have hlt := lv3 v (by omega)
        have hnw := hNH1 v (by omega)
        obtain ⟨tt, htt⟩ : ∃ q8 : Nat, (H.1 1846) (6 * l + v) = (q8 : Int) := ⟨((H.1 1846) (6 * l + v)).toNat, by omega⟩
        rw [htt, Int.toNat_natCast] at hnw
        obtain ⟨nn, hnn⟩ : ∃ q8 : Nat, (H1.1 1868) v = (q8 : Int) := ⟨((H1.1 1868) v).toNat, by omega⟩
        obtain ⟨mv, mv1, mv2, mv3⟩ := hVH1 tt (by omega)
        obtain ⟨kv, kv1, kv2, kv3⟩ := mv3 nn (by omega)
        have hlt8 := congrFun lTH1 (6 * l + v)
        refine h_run 8 (pc' := 247) (l' := [(0, .inr (.inr 1826)), (1, .inl (l : Int)), (2, .inl (mo : Int)), (3, .inl al), (10, .inl (v : Int))]) (st' := [.inl ((6 * (l : Int)) + (v : Int)), .inr (.inr 1846), .inl 2001]) rfl ?_
        refine h_ild (c := 1846) (j := ((6 * l) + v)) (i := ((6 * (l : Int)) + (v : Int))) rfl rfl (by decide) (by omega) (by omega) ?_
        have g39 : -2147483648 ≤ (H1.1 1846 ((6 * l) + v)) ∧ (H1.1 1846 ((6 * l) + v)) ≤ 2147483647 := hrg35.2 1846 ((6 * l) + v) 96 .int rfl (by omega)
        have e40 : (H1.1 1846 ((6 * l) + v)) = (H.1 1846 ((6 * l) + v)) := congrFun (hf.2.1 1846 (by decide) (by decide)) ((6 * l) + v)
        refine h_run 0 (pc' := 248) (l' := [(0, .inr (.inr 1826)), (1, .inl (l : Int)), (2, .inl (mo : Int)), (3, .inl al), (10, .inl (v : Int))]) (st' := [.inl (H1.1 1846 ((6 * l) + v)), .inl 2001]) rfl ?_
        refine h_run 4 (pc' := 255) (l' := [(0, .inr (.inr 1826)), (1, .inl (l : Int)), (2, .inl (mo : Int)), (3, .inl al), (10, .inl (v : Int))]) (st' := [.inl (v : Int), .inr (.inr 1868), .inl (2001 * (H1.1 1846 ((6 * l) + v)))]) rfl ?_
        refine h_ild (c := 1868) (j := v) (i := (v : Int)) rfl rfl (by decide) rfl (by omega) ?_
        have g41 : -2147483648 ≤ (H1.1 1868 v) ∧ (H1.1 1868 v) ≤ 2147483647 := hrg35.2 1868 v 6 .int rfl (by omega)
        refine h_run 0 (pc' := 256) (l' := [(0, .inr (.inr 1826)), (1, .inl (l : Int)), (2, .inl (mo : Int)), (3, .inl al), (10, .inl (v : Int))]) (st' := [.inl (H1.1 1868 v), .inl (2001 * (H1.1 1846 ((6 * l) + v)))]) rfl ?_
        refine h_run 4 (pc' := 262) (l' := [(0, .inr (.inr 1826)), (1, .inl (l : Int)), (2, .inl (mo : Int)), (3, .inl al), (10, .inl (v : Int)), (11, .inl ((2001 * (H1.1 1846 ((6 * l) + v))) + (H1.1 1868 v))), (12, .inl 0)]) (st' := []) rfl ?_
        have g42 : -2147483648 ≤ (H1.1 1826 67) ∧ (H1.1 1826 67) ≤ 2147483647 := hrg35.1 1826 13 67 _ .int rfl rfl
        rw [show ((2001 * (H1.1 1846 ((6 * l) + v))) + (H1.1 1868 v)) = (((((2001 * (H1.1 1846 ((6 * l) + v))) + (H1.1 1868 v))).toNat : Nat) : Int) by omega]
        exact ih.2.2.2.2.2.1 _ l mo v (((2001 * (H1.1 1846 ((6 * l) + v))) + (H1.1 1868 v))).toNat 0 (kv) hf (by omega) (by omega) hVH1 hNH1 (by omega : (H1.1 1826 67) = (l : Int)) (by omega) hTP (by omega) (by omega) ⟨by rw [show (2001 * _ + _ : Int).toNat = 2001 * tt + nn by omega]; exact kv1, kv2⟩ (by rw [show (2001 * _ + _ : Int).toNat = 2001 * tt + nn by omega]; have h9 := kv3; rw [fAH1, cAH1, cnH1, fnH1] at h9; exact h9) (fun _ h8 => absurd h8 (Nat.not_lt_zero _)) (by omega : 10000 - 100 * v - 10 - 0 < w)
    · intro H1 l mo v q x9 z hf hl hmo hVH1 hNH1 htl hv hTP hx hq hz hvt hcp hw
      refine h_rng (fun hrg43 => ?_)
      have hPH1 : PWc H1 := PWc_fr hP hf (by decide) (by decide)
      have cAH1 : (H1.1 1830) = (H.1 1830) := hf.2.1 1830 (by decide) (by decide)
      have fAH1 : (H1.1 1833) = (H.1 1833) := hf.2.1 1833 (by decide) (by decide)
      have lVH1 : (H1.1 1845) = (H.1 1845) := hf.2.1 1845 (by decide) (by decide)
      have lTH1 : (H1.1 1846) = (H.1 1846) := hf.2.1 1846 (by decide) (by decide)
      have tyH1 : (H1.1 1826 1) = (H.1 1826 1) := hf.2.2 1 (by decide)
      have cnH1 : (H1.1 1826 3) = (H.1 1826 3) := hf.2.2 3 (by decide)
      have fnH1 : (H1.1 1826 8) = (H.1 1826 8) := hf.2.2 8 (by decide)
      have lnH1 : (H1.1 1826 19) = (H.1 1826 19) := hf.2.2 19 (by decide)
      obtain ⟨⟨pb1, pb2, pb3, pb4, pb5⟩, pw1, pw2, pw3, pw4⟩ := (id hP : PW H (H.1 1826 1) (H.1 1826 3) (H.1 1826 8) (H.1 1826 13) (H.1 1826 19))
      obtain ⟨v9, ⟨lv1, lv2⟩, lv3, lv4⟩ := pw4 l (by omega)
      have hlv9 := congrFun lVH1 l
      refine h_run 4 (pc' := 270) (l' := [(0, .inr (.inr 1826)), (1, .inl (l : Int)), (2, .inl (mo : Int)), (3, .inl al), (10, .inl (v : Int)), (11, .inl (q : Int)), (12, .inl (x9 : Int))]) (st' := [.inl (q : Int), .inr (.inr 1862), .inl (x9 : Int)]) rfl ?_
      refine h_ild (c := 1862) (j := q) (i := (q : Int)) rfl rfl (by decide) rfl (by omega) ?_
      have g44 : -2147483648 ≤ (H1.1 1862 q) ∧ (H1.1 1862 q) ≤ 2147483647 := hrg43.2 1862 q 12006 .int rfl (by omega)
      refine h_run 0 (pc' := 271) (l' := [(0, .inr (.inr 1826)), (1, .inl (l : Int)), (2, .inl (mo : Int)), (3, .inl al), (10, .inl (v : Int)), (11, .inl (q : Int)), (12, .inl (x9 : Int))]) (st' := [.inl (H1.1 1862 q), .inl (x9 : Int)]) rfl ?_
      refine h_ige (off := 35) (t := 306) rfl rfl (by omega) (by omega) (fun c45 => ?_) (fun c45 => ?_)
      · refine h_run 2 (pc' := 222) (l' := [(0, .inr (.inr 1826)), (1, .inl (l : Int)), (2, .inl (mo : Int)), (3, .inl al), (10, .inl ((v : Int) + 1)), (11, .inl (q : Int)), (12, .inl (x9 : Int))]) (st' := []) rfl ?_
        have g46 : -2147483648 ≤ (H1.1 1826 67) ∧ (H1.1 1826 67) ≤ 2147483647 := hrg43.1 1826 13 67 _ .int rfl rfl
        refine h_loc [0, 1, 2, 3, 10] rfl ?_
        rw [show ((v : Int) + 1) = (((v + 1) : Nat) : Int) by omega]
        exact ih.2.2.2.2.1 _ l mo (v + 1) hf (by omega) (by omega) hVH1 hNH1 (by omega : (H1.1 1826 67) = (l : Int)) (by omega) (TP_s hTP hz.2 (tm_at hvt (fun y8 h8 => hcp y8 (by omega)))) (by omega : 10000 - 100 * (v + 1) < w)
      · refine h_run 14 (pc' := 298) (l' := [(0, .inr (.inr 1826)), (1, .inl (l : Int)), (2, .inl (mo : Int)), (3, .inl al), (10, .inl (v : Int)), (11, .inl (q : Int)), (12, .inl (x9 : Int))]) (st' := [.inl ((7 * (q : Int)) + (x9 : Int)), .inr (.inr 1861), .inl ((7 * (v : Int)) + (x9 : Int)), .inr (.inr 1867)]) rfl ?_
        refine h_ild (c := 1861) (j := ((7 * q) + x9)) (i := ((7 * (q : Int)) + (x9 : Int))) rfl rfl (by decide) (by omega) (by omega) ?_
        have g47 : -2147483648 ≤ (H1.1 1861 ((7 * q) + x9)) ∧ (H1.1 1861 ((7 * q) + x9)) ≤ 2147483647 := hrg43.2 1861 ((7 * q) + x9) 84042 .int rfl (by omega)
        refine h_run 0 (pc' := 299) (l' := [(0, .inr (.inr 1826)), (1, .inl (l : Int)), (2, .inl (mo : Int)), (3, .inl al), (10, .inl (v : Int)), (11, .inl (q : Int)), (12, .inl (x9 : Int))]) (st' := [.inl (H1.1 1861 ((7 * q) + x9)), .inl ((7 * (v : Int)) + (x9 : Int)), .inr (.inr 1867)]) rfl ?_
        refine h_ist (c := 1867) (j := ((7 * v) + x9)) (i := ((7 * (v : Int)) + (x9 : Int))) (x := (H1.1 1861 ((7 * q) + x9))) rfl rfl (by decide) (by decide) (by omega) (by omega) (by omega) ?_
        refine h_run 2 (pc' := 262) (l' := [(0, .inr (.inr 1826)), (1, .inl (l : Int)), (2, .inl (mo : Int)), (3, .inl al), (10, .inl (v : Int)), (11, .inl (q : Int)), (12, .inl ((x9 : Int) + 1))]) (st' := []) rfl ?_
        have g48 : -2147483648 ≤ (H1.1 1826 67) ∧ (H1.1 1826 67) ≤ 2147483647 := hrg43.1 1826 13 67 _ .int rfl rfl
        rw [show ((x9 : Int) + 1) = (((x9 + 1) : Nat) : Int) by omega]
        exact ih.2.2.2.2.2.1 _ l mo v q (x9 + 1) (z) (fr_a hf (by decide)) (by omega) (by omega) hVH1 hNH1 (by omega : (H1.1 1826 67) = (l : Int)) (by omega) (TP_up hTP (by omega)) (by omega) (by omega) hz hvt (pv_up hcp rfl rfl) (by omega : 10000 - 100 * v - 10 - (x9 + 1) < w)
    · intro H1 l mo rw9 dn i vv hf hl hmo hVH1 hTH1 hNH1 hrw hdn hi hvv hw
      refine h_rng (fun hrg49 => ?_)
      have hPH1 : PWc H1 := PWc_fr hP hf (by decide) (by decide)
      have cAH1 : (H1.1 1830) = (H.1 1830) := hf.2.1 1830 (by decide) (by decide)
      have fAH1 : (H1.1 1833) = (H.1 1833) := hf.2.1 1833 (by decide) (by decide)
      have lVH1 : (H1.1 1845) = (H.1 1845) := hf.2.1 1845 (by decide) (by decide)
      have lTH1 : (H1.1 1846) = (H.1 1846) := hf.2.1 1846 (by decide) (by decide)
      have tyH1 : (H1.1 1826 1) = (H.1 1826 1) := hf.2.2 1 (by decide)
      have cnH1 : (H1.1 1826 3) = (H.1 1826 3) := hf.2.2 3 (by decide)
      have fnH1 : (H1.1 1826 8) = (H.1 1826 8) := hf.2.2 8 (by decide)
      have lnH1 : (H1.1 1826 19) = (H.1 1826 19) := hf.2.2 19 (by decide)
      obtain ⟨⟨pb1, pb2, pb3, pb4, pb5⟩, pw1, pw2, pw3, pw4⟩ := (id hP : PW H (H.1 1826 1) (H.1 1826 3) (H.1 1826 8) (H.1 1826 13) (H.1 1826 19))
      obtain ⟨v9, ⟨lv1, lv2⟩, lv3, lv4⟩ := pw4 l (by omega)
      have hlv9 := congrFun lVH1 l
      refine h_run 1 (pc' := 341) (l' := [(0, .inr (.inr 1826)), (1, .inl (l : Int)), (2, .inl (mo : Int)), (3, .inl al), (4, .inr (.inl rw9)), (7, .inl dn), (8, .inl (i : Int)), (10, .inl vv)]) (st' := [.inl vv]) rfl ?_
      refine h_zlt (off := 58) (t := 399) rfl rfl (by omega) (fun c50 => ?_) (fun c50 => ?_)
      · refine h_run 2 (pc' := 192) (l' := [(0, .inr (.inr 1826)), (1, .inl (l : Int)), (2, .inl (mo : Int)), (3, .inl al), (4, .inr (.inl rw9)), (7, .inl dn), (8, .inl ((i : Int) + 1)), (10, .inl vv)]) (st' := []) rfl ?_
        refine h_loc [0, 1, 2, 3, 4, 7, 8] rfl ?_
        rw [show ((i : Int) + 1) = (((i + 1) : Nat) : Int) by omega]
        exact ih.2.2.2.1 _ l mo rw9 dn (i + 1) hf (by omega) (by omega) hVH1 hTH1 hNH1 (by omega) hdn (by omega) (by omega : 50000000 - 20 * (i + 1) < w)
      · obtain ⟨v, hv⟩ : ∃ k9 : Nat, vv = (k9 : Int) := ⟨(vv).toNat, by omega⟩
        rw [show vv = (v : Int) from hv]
        have hlt := lv3 v (by omega)
        have hnw := hNH1 v (by omega)
        have hlt8 := congrFun lTH1 (6 * l + v)
        obtain ⟨tt, htt⟩ : ∃ q8 : Nat, (H.1 1846) (6 * l + v) = (q8 : Int) := ⟨((H.1 1846) (6 * l + v)).toNat, by omega⟩
        have hnt : ((H.1 1846) (6 * l + v)).toNat = tt := by omega
        rw [hnt] at hnw
        obtain ⟨mv, mv1, mv2, -⟩ := hVH1 tt (by omega)
        have hvq : (H1.1 1863) ((H1.1 1846) (6 * l + v)).toNat = (H1.1 1863) tt := by rw [show ((H1.1 1846) (6 * l + v)).toNat = tt by omega]
        refine h_run 4 (pc' := 351) (l' := [(0, .inr (.inr 1826)), (1, .inl (l : Int)), (2, .inl (mo : Int)), (3, .inl al), (4, .inr (.inl rw9)), (7, .inl dn), (8, .inl (i : Int)), (10, .inl (v : Int))]) (st' := [.inl (v : Int), .inr (.inr 1868), .inl (v : Int), .inr (.inr 1868)]) rfl ?_
        refine h_ild (c := 1868) (j := v) (i := (v : Int)) rfl rfl (by decide) rfl (by omega) ?_
        have g51 : -2147483648 ≤ (H1.1 1868 v) ∧ (H1.1 1868 v) ≤ 2147483647 := hrg49.2 1868 v 6 .int rfl (by omega)
        refine h_run 0 (pc' := 352) (l' := [(0, .inr (.inr 1826)), (1, .inl (l : Int)), (2, .inl (mo : Int)), (3, .inl al), (4, .inr (.inl rw9)), (7, .inl dn), (8, .inl (i : Int)), (10, .inl (v : Int))]) (st' := [.inl (H1.1 1868 v), .inl (v : Int), .inr (.inr 1868)]) rfl ?_
        refine h_run 2 (pc' := 354) (l' := [(0, .inr (.inr 1826)), (1, .inl (l : Int)), (2, .inl (mo : Int)), (3, .inl al), (4, .inr (.inl rw9)), (7, .inl dn), (8, .inl (i : Int)), (10, .inl (v : Int))]) (st' := [.inl ((H1.1 1868 v) + 1), .inl (v : Int), .inr (.inr 1868)]) rfl ?_
        refine h_ist (c := 1868) (j := v) (i := (v : Int)) (x := ((H1.1 1868 v) + 1)) rfl rfl (by decide) (by decide) rfl (by omega) (by omega) ?_
        refine h_run 3 (pc' := 361) (l' := [(0, .inr (.inr 1826)), (1, .inl (l : Int)), (2, .inl (mo : Int)), (3, .inl al), (4, .inr (.inl rw9)), (7, .inl dn), (8, .inl (i : Int)), (10, .inl (v : Int))]) (st' := [.inl (v : Int), .inr (.inr 1868)]) rfl ?_
        refine h_ild (c := 1868) (j := v) (i := (v : Int)) rfl rfl (by decide) rfl (by omega) ?_
        rw [show (zu H1 1868 (up (H1.1 1868) v ((H1.1 1868 v) + 1))).1 1868 v = ((H1.1 1868 v) + 1) from (show up _ v _ v = _ from up_eq _ _ _)]
        refine h_run 0 (pc' := 362) (l' := [(0, .inr (.inr 1826)), (1, .inl (l : Int)), (2, .inl (mo : Int)), (3, .inl al), (4, .inr (.inl rw9)), (7, .inl dn), (8, .inl (i : Int)), (10, .inl (v : Int))]) (st' := [.inl ((H1.1 1868 v) + 1)]) rfl ?_
        refine h_run 9 (pc' := 377) (l' := [(0, .inr (.inr 1826)), (1, .inl (l : Int)), (2, .inl (mo : Int)), (3, .inl al), (4, .inr (.inl rw9)), (7, .inl dn), (8, .inl (i : Int)), (10, .inl (v : Int))]) (st' := [.inl ((6 * (l : Int)) + (v : Int)), .inr (.inr 1846), .inr (.inr 1863), .inl ((H1.1 1868 v) + 1)]) rfl ?_
        refine h_ild (c := 1846) (j := ((6 * l) + v)) (i := ((6 * (l : Int)) + (v : Int))) rfl rfl (by decide) (by omega) (by omega) ?_
        have g52 : -2147483648 ≤ (H1.1 1846 ((6 * l) + v)) ∧ (H1.1 1846 ((6 * l) + v)) ≤ 2147483647 := hrg49.2 1846 ((6 * l) + v) 96 .int rfl (by omega)
        have e53 : (H1.1 1846 ((6 * l) + v)) = (H.1 1846 ((6 * l) + v)) := congrFun (hf.2.1 1846 (by decide) (by decide)) ((6 * l) + v)
        refine h_run 0 (pc' := 378) (l' := [(0, .inr (.inr 1826)), (1, .inl (l : Int)), (2, .inl (mo : Int)), (3, .inl al), (4, .inr (.inl rw9)), (7, .inl dn), (8, .inl (i : Int)), (10, .inl (v : Int))]) (st' := [.inl (H1.1 1846 ((6 * l) + v)), .inr (.inr 1863), .inl ((H1.1 1868 v) + 1)]) rfl ?_
        refine h_ild (c := 1863) (j := ((H1.1 1846 ((6 * l) + v))).toNat) (i := (H1.1 1846 ((6 * l) + v))) rfl rfl (by decide) (by omega) (by omega) ?_
        have g54 : -2147483648 ≤ (H1.1 1863 ((H1.1 1846 ((6 * l) + v))).toNat) ∧ (H1.1 1863 ((H1.1 1846 ((6 * l) + v))).toNat) ≤ 2147483647 := hrg49.2 1863 ((H1.1 1846 ((6 * l) + v))).toNat 6 .int rfl (by omega)
        refine h_run 0 (pc' := 379) (l' := [(0, .inr (.inr 1826)), (1, .inl (l : Int)), (2, .inl (mo : Int)), (3, .inl al), (4, .inr (.inl rw9)), (7, .inl dn), (8, .inl (i : Int)), (10, .inl (v : Int))]) (st' := [.inl (H1.1 1863 ((H1.1 1846 ((6 * l) + v))).toNat), .inl ((H1.1 1868 v) + 1)]) rfl ?_
        refine h_ige (off := 6) (t := 385) rfl rfl (by omega) (by omega) (fun c55 => ?_) (fun c55 => ?_)
        · have hN9 : NW ((H.1 1845) l) (H.1 1846) (up (up (H1.1 1868) v ((H1.1 1868) v + 1)) v 0) (H1.1 1863) l := by rw [up_up]; exact NW_up (y := 0) hNH1 (by rw [hnt]; omega)
          refine h_run 4 (pc' := 392) (l' := [(0, .inr (.inr 1826)), (1, .inl (l : Int)), (2, .inl (mo : Int)), (3, .inl al), (4, .inr (.inl rw9)), (7, .inl dn), (8, .inl (i : Int)), (10, .inl (v : Int))]) (st' := [.inl 0, .inl (v : Int), .inr (.inr 1868)]) rfl ?_
          refine h_ist (c := 1868) (j := v) (i := (v : Int)) (x := 0) rfl rfl (by decide) (by decide) rfl (by omega) (by decide) ?_
          refine h_run 2 (pc' := 339) (l' := [(0, .inr (.inr 1826)), (1, .inl (l : Int)), (2, .inl (mo : Int)), (3, .inl al), (4, .inr (.inl rw9)), (7, .inl dn), (8, .inl (i : Int)), (10, .inl ((v : Int) + (-1)))]) (st' := []) rfl ?_
          exact ih.2.2.2.2.2.2 _ l mo rw9 dn i ((v : Int) + (-1)) (fr_a (fr_a hf (by decide)) (by decide)) (by omega) (by omega) hVH1 hTH1 hN9 (by omega) hdn (by omega) (by omega) (by omega : 50000000 - 20 * i - 10 + (((v : Int) + (-1)) + 1).toNat < w)
        · have hN9 := NW_up (y := (H1.1 1868) v + 1) hNH1 (by rw [hnt]; omega)
          refine h_run 3 (pc' := 192) (l' := [(0, .inr (.inr 1826)), (1, .inl (l : Int)), (2, .inl (mo : Int)), (3, .inl al), (4, .inr (.inl rw9)), (7, .inl dn), (8, .inl ((i : Int) + 1)), (10, .inl (v : Int))]) (st' := []) rfl ?_
          refine h_loc [0, 1, 2, 3, 4, 7, 8] rfl ?_
          rw [show ((i : Int) + 1) = (((i + 1) : Nat) : Int) by omega]
          exact ih.2.2.2.1 _ l mo rw9 dn (i + 1) (fr_a hf (by decide)) (by omega) (by omega) hVH1 hTH1 hN9 (by omega) hdn (by omega) (by omega : 50000000 - 20 * (i + 1) < w)
set_option maxRecDepth 100000 in
theorem m_test {zC : Nat → Option zsh} {d : Nat} (hd : 12 ≤ d) {H : hp} {x y al : Int} (hP : PWc H) (hT : TVa (H.1 1826 67) (H.1 1826 19) (H.1 1826 3) (H.1 1826 8) (H.1 1845) (H.1 1833) (H.1 1830) (H.1 1867)) (hal : 0 ≤ al ∧ al ≤ 1) (hx : -2147483648 ≤ x ∧ x ≤ 2147483647) (hy : -2147483648 ≤ y ∧ y ≤ 2147483647) : hG (zs zC) d mt_218 0 (zargs 0 [.inr (.inr 1826), .inl x, .inl y, .inl al]) [] H (fun r9 H2 => fr [50, 51, 53, 55, 56, 67, 72] [1855, 1856, 1857, 1861, 1862, 1863, 1864, 1865, 1867, 1868, 1869] H H2 ∧ TVa (H2.1 1826 67) (H2.1 1826 19) (H2.1 1826 3) (H2.1 1826 8) (H2.1 1845) (H2.1 1833) (H2.1 1830) (H2.1 1867) ∧ ∃ r0 : Int, r9 = some (.inl r0)) := by
  refine h_rng (fun hrg0 => ?_)
  refine h_run 0 (pc' := 0) (l' := [(0, .inr (.inr 1826)), (1, .inl x), (2, .inl y), (3, .inl al)]) (st' := []) rfl ?_
  obtain ⟨⟨pb1, pb2, pb3, pb4, pb5⟩, pw1, pw2, pw3, pw4⟩ := (id hP : PW H (H.1 1826 1) (H.1 1826 3) (H.1 1826 8) (H.1 1826 13) (H.1 1826 19))
  have hTH := hT
  refine h_run 1 (pc' := 1) (l' := [(0, .inr (.inr 1826)), (1, .inl x), (2, .inl y), (3, .inl al)]) (st' := [.inl x]) rfl ?_
  refine h_zlt (off := 11) (t := 12) rfl rfl (by omega) (fun c56 => ?_) (fun c56 => ?_)
  · refine h_run 1 (pc' := 14) (l' := [(0, .inr (.inr 1826)), (1, .inl x), (2, .inl y), (3, .inl al)]) (st' := [.inl (-101)]) rfl ?_
    refine h_reti (x := (-101)) rfl rfl ?_
    exact ⟨(fr_rf _ _ _), hT, _, rfl⟩
  · refine h_run 3 (pc' := 9) (l' := [(0, .inr (.inr 1826)), (1, .inl x), (2, .inl y), (3, .inl al)]) (st' := [.inl (H.1 1826 19), .inl x]) rfl ?_
    have g57 : -2147483648 ≤ (H.1 1826 19) ∧ (H.1 1826 19) ≤ 2147483647 := hrg0.1 1826 13 19 _ .int rfl rfl
    refine h_ilt (off := 6) (t := 15) rfl rfl (by omega) (by omega) (fun c58 => ?_) (fun c58 => ?_)
    · refine h_run 2 (pc' := 17) (l' := [(0, .inr (.inr 1826)), (1, .inl x), (2, .inl y), (3, .inl al)]) (st' := [.inl 1, .inl y]) rfl ?_
      refine h_ilt (off := 9) (t := 26) rfl rfl (by omega) (by decide) (fun c59 => ?_) (fun c59 => ?_)
      · refine h_run 1 (pc' := 28) (l' := [(0, .inr (.inr 1826)), (1, .inl x), (2, .inl y), (3, .inl al)]) (st' := [.inl (-102)]) rfl ?_
        refine h_reti (x := (-102)) rfl rfl ?_
        exact ⟨(fr_rf _ _ _), hT, _, rfl⟩
      · refine h_run 2 (pc' := 23) (l' := [(0, .inr (.inr 1826)), (1, .inl x), (2, .inl y), (3, .inl al)]) (st' := [.inl 6, .inl y]) rfl ?_
        refine h_ile (off := 6) (t := 29) rfl rfl (by omega) (by decide) (fun c60 => ?_) (fun c60 => ?_)
        · obtain ⟨l, hl⟩ : ∃ k9 : Nat, x = (k9 : Int) := ⟨(x).toNat, by omega⟩
          rw [show x = (l : Int) from hl]
          obtain ⟨mo, hmo⟩ : ∃ k9 : Nat, y = (k9 : Int) := ⟨(y).toNat, by omega⟩
          rw [show y = (mo : Int) from hmo]
          obtain ⟨v9, ⟨lv1, lv2⟩, lv3, lv4⟩ := pw4 l (by omega)
          refine h_run 3 (pc' := 32) (l' := [(0, .inr (.inr 1826)), (1, .inl (l : Int)), (2, .inl (mo : Int)), (3, .inl al)]) (st' := [.inl al, .inl (mo : Int), .inr (.inr 1826)]) rfl ?_
          refine h_cv (i := 514) (j := 209) (b := 1826) (M' := mt_209) (xs := [.inl al, .inl (mo : Int)]) (rest := []) rfl rfl rfl rfl rfl rfl (Nat.le_of_ble_eq_true rfl) (Nat.le_of_ble_eq_true rfl) (by omega) (m_countValues (by omega) hP (by omega) hal) ?_
          rintro _ H61 ⟨rfl, hfH61, hMH61, hWH61⟩
          refine h_rng (fun hrg62 => ?_)
          have hf63 : fr [50, 51, 53, 55, 56, 67, 72] [1855, 1856, 1857, 1861, 1862, 1863, 1864, 1865, 1867, 1868, 1869] H H61 := fr_t (fr_rf _ _ _) hfH61 (by decide) (by decide)
          have hPH61 : PWc H61 := PWc_fr hP hf63 (by decide) (by decide)
          have cAH61 : (H61.1 1830) = (H.1 1830) := hf63.2.1 1830 (by decide) (by decide)
          have fAH61 : (H61.1 1833) = (H.1 1833) := hf63.2.1 1833 (by decide) (by decide)
          have lVH61 : (H61.1 1845) = (H.1 1845) := hf63.2.1 1845 (by decide) (by decide)
          have lTH61 : (H61.1 1846) = (H.1 1846) := hf63.2.1 1846 (by decide) (by decide)
          have tyH61 : (H61.1 1826 1) = (H.1 1826 1) := hf63.2.2 1 (by decide)
          have cnH61 : (H61.1 1826 3) = (H.1 1826 3) := hf63.2.2 3 (by decide)
          have fnH61 : (H61.1 1826 8) = (H.1 1826 8) := hf63.2.2 8 (by decide)
          have lnH61 : (H61.1 1826 19) = (H.1 1826 19) := hf63.2.2 19 (by decide)
          have hTH61 : TVa (H61.1 1826 67) (H.1 1826 19) (H.1 1826 3) (H.1 1826 8) (H.1 1845) (H.1 1833) (H.1 1830) (H61.1 1867) := by rw [hfH61.2.2 67 (by decide), hfH61.2.1 1867 (by decide) (by decide)]; exact hTH
          refine h_run 0 (pc' := 35) (l' := [(0, .inr (.inr 1826)), (1, .inl (l : Int)), (2, .inl (mo : Int)), (3, .inl al)]) (st' := []) rfl ?_
          refine h_run 6 (pc' := 44) (l' := [(0, .inr (.inr 1826)), (1, .inl (l : Int)), (2, .inl (mo : Int)), (3, .inl al), (4, .inr (.inl 1)), (6, .inl 0), (7, .inl 0)]) (st' := []) rfl ?_
          exact (m_test_cut hd hP hT hal hx hy _).1 _ l mo (1 : Int) (0 : Int) 0 hf63 (by omega) (by omega) hMH61 hWH61 hTH61 (by omega) (by decide) (by omega) (fun _ u9 h9 => absurd h9 (Nat.not_lt_zero _)) (Nat.lt_succ_self _)
        · refine h_run 1 (pc' := 28) (l' := [(0, .inr (.inr 1826)), (1, .inl x), (2, .inl y), (3, .inl al)]) (st' := [.inl (-102)]) rfl ?_
          refine h_reti (x := (-102)) rfl rfl ?_
          exact ⟨(fr_rf _ _ _), hT, _, rfl⟩
    · refine h_run 1 (pc' := 14) (l' := [(0, .inr (.inr 1826)), (1, .inl x), (2, .inl y), (3, .inl al)]) (st' := [.inl (-101)]) rfl ?_
      refine h_reti (x := (-101)) rfl rfl ?_
      exact ⟨(fr_rf _ _ _), hT, _, rfl⟩

/-! told -/
set_option maxRecDepth 100000 in
theorem m_told_cut {zC : Nat → Option zsh} {d : Nat} (hd : 4 ≤ d) {H : hp} {x : Int} (hP : PWc H) (hT : TVa (H.1 1826 67) (H.1 1826 19) (H.1 1826 3) (H.1 1826 8) (H.1 1845) (H.1 1833) (H.1 1830) (H.1 1867)) (hou : 0 ≤ (H.1 1826 59) ∧ (H.1 1826 59) ≤ 8000) (hx : -2147483648 ≤ x ∧ x ≤ 2147483647) : ∀ w : Nat, (∀ (H1 : hp) (v : Nat) (i : Nat) (kt : Nat), (fr [59] [1858, 1859, 1860, 1870] H H1) → (1 ≤ kt ∧ kt ≤ 6) → (tm (ma (H.1 1833) (H.1 1830)) (m_sg (H.1 1826 3) (H.1 1826 8) 0) (H.1 1867) kt (7 * v) 1) → (v < 6) → (i ≤ 7) → (∀ y, y < i → (H1.1 1870) y = (H.1 1867) (7 * v + y)) → 100 - i < w → hG (zs zC) d mt_220 33 [(0, .inr (.inr 1826)), (1, .inl (v : Int)), (2, .inl (i : Int))] [] H1 (fun r9 H2 => fr [59] [1858, 1859, 1860, 1870] H H2 ∧ (0 ≤ (H2.1 1826 59) ∧ (H2.1 1826 59) ≤ 8000) ∧ ∃ r0 : Int, r9 = some (.inl r0))) := by
  intro w
  induction w with
  | zero => exact fun _ _ _ _ _ _ _ _ _ _ h => absurd h (Nat.not_lt_zero _)
  | succ w ih =>
    intro H1 v i kt hf hkt ht3 hv hi hcp hw
    refine h_rng (fun hrg1 => ?_)
    obtain ⟨⟨pb1, pb2, pb3, pb4, pb5⟩, pw1, pw2, pw3, pw4⟩ := (id hP : PW H (H.1 1826 1) (H.1 1826 3) (H.1 1826 8) (H.1 1826 13) (H.1 1826 19))
    refine h_run 2 (pc' := 36) (l' := [(0, .inr (.inr 1826)), (1, .inl (v : Int)), (2, .inl (i : Int))]) (st' := [.inl 7, .inl (i : Int)]) rfl ?_
    refine h_ige (off := 26) (t := 62) rfl rfl (by omega) (by decide) (fun c2 => ?_) (fun c2 => ?_)
    · refine h_run 4 (pc' := 68) (l' := [(0, .inr (.inr 1826)), (1, .inl (v : Int)), (2, .inl (i : Int))]) (st' := [.inl 0, .inr (.inr 1870), .inr (.inr 1826)]) rfl ?_
      have hP1 : PWc H1 := PWc_fr hP hf (by decide) (by decide)
      have qe2 : (H1.1 1826 3) = (H.1 1826 3) := hf.2.2 3 (by decide)
      have qe3 : (H1.1 1826 8) = (H.1 1826 8) := hf.2.2 8 (by decide)
      have qe4 : (H1.1 1833) = (H.1 1833) := hf.2.1 1833 (by decide) (by decide)
      have qe5 : (H1.1 1830) = (H.1 1830) := hf.2.1 1830 (by decide) (by decide)
      refine h_cv (i := 466) (j := 206) (b := 1826) (M' := mt_206) (xs := [.inl 0, .inr (.inr 1870)]) (rest := []) rfl rfl rfl rfl rfl rfl (Nat.le_of_ble_eq_true rfl) (Nat.le_of_ble_eq_true rfl) (by omega) (m_print2 (c := 1870) (n := 400) (k := kt) (ok := m_sg (H.1 1826 3) (H.1 1826 8) 0) (by omega) rfl (by decide) (by decide) (fun s9 h9 => by unfold m_sg at h9; unfold sg0; omega) hP1 (by rw [qe4, qe5]; exact tm_at ht3 (fun y8 h8 => by rw [Nat.zero_add]; exact hcp y8 (by omega))) ⟨by omega, by omega⟩) ?_
      rintro _ H3 ⟨rfl, hfH3, hoH3⟩
      refine h_rng (fun hrg4 => ?_)
      have hf5 : fr [59] [1858, 1859, 1860, 1870] H H3 := fr_t hf hfH3 (by decide) (by decide)
      refine h_run 0 (pc' := 71) (l' := [(0, .inr (.inr 1826)), (1, .inl (v : Int)), (2, .inl (i : Int))]) (st' := []) rfl ?_
      refine h_run 2 (pc' := 75) (l' := [(0, .inr (.inr 1826)), (1, .inl (v : Int)), (2, .inl (i : Int))]) (st' := [.inl (H3.1 1826 59)]) rfl ?_
      have g6 : -2147483648 ≤ (H3.1 1826 59) ∧ (H3.1 1826 59) ≤ 2147483647 := hrg4.1 1826 13 59 _ .int rfl rfl
      refine h_reti (x := (H3.1 1826 59)) rfl rfl ?_
      exact ⟨hf5, (by omega : 0 ≤ (H3.1 1826 59) ∧ (H3.1 1826 59) ≤ 8000), _, rfl⟩
    · refine h_run 10 (pc' := 54) (l' := [(0, .inr (.inr 1826)), (1, .inl (v : Int)), (2, .inl (i : Int))]) (st' := [.inl ((7 * (v : Int)) + (i : Int)), .inr (.inr 1867), .inl (i : Int), .inr (.inr 1870)]) rfl ?_
      refine h_ild (c := 1867) (j := ((7 * v) + i)) (i := ((7 * (v : Int)) + (i : Int))) rfl rfl (by decide) (by omega) (by omega) ?_
      have g7 : -2147483648 ≤ (H1.1 1867 ((7 * v) + i)) ∧ (H1.1 1867 ((7 * v) + i)) ≤ 2147483647 := hrg1.2 1867 ((7 * v) + i) 42 .int rfl (by omega)
      have e8 : (H1.1 1867 ((7 * v) + i)) = (H.1 1867 ((7 * v) + i)) := congrFun (hf.2.1 1867 (by decide) (by decide)) ((7 * v) + i)
      refine h_run 0 (pc' := 55) (l' := [(0, .inr (.inr 1826)), (1, .inl (v : Int)), (2, .inl (i : Int))]) (st' := [.inl (H1.1 1867 ((7 * v) + i)), .inl (i : Int), .inr (.inr 1870)]) rfl ?_
      refine h_ist (c := 1870) (j := i) (i := (i : Int)) (x := (H1.1 1867 ((7 * v) + i))) rfl rfl (by decide) (by decide) rfl (by omega) (by omega) ?_
      refine h_run 2 (pc' := 33) (l' := [(0, .inr (.inr 1826)), (1, .inl (v : Int)), (2, .inl ((i : Int) + 1))]) (st' := []) rfl ?_
      rw [show ((i : Int) + 1) = (((i + 1) : Nat) : Int) by omega]
      exact ih _ v (i + 1) (kt) (fr_a hf (by decide)) (by omega) ht3 (by omega) (by omega) (fun y8 h8 => by by_cases e8 : y8 = i; { rw [e8]; exact (up_eq _ _ _).trans (congrFun (hf.2.1 1867 (by decide) (by decide)) _) }; { exact (up_ne _ _ e8).trans (hcp y8 (by omega)) }) (by omega : 100 - (i + 1) < w)
set_option maxRecDepth 100000 in
theorem m_told {zC : Nat → Option zsh} {d : Nat} (hd : 4 ≤ d) {H : hp} {x : Int} (hP : PWc H) (hT : TVa (H.1 1826 67) (H.1 1826 19) (H.1 1826 3) (H.1 1826 8) (H.1 1845) (H.1 1833) (H.1 1830) (H.1 1867)) (hou : 0 ≤ (H.1 1826 59) ∧ (H.1 1826 59) ≤ 8000) (hx : -2147483648 ≤ x ∧ x ≤ 2147483647) : hG (zs zC) d mt_220 0 (zargs 0 [.inr (.inr 1826), .inl x]) [] H (fun r9 H2 => fr [59] [1858, 1859, 1860, 1870] H H2 ∧ (0 ≤ (H2.1 1826 59) ∧ (H2.1 1826 59) ≤ 8000) ∧ ∃ r0 : Int, r9 = some (.inl r0)) := by
  refine h_rng (fun hrg0 => ?_)
  refine h_run 0 (pc' := 0) (l' := [(0, .inr (.inr 1826)), (1, .inl x)]) (st' := []) rfl ?_
  obtain ⟨⟨pb1, pb2, pb3, pb4, pb5⟩, pw1, pw2, pw3, pw4⟩ := (id hP : PW H (H.1 1826 1) (H.1 1826 3) (H.1 1826 8) (H.1 1826 13) (H.1 1826 19))
  refine h_run 2 (pc' := 4) (l' := [(0, .inr (.inr 1826)), (1, .inl x)]) (st' := [.inl (H.1 1826 67)]) rfl ?_
  have g9 : -2147483648 ≤ (H.1 1826 67) ∧ (H.1 1826 67) ≤ 2147483647 := hrg0.1 1826 13 67 _ .int rfl rfl
  refine h_run 1 (pc' := 5) (l' := [(0, .inr (.inr 1826)), (1, .inl x)]) (st' := [.inl (-1), .inl (H.1 1826 67)]) rfl ?_
  refine h_ine (off := 6) (t := 11) rfl rfl (by omega) (by decide) (fun c10 => ?_) (fun c10 => ?_)
  · obtain ⟨l, htl, hl, hTv⟩ : ∃ l : Nat, (H.1 1826 67) = (l : Int) ∧ (l : Int) < (H.1 1826 19) ∧ ∀ v : Nat, (v : Int) < (H.1 1845) l → ∃ k : Nat, (1 ≤ k ∧ k ≤ 6) ∧ tm (ma (H.1 1833) (H.1 1830)) (m_sg (H.1 1826 3) (H.1 1826 8) 0) (H.1 1867) k (7 * v) 1 := by rcases hT with h9 | h9; { exact absurd h9 (by omega) }; { exact h9 }
    obtain ⟨v9, ⟨lv1, lv2⟩, lv3, lv4⟩ := pw4 l (by omega)
    refine h_run 1 (pc' := 12) (l' := [(0, .inr (.inr 1826)), (1, .inl x)]) (st' := [.inl x]) rfl ?_
    refine h_zlt (off := 16) (t := 28) rfl rfl (by omega) (fun c11 => ?_) (fun c11 => ?_)
    · refine h_run 1 (pc' := 30) (l' := [(0, .inr (.inr 1826)), (1, .inl x)]) (st' := [.inl (-101)]) rfl ?_
      refine h_reti (x := (-101)) rfl rfl ?_
      have g12 : -2147483648 ≤ (H.1 1826 59) ∧ (H.1 1826 59) ≤ 2147483647 := hrg0.1 1826 13 59 _ .int rfl rfl
      exact ⟨(fr_rf _ _ _), (by omega : 0 ≤ (H.1 1826 59) ∧ (H.1 1826 59) ≤ 8000), _, rfl⟩
    · refine h_run 5 (pc' := 24) (l' := [(0, .inr (.inr 1826)), (1, .inl x)]) (st' := [.inl (H.1 1826 67), .inr (.inr 1845), .inl x]) rfl ?_
      rw [show (H.1 1826 67) = (l : Int) by omega]
      refine h_ild (c := 1845) (j := l) (i := (l : Int)) rfl rfl (by decide) rfl (by omega) ?_
      have g13 : -2147483648 ≤ (H.1 1845 l) ∧ (H.1 1845 l) ≤ 2147483647 := hrg0.2 1845 l 16 .int rfl (by omega)
      refine h_run 0 (pc' := 25) (l' := [(0, .inr (.inr 1826)), (1, .inl x)]) (st' := [.inl (H.1 1845 l), .inl x]) rfl ?_
      refine h_ilt (off := 6) (t := 31) rfl rfl (by omega) (by omega) (fun c14 => ?_) (fun c14 => ?_)
      · obtain ⟨v, hv⟩ : ∃ k9 : Nat, x = (k9 : Int) := ⟨(x).toNat, by omega⟩
        rw [show x = (v : Int) from hv]
        obtain ⟨kt, kt1, ht3⟩ := hTv v (by omega)
        refine h_run 2 (pc' := 33) (l' := [(0, .inr (.inr 1826)), (1, .inl (v : Int)), (2, .inl 0)]) (st' := []) rfl ?_
        exact (m_told_cut hd hP hT hou hx _) _ v 0 (kt) (fr_rf _ _ _) (by omega) ht3 (by omega) (by omega) (fun _ h8 => absurd h8 (Nat.not_lt_zero _)) (Nat.lt_succ_self _)
      · refine h_run 1 (pc' := 30) (l' := [(0, .inr (.inr 1826)), (1, .inl x)]) (st' := [.inl (-101)]) rfl ?_
        refine h_reti (x := (-101)) rfl rfl ?_
        have g15 : -2147483648 ≤ (H.1 1826 59) ∧ (H.1 1826 59) ≤ 2147483647 := hrg0.1 1826 13 59 _ .int rfl rfl
        exact ⟨(fr_rf _ _ _), (by omega : 0 ≤ (H.1 1826 59) ∧ (H.1 1826 59) ≤ 8000), _, rfl⟩
  · refine h_run 1 (pc' := 10) (l' := [(0, .inr (.inr 1826)), (1, .inl x)]) (st' := [.inl (-103)]) rfl ?_
    refine h_reti (x := (-103)) rfl rfl ?_
    have g16 : -2147483648 ≤ (H.1 1826 59) ∧ (H.1 1826 59) ≤ 2147483647 := hrg0.1 1826 13 59 _ .int rfl rfl
    exact ⟨(fr_rf _ _ _), (by omega : 0 ≤ (H.1 1826 59) ∧ (H.1 1826 59) ≤ 8000), _, rfl⟩
