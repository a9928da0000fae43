/-! the reference works: its faults are the machine's -/
def xw (X : rx) : rx := xu (xu X 0 2 0) 0 8 2
theorem xw_s (X : rx) : xw X 0 0 = X 0 0 ∧ xw X 0 2 = 0 ∧ xw X 0 8 = 2 ∧ sT X (xw X) := ⟨by unfold xw; rw [xu_0 _ _ (by omega), xu_0 _ _ (by omega)], by unfold xw; rw [xu_0 _ _ (by omega), xu_1], by unfold xw; rw [xu_1], sT_tr (sT_x0 X _ (Or.inl (by decide))) (sT_x0 _ _ (Or.inr (by decide)))⟩
/-- the signs that were read -/
def rowX (X : rx) : List Int := sl (X 13) 0 (X 0 2).toNat
theorem row_at {X : rx} {k x : Nat} (h : X 0 2 = ((k : Nat) : Int)) (hx : x < k) : ga (rowX X) x = X 13 x := by
  unfold rowX
  rw [sl_at (X 13) (by omega), Nat.zero_add]
theorem MK_row {X : rx} {k : Nat} {m : Nat → Int} (h : X 0 2 = ((k : Nat) : Int)) (g : ∀ x, x < k → m x = X 13 x) : MK m k (rowX X) := ⟨by unfold rowX; rw [sl_len]; omega, fun x hx => by rw [g x hx, row_at h hx]⟩
theorem ev_b {ar : Int → Int} {X : rx} : ∀ {s : Nat} {l : List Int} {t : Int}, 0 ≤ (evF ar X s l t).1 ∧ (evF ar X s l t).1 ≤ 2
  | 0, l, t => by
    show 0 ≤ (if fc l = l.length then 0 else 1 : Int) ∧ (if fc l = l.length then 0 else 1 : Int) ≤ 2
    split <;> decide
  | s + 1, l, t => by
    unfold evF
    split
    · exact ⟨(by decide : (0 : Int) ≤ 0), (by decide : (0 : Int) ≤ 2)⟩
    · split
      · exact ⟨(by decide : (0 : Int) ≤ 2), (by decide : (2 : Int) ≤ 2)⟩
      · exact ev_b
theorem VR_work {K : hp} {X : rx} (h1 : (K.1 1826 40) = 0) (h2 : (K.1 1826 44) = 3) : VR K (xw X) := by
  obtain ⟨-, y2, y8, -⟩ := xw_s X
  exact ⟨⟨by omega, by omega, by omega⟩, fun q => absurd y8 q⟩
/-- work: outside, worked out, or a fault -/
def RQV (Y : yx) (X : rx) (x : Int) (H K : hp) (r0 : Int) : Prop := ((x < 0 ∨ 2000 < x) ∧ r0 = -102 ∧ (K.1 1826 57) = (H.1 1826 57)) ∨ ((0 ≤ x ∧ x ≤ 2000) ∧ ((∃ (X1 : rx) (l2 : List Int), rch Y ([(2, -1, 0, 0), (1, 0, 0, 0)], xw X) ([(1, 0, 0, 0)], X1) ∧ tk Y (xi X1) = 0 ∧ evF (ma (H.1 1833) (H.1 1830)) X x.toNat (rowX X1) 0 = (r0, (K.1 1826 57), l2) ∧ (∃ k : Nat, X1 0 2 = ((k : Nat) : Int) ∧ k ≤ 40 ∧ tm (ma (H.1 1833) (H.1 1830)) (m_sg (H.1 1826 3) (H.1 1826 8) 0) (ga (rowX X1)) k 0 1) ∧ X1 4 = X 4 ∧ X1 8 = X 8 ∧ X1 0 6 = X 0 6) ∨ ∃ (Xf : rx) (k p : Int), rch Y ([(2, -1, 0, 0), (1, 0, 0, 0)], xw X) ([(0, k, p, 0)], Xf) ∧ r0 = -1000 - p ∧ (K.1 1826 57) = (H.1 1826 57)))

/-! work -/
set_option maxRecDepth 100000 in
theorem n_workx_cut {zC : Nat → Option zsh} {d : Nat} (hd : 9 ≤ d) {H : hp} {x : Int} {Y : yx} {X : rx} {m : Int} (hx : -2147483648 ≤ x ∧ x ≤ 2147483647) (ht : 0 ≤ (H.1 1826 28) ∧ (H.1 1826 28) ≤ 1000) (hst : 0 ≤ (H.1 1826 32) ∧ (H.1 1826 32) ≤ 1000) (hP : PWc H) (hou : 0 ≤ (H.1 1826 59) ∧ (H.1 1826 59) ≤ 8000) (hB : TB Y H) (h00 : X 0 0 = 0) (hmf : (H.1 1826 8) = m) (hT : TA m H X) (hX : RZ9 H X) : ∀ w : Nat, (∀ (H1 : hp) (k : Nat) (i : Nat) (X1 : rx), (fr [28, 29, 30, 31, 32, 33, 34, 35, 36, 39, 40, 41, 43, 44, 47, 50, 51, 53, 55, 56, 57, 59] [1849, 1850, 1851, 1852, 1853, 1854, 1855, 1856, 1857, 1858, 1859, 1860] H H1) → ((H1.1 1826 55) = ((k : Nat) : Int) ∧ (H1.1 1826 43) = ((k : Nat) : Int) ∧ k ≤ 40) → ((H1.1 1826 28) = 0) → (0 ≤ (H1.1 1826 59) ∧ (H1.1 1826 59) ≤ 8000) → (0 ≤ (H1.1 1826 32) ∧ (H1.1 1826 32) ≤ 1000) → ((H1.1 1826 34) = (H.1 1826 34)) → (0 ≤ x ∧ x ≤ 2000) → (i ≤ k) → (tm (ma (H.1 1833) (H.1 1830)) (m_sg (H.1 1826 3) (H.1 1826 8) 0) (H1.1 1851) k 0 1) → (∀ x, x < i → (H1.1 1857) (0 + x) = (H1.1 1851) x) → ((H1.1 1826 57) = (H.1 1826 57)) → (rch Y ([(2, -1, 0, 0), (1, 0, 0, 0)], xw X) ([(1, 0, 0, 0)], X1) ∧ tk Y (xi X1) = 0 ∧ X1 0 2 = ((k : Nat) : Int) ∧ (∀ x, x < k → (H1.1 1851) x = X1 13 x) ∧ X1 4 = X 4 ∧ X1 8 = X 8 ∧ X1 0 6 = X 0 6) → k - i < w → hG (zs zC) d mt_201 98 [(0, .inr (.inr 1826)), (1, .inl x), (2, .inl (i : Int))] [] H1 (fun r9 H2 => (∃ r0 : Int, r9 = some (.inl r0)) ∧ fr [28, 29, 30, 31, 32, 33, 34, 35, 36, 39, 40, 41, 43, 44, 47, 50, 51, 53, 55, 56, 57, 59] [1849, 1850, 1851, 1852, 1853, 1854, 1855, 1856, 1857, 1858, 1859, 1860] H H2 ∧ (H2.1 1826 28) = 0 ∧ (0 ≤ (H2.1 1826 32) ∧ (H2.1 1826 32) ≤ 1000) ∧ (0 ≤ (H2.1 1826 59) ∧ (H2.1 1826 59) ≤ 8000) ∧ ∃ r0 : Int, r9 = some (.inl r0) ∧ RQV Y X x H H2 r0)) := by
  intro w
  induction w with
  | zero => exact fun _ _ _ _ _ _ _ _ _ _ _ _ _ _ _ _ h => absurd h (Nat.not_lt_zero _)
  | succ w ih =>
    intro H1 k i X1 hf hz htp hou1 hst1 hfk hxr hi hrt hcp hls hWE hw
    refine h_rng (fun hrg1 => ?_)
    obtain ⟨⟨pb1, pb2, pb3, pb4, pb5⟩, pw1, pw2, pw3, pw4⟩ := (id hP : PW H (H.1 1826 1) (H.1 1826 3) (H.1 1826 8) (H.1 1826 13) (H.1 1826 19))
    have e_funArity : (H1.1 1833) = (H.1 1833) := hf.2.1 1833 (by decide) (by decide)
    have e_conArity : (H1.1 1830) = (H.1 1830) := hf.2.1 1830 (by decide) (by decide)
    have f_cons : (H1.1 1826 3) = (H.1 1826 3) := hf.2.2 3 (by decide)
    have f_funs : (H1.1 1826 8) = (H.1 1826 8) := hf.2.2 8 (by decide)
    have hP1 := PWc_fr hP hf (by decide) (by decide)
    refine h_run 3 (pc' := 103) (l' := [(0, .inr (.inr 1826)), (1, .inl x), (2, .inl (i : Int))]) (st' := [.inl (H1.1 1826 43), .inl (i : Int)]) rfl ?_
    have g2 : -2147483648 ≤ (H1.1 1826 43) ∧ (H1.1 1826 43) ≤ 2147483647 := hrg1.1 1826 13 43 _ .int rfl rfl
    refine h_ige (off := 21) (t := 124) rfl rfl (by omega) (by omega) (fun c3 => ?_) (fun c3 => ?_)
    · refine h_run 2 (pc' := 126) (l' := [(0, .inr (.inr 1826)), (1, .inl x), (2, .inl (i : Int))]) (st' := [.inl x, .inr (.inr 1826)]) rfl ?_
      refine h_cv (i := 460) (j := 200) (b := 1826) (M' := mt_200) (xs := [.inl x]) (rest := []) rfl rfl rfl rfl rfl rfl (Nat.le_of_ble_eq_true rfl) (Nat.le_of_ble_eq_true rfl) (by omega) (n_run (by omega) (N := k) (X := X) (l := rowX X1) (by omega) hP1 (RZ9_fr hX hf (by decide) (by decide)) (by omega : (H1.1 1826 55) = ((k : Nat) : Int) ∧ k ≤ 240) (MK_row hWE.2.2.1 (fun x hx => by have q9 := hcp x (by omega); rw [Nat.zero_add] at q9; rw [q9]; exact hWE.2.2.2.1 x hx)) (by rw [e_funArity, e_conArity, f_cons, f_funs]; exact tm_at hrt (fun x hx => by rw [Nat.zero_add, row_at hWE.2.2.1 (by omega)]; exact (hWE.2.2.2.1 x (by omega)).symm))) ?_
      rintro _ H4 ⟨hx4f, hx4r, rfl, hx4M, hx4l, hx4e, hx4z, hx4m, hx4k, hx4t⟩
      refine h_rng (fun hrg5 => ?_)
      have hf6 : fr [28, 29, 30, 31, 32, 33, 34, 35, 36, 39, 40, 41, 43, 44, 47, 50, 51, 53, 55, 56, 57, 59] [1849, 1850, 1851, 1852, 1853, 1854, 1855, 1856, 1857, 1858, 1859, 1860] H H4 := fr_t hf hx4f (by decide) (by decide)
      rw [e_funArity, e_conArity] at hx4e hx4t
      rw [f_cons, f_funs] at hx4t
      have hx4b := ev_b (ar := (ma (H.1 1833) (H.1 1830))) (X := X) (s := x.toNat) (l := rowX X1) (t := 0)
      rw [hx4e] at hx4b
      replace hx4e : hid _ := hx4e
      refine h_run 0 (pc' := 129) (l' := [(0, .inr (.inr 1826)), (1, .inl x), (2, .inl (i : Int))]) (st' := [.inl hx4r]) rfl ?_
      refine h_run 4 (pc' := 135) (l' := [(0, .inr (.inr 1826)), (1, .inl x), (2, .inl hx4r)]) (st' := [.inl (H4.1 1826 56), .inr (.inr 1826)]) rfl ?_
      have g7 : -2147483648 ≤ (H4.1 1826 56) ∧ (H4.1 1826 56) ≤ 2147483647 := hrg5.1 1826 13 56 _ .int rfl rfl
      refine h_puti (i := 463) (ci := 13) (k := 57) (a := 1826) (x := (H4.1 1826 56)) rfl rfl rfl rfl rfl rfl (by decide) (by omega) ?_
      refine h_run 4 (pc' := 144) (l' := [(0, .inr (.inr 1826)), (1, .inl x), (2, .inl hx4r)]) (st' := [.inl 0, .inr (.inr 1857), .inr (.inr 1826)]) rfl ?_
      refine h_cv (i := 466) (j := 206) (b := 1826) (M' := mt_206) (xs := [.inl 0, .inr (.inr 1857)]) (rest := []) rfl rfl rfl rfl rfl rfl (Nat.le_of_ble_eq_true rfl) (Nat.le_of_ble_eq_true rfl) (by omega) (m_print2 (by omega) (c := 1857) (n := 400) (k := hx4M) (ok := m_sg (H.1 1826 3) (H.1 1826 8) 0) rfl (by decide) (by decide) (fun s9 h9 => by unfold m_sg at h9; unfold sg0; omega) (PWc_o (PWc_fr hP1 hx4f (by decide) (by decide)) (by decide)) (by show tm (ma (H4.1 1833) (H4.1 1830)) (m_sg (H.1 1826 3) (H.1 1826 8) 0) (H4.1 1857) hx4M 0 1; rw [show (H4.1 1833) = (H1.1 1833) from hx4f.2.1 1833 (by decide) (by decide), show (H4.1 1830) = (H1.1 1830) from hx4f.2.1 1830 (by decide) (by decide), e_funArity, e_conArity]; exact tm_at hx4t (fun x hx => by rw [Nat.zero_add]; exact hx4k.2 x hx)) (by omega)) ?_
      rintro _ H8 ⟨rfl, hx8f, hx8o⟩
      refine h_rng (fun hrg9 => ?_)
      have hf10 : fr [28, 29, 30, 31, 32, 33, 34, 35, 36, 39, 40, 41, 43, 44, 47, 50, 51, 53, 55, 56, 57, 59] [1849, 1850, 1851, 1852, 1853, 1854, 1855, 1856, 1857, 1858, 1859, 1860] H H8 := fr_t (fr_o hf6 (by decide)) hx8f (by decide) (by decide)
      refine h_run 0 (pc' := 147) (l' := [(0, .inr (.inr 1826)), (1, .inl x), (2, .inl hx4r)]) (st' := []) rfl ?_
      refine h_run 1 (pc' := 148) (l' := [(0, .inr (.inr 1826)), (1, .inl x), (2, .inl hx4r)]) (st' := [.inl hx4r]) rfl ?_
      refine h_reti (x := hx4r) rfl rfl ?_
      have g11 : -2147483648 ≤ (H8.1 1826 28) ∧ (H8.1 1826 28) ≤ 2147483647 := hrg9.1 1826 13 28 _ .int rfl rfl
      have e12 : (H8.1 1826 28) = (H4.1 1826 28) := hx8f.2.2 28 (by decide)
      have e13 : (H4.1 1826 28) = (H1.1 1826 28) := hx4f.2.2 28 (by decide)
      have g14 : -2147483648 ≤ (H8.1 1826 32) ∧ (H8.1 1826 32) ≤ 2147483647 := hrg9.1 1826 13 32 _ .int rfl rfl
      have e15 : (H8.1 1826 32) = (H4.1 1826 32) := hx8f.2.2 32 (by decide)
      have e16 : (H4.1 1826 32) = (H1.1 1826 32) := hx4f.2.2 32 (by decide)
      have g17 : -2147483648 ≤ (H8.1 1826 59) ∧ (H8.1 1826 59) ≤ 2147483647 := hrg9.1 1826 13 59 _ .int rfl rfl
      have g18 : -2147483648 ≤ (H8.1 1826 34) ∧ (H8.1 1826 34) ≤ 2147483647 := hrg9.1 1826 13 34 _ .int rfl rfl
      have e19 : (H8.1 1826 34) = (H4.1 1826 34) := hx8f.2.2 34 (by decide)
      have e20 : (H4.1 1826 34) = (H1.1 1826 34) := hx4f.2.2 34 (by decide)
      have g21 : -2147483648 ≤ (H8.1 1826 57) ∧ (H8.1 1826 57) ≤ 2147483647 := hrg9.1 1826 13 57 _ .int rfl rfl
      have e22 : (H8.1 1826 57) = (H4.1 1826 56) := hx8f.2.2 57 (by decide)
      exact ⟨⟨_, rfl⟩, hf10, (by omega : (H8.1 1826 28) = 0), (by omega : 0 ≤ (H8.1 1826 32) ∧ (H8.1 1826 32) ≤ 1000), (by omega : 0 ≤ (H8.1 1826 59) ∧ (H8.1 1826 59) ≤ 8000), ⟨_, rfl, (Or.inr ⟨by omega, Or.inl ⟨X1, _, hWE.1, hWE.2.1, (by rw [show (H8.1 1826 57) = (H4.1 1826 56) by omega]; exact (id hx4e : _ = _)), ⟨k, hWE.2.2.1, by omega, tm_at hrt (fun x hx => by rw [Nat.zero_add, row_at hWE.2.2.1 (by omega)]; exact (hWE.2.2.2.1 x (by omega)).symm)⟩, hWE.2.2.2.2⟩⟩)⟩⟩
    · refine h_run 6 (pc' := 116) (l' := [(0, .inr (.inr 1826)), (1, .inl x), (2, .inl (i : Int))]) (st' := [.inl (i : Int), .inr (.inr 1851), .inl (i : Int), .inr (.inr 1857)]) rfl ?_
      refine h_ild (c := 1851) (j := i) (i := (i : Int)) rfl rfl (by decide) rfl (by omega) ?_
      have g23 : -2147483648 ≤ (H1.1 1851 i) ∧ (H1.1 1851 i) ≤ 2147483647 := hrg1.2 1851 i 48 .int rfl (by omega)
      refine h_run 0 (pc' := 117) (l' := [(0, .inr (.inr 1826)), (1, .inl x), (2, .inl (i : Int))]) (st' := [.inl (H1.1 1851 i), .inl (i : Int), .inr (.inr 1857)]) rfl ?_
      refine h_ist (c := 1857) (j := i) (i := (i : Int)) (x := (H1.1 1851 i)) rfl rfl (by decide) (by decide) rfl (by omega) (by omega) ?_
      refine h_run 2 (pc' := 98) (l' := [(0, .inr (.inr 1826)), (1, .inl x), (2, .inl ((i : Int) + 1))]) (st' := []) rfl ?_
      have g24 : -2147483648 ≤ (H1.1 1826 55) ∧ (H1.1 1826 55) ≤ 2147483647 := hrg1.1 1826 13 55 _ .int rfl rfl
      have g25 : -2147483648 ≤ (H1.1 1826 28) ∧ (H1.1 1826 28) ≤ 2147483647 := hrg1.1 1826 13 28 _ .int rfl rfl
      have g26 : -2147483648 ≤ (H1.1 1826 32) ∧ (H1.1 1826 32) ≤ 2147483647 := hrg1.1 1826 13 32 _ .int rfl rfl
      have g27 : -2147483648 ≤ (H1.1 1826 57) ∧ (H1.1 1826 57) ≤ 2147483647 := hrg1.1 1826 13 57 _ .int rfl rfl
      have g28 : -2147483648 ≤ (H1.1 1826 59) ∧ (H1.1 1826 59) ≤ 2147483647 := hrg1.1 1826 13 59 _ .int rfl rfl
      have g29 : -2147483648 ≤ (H1.1 1826 34) ∧ (H1.1 1826 34) ≤ 2147483647 := hrg1.1 1826 13 34 _ .int rfl rfl
      rw [show ((i : Int) + 1) = (((i + 1) : Nat) : Int) by omega]
      exact ih _ (k) (i + 1) (X1) (fr_a hf (by decide)) (by omega : (H1.1 1826 55) = (((k) : Nat) : Int) ∧ (H1.1 1826 43) = (((k) : Nat) : Int) ∧ (k) ≤ 40) (by omega : (H1.1 1826 28) = 0) (by omega : 0 ≤ (H1.1 1826 59) ∧ (H1.1 1826 59) ≤ 8000) (by omega : 0 ≤ (H1.1 1826 32) ∧ (H1.1 1826 32) ≤ 1000) (by omega : (H1.1 1826 34) = (H.1 1826 34)) (by omega) (by omega) hrt (by have h9 := cp_up hcp; rw [Nat.zero_add] at h9; exact h9) (by omega : (H1.1 1826 57) = (H.1 1826 57)) hWE (by omega : (k) - (i + 1) < w)
set_option maxRecDepth 100000 in
theorem n_workx {zC : Nat → Option zsh} {d : Nat} (hd : 9 ≤ d) {H : hp} {x : Int} {Y : yx} {X : rx} {m : Int} (hx : -2147483648 ≤ x ∧ x ≤ 2147483647) (ht : 0 ≤ (H.1 1826 28) ∧ (H.1 1826 28) ≤ 1000) (hst : 0 ≤ (H.1 1826 32) ∧ (H.1 1826 32) ≤ 1000) (hP : PWc H) (hou : 0 ≤ (H.1 1826 59) ∧ (H.1 1826 59) ≤ 8000) (hB : TB Y H) (h00 : X 0 0 = 0) (hmf : (H.1 1826 8) = m) (hT : TA m H X) (hX : RZ9 H X) : hG (zs zC) d mt_201 0 (zargs 0 [.inr (.inr 1826), .inl x]) [] H (fun r9 H2 => (∃ r0 : Int, r9 = some (.inl r0)) ∧ fr [28, 29, 30, 31, 32, 33, 34, 35, 36, 39, 40, 41, 43, 44, 47, 50, 51, 53, 55, 56, 57, 59] [1849, 1850, 1851, 1852, 1853, 1854, 1855, 1856, 1857, 1858, 1859, 1860] H H2 ∧ (H2.1 1826 28) = 0 ∧ (0 ≤ (H2.1 1826 32) ∧ (H2.1 1826 32) ≤ 1000) ∧ (0 ≤ (H2.1 1826 59) ∧ (H2.1 1826 59) ≤ 8000) ∧ ∃ r0 : Int, r9 = some (.inl r0) ∧ RQV Y X x H H2 r0) := by
  refine h_rng (fun hrg0 => ?_)
  refine h_run 0 (pc' := 0) (l' := [(0, .inr (.inr 1826)), (1, .inl x)]) (st' := []) rfl ?_
  obtain ⟨⟨pb1, pb2, pb3, pb4, pb5⟩, pw1, pw2, pw3, pw4⟩ := (id hP : PW H (H.1 1826 1) (H.1 1826 3) (H.1 1826 8) (H.1 1826 13) (H.1 1826 19))
  refine h_run 1 (pc' := 1) (l' := [(0, .inr (.inr 1826)), (1, .inl x)]) (st' := [.inl x]) rfl ?_
  refine h_zlt (off := 10) (t := 11) rfl rfl (by omega) (fun c30 => ?_) (fun c30 => ?_)
  · refine h_run 2 (pc' := 13) (l' := [(0, .inr (.inr 1826)), (1, .inl x)]) (st' := [.inl 0, .inr (.inr 1826)]) rfl ?_
    refine h_puti (i := 393) (ci := 13) (k := 28) (a := 1826) (x := 0) rfl rfl rfl rfl rfl rfl (by decide) (by decide) ?_
    refine h_run 1 (pc' := 18) (l' := [(0, .inr (.inr 1826)), (1, .inl x)]) (st' := [.inl (-102)]) rfl ?_
    refine h_reti (x := (-102)) rfl rfl ?_
    have g31 : -2147483648 ≤ (H.1 1826 32) ∧ (H.1 1826 32) ≤ 2147483647 := hrg0.1 1826 13 32 _ .int rfl rfl
    have g32 : -2147483648 ≤ (H.1 1826 59) ∧ (H.1 1826 59) ≤ 2147483647 := hrg0.1 1826 13 59 _ .int rfl rfl
    have g33 : -2147483648 ≤ (H.1 1826 34) ∧ (H.1 1826 34) ≤ 2147483647 := hrg0.1 1826 13 34 _ .int rfl rfl
    have g34 : -2147483648 ≤ (H.1 1826 57) ∧ (H.1 1826 57) ≤ 2147483647 := hrg0.1 1826 13 57 _ .int rfl rfl
    exact ⟨⟨_, rfl⟩, (fr_o (fr_rf _ _ _) (by decide)), (by omega : (0 : Int) = 0), (by omega : 0 ≤ (H.1 1826 32) ∧ (H.1 1826 32) ≤ 1000), (by omega : 0 ≤ (H.1 1826 59) ∧ (H.1 1826 59) ≤ 8000), ⟨_, rfl, (Or.inl ⟨by omega, by omega, (by omega : (H.1 1826 57) = (H.1 1826 57))⟩)⟩⟩
  · refine h_run 2 (pc' := 8) (l' := [(0, .inr (.inr 1826)), (1, .inl x)]) (st' := [.inl 2000, .inl x]) rfl ?_
    refine h_ile (off := 11) (t := 19) rfl rfl (by omega) (by decide) (fun c35 => ?_) (fun c35 => ?_)
    · refine h_run 1 (pc' := 20) (l' := [(0, .inr (.inr 1826)), (1, .inl x)]) (st' := [.inr (.inr 1826)]) rfl ?_
      have g36 : -2147483648 ≤ (H.1 1826 28) ∧ (H.1 1826 28) ≤ 2147483647 := hrg0.1 1826 13 28 _ .int rfl rfl
      have g37 : -2147483648 ≤ (H.1 1826 32) ∧ (H.1 1826 32) ≤ 2147483647 := hrg0.1 1826 13 32 _ .int rfl rfl
      refine h_cv (i := 396) (j := 191) (b := 1826) (M' := mt_191) (xs := []) (rest := []) rfl rfl rfl rfl rfl rfl (Nat.le_of_ble_eq_true rfl) (Nat.le_of_ble_eq_true rfl) (by omega) (n_openTape (by omega) (by omega : 0 ≤ (H.1 1826 28) ∧ (H.1 1826 28) ≤ 1000) (by omega : 0 ≤ (H.1 1826 32) ∧ (H.1 1826 32) ≤ 1000) hB ((xw_s X).1.trans h00) (TA_sT hT (xw_s X).2.2.2) (rch_rf Y ([(2, -1, 0, 0), (1, 0, 0, 0)], xw X)) (lk_n (n := 2) (by decide))) ?_
      rintro _ H38 ⟨rfl, hx38n, hx38f, hx38t, hx38a, hx38c, hx38e⟩
      refine h_rng (fun hrg39 => ?_)
      have hf40 : fr [28, 29, 30, 31, 32, 33, 34, 35, 36, 39, 40, 41, 43, 44, 47, 50, 51, 53, 55, 56, 57, 59] [1849, 1850, 1851, 1852, 1853, 1854, 1855, 1856, 1857, 1858, 1859, 1860] H H38 := fr_t (fr_rf _ _ _) hx38f (by decide) (by decide)
      replace hx38t : (H38.1 1826 28) = 0 ∧ (H38.1 1826 29) = (H.1 1826 28) := hx38t
      refine h_run 0 (pc' := 23) (l' := [(0, .inr (.inr 1826)), (1, .inl x)]) (st' := []) rfl ?_
      refine h_run 1 (pc' := 24) (l' := [(0, .inr (.inr 1826)), (1, .inl x)]) (st' := [.inr (.inr 1826)]) rfl ?_
      refine h_cv (i := 379) (j := 185) (b := 1826) (M' := mt_185) (xs := []) (rest := []) rfl rfl rfl rfl rfl rfl (Nat.le_of_ble_eq_true rfl) (Nat.le_of_ble_eq_true rfl) (by omega) (m_beginTerm (by omega)) ?_
      rintro _ _ ⟨rfl, rfl⟩
      refine h_run 0 (pc' := 27) (l' := [(0, .inr (.inr 1826)), (1, .inl x)]) (st' := []) rfl ?_
      refine h_run 2 (pc' := 29) (l' := [(0, .inr (.inr 1826)), (1, .inl x)]) (st' := [.inl 3, .inr (.inr 1826)]) rfl ?_
      refine h_puti (i := 367) (ci := 13) (k := 44) (a := 1826) (x := 3) rfl rfl rfl rfl rfl rfl (by decide) (by decide) ?_
      refine h_run 1 (pc' := 33) (l' := [(0, .inr (.inr 1826)), (1, .inl x)]) (st' := [.inr (.inr 1826)]) rfl ?_
      have g41 : -2147483648 ≤ (H38.1 1826 35) ∧ (H38.1 1826 35) ≤ 2147483647 := hrg39.1 1826 13 35 _ .int rfl rfl
      refine h_cv (i := 293) (j := 158) (b := 1826) (M' := mt_158) (xs := []) (rest := []) rfl rfl rfl rfl rfl rfl (Nat.le_of_ble_eq_true rfl) (Nat.le_of_ble_eq_true rfl) (by omega) (m_good (by omega)) ?_
      rintro _ _ ⟨⟨rfl, b42⟩ | ⟨rfl, b42⟩, rfl⟩
      · have b42x : (H38.1 1826 35) = 0 := b42
        refine h_run 0 (pc' := 36) (l' := [(0, .inr (.inr 1826)), (1, .inl x)]) (st' := [.inl 1]) rfl ?_
        refine h_zeq (off := 9) (t := 45) rfl rfl (by decide) (fun c => absurd c (by decide)) (fun _ => ?_)
        refine h_run 2 (pc' := 41) (l' := [(0, .inr (.inr 1826)), (1, .inl x)]) (st' := [.inl (-1), .inr (.inr 1826)]) rfl ?_
        have g43 : -2147483648 ≤ (H38.1 1826 30) ∧ (H38.1 1826 30) ≤ 2147483647 := hrg39.1 1826 13 30 _ .int rfl rfl
        have g44 : -2147483648 ≤ (H38.1 1826 29) ∧ (H38.1 1826 29) ≤ 2147483647 := hrg39.1 1826 13 29 _ .int rfl rfl
        have g45 : -2147483648 ≤ (H38.1 1826 1) ∧ (H38.1 1826 1) ≤ 2147483647 := hrg39.1 1826 13 1 _ .int rfl rfl
        have e46 : (H38.1 1826 1) = (H.1 1826 1) := hx38f.2.2 1 (by decide)
        have g47 : -2147483648 ≤ (H38.1 1826 8) ∧ (H38.1 1826 8) ≤ 2147483647 := hrg39.1 1826 13 8 _ .int rfl rfl
        have e48 : (H38.1 1826 8) = (H.1 1826 8) := hx38f.2.2 8 (by decide)
        have g50 : -2147483648 ≤ (H38.1 1826 32) ∧ (H38.1 1826 32) ≤ 2147483647 := hrg39.1 1826 13 32 _ .int rfl rfl
        refine h_cv (i := 385) (j := 180) (b := 1826) (M' := mt_180) (xs := [.inl (-1)]) (rest := []) rfl rfl rfl rfl rfl rfl (Nat.le_of_ble_eq_true rfl) (Nat.le_of_ble_eq_true rfl) (by omega) (n_term (by omega) (by omega : 0 ≤ (H38.1 1826 30) ∧ (H38.1 1826 30) ≤ (H38.1 1826 29) ∧ (H38.1 1826 29) ≤ 1000) (by omega : 0 ≤ (H38.1 1826 35) ∧ (H38.1 1826 35) ≤ 5) (by omega : 0 ≤ (H38.1 1826 32) ∧ (H38.1 1826 32) ≤ 1000) (PWc_o (PWc_o (PWc_o (PWc_o (PWc_o (PWc_fr hP hf40 (by decide) (by decide)) (by decide)) (by decide)) (by decide)) (by decide)) (by decide)) (by omega : 1 ≤ (3 : Int) ∧ (3 : Int) ≤ 3) (by omega : -1 ≤ (-1 : Int) ∧ (-1 : Int) < (H38.1 1826 1)) (by omega : 0 ≤ (0 : Int) ∧ (0 : Int) ≤ 10) (fun _ => ⟨rfl, rfl, rfl, (by omega : 0 ≤ (0 : Int) ∧ (0 : Int) ≤ 39 ∧ ((3 : Int) = 2 → (0 : Int) ≤ 6)), fun (q9 : (3 : Int) = 2) => absurd q9 (by decide)⟩) (by omega : (H38.1 1826 35) = 0) (RK_fr (GB_g hx38n (by omega)) (fr_o (fr_o (fr_o (fr_o (fr_o (fr_rf [39, 40, 41, 43, 44] [] H38) (by decide)) (by decide)) (by decide)) (by decide)) (by decide)) (by decide) (by decide)) (VR_work rfl rfl) (by omega : (H38.1 1826 8) = m) (e := -1) (by omega : ((3 : Int) = 2 ∧ (-1 : Int) = -2) ∨ ((3 : Int) ≠ 2 ∧ (-1 : Int) = -1)) (show rch Y ([(2, -1, 0, 0), (1, 0, 0, 0)], xw X) ((2, me (-1) (-1), 0, 0) :: [(1, 0, 0, 0)], xw X) from rch_rf Y _) (lk_1 (by decide)) (by omega : (3 : Int) = 1 → 0 ≤ (-1 : Int))) ?_
        rintro _ H49 ⟨⟨hx49r, rfl, hx49x, hx49y, hx49n⟩, hx49f, hx49a, hx49c, -, hx49e, hx49v, hx49p⟩
        refine h_rng (fun hrg51 => ?_)
        have hf52 : fr [28, 29, 30, 31, 32, 33, 34, 35, 36, 39, 40, 41, 43, 44, 47, 50, 51, 53, 55, 56, 57, 59] [1849, 1850, 1851, 1852, 1853, 1854, 1855, 1856, 1857, 1858, 1859, 1860] H H49 := fr_t (fr_o (fr_o (fr_o (fr_o (fr_o hf40 (by decide)) (by decide)) (by decide)) (by decide)) (by decide)) hx49f (by decide) (by decide)
        replace hx49y : hx49r < (H38.1 1826 1) := hx49y
        replace hx49a : (H38.1 1826 30) ≤ (H49.1 1826 30) ∧ (H49.1 1826 30) ≤ (H38.1 1826 29) := hx49a
        replace hx49v : ((3 : Int) ≠ 2 → (H49.1 1826 39) = (0 : Int)) ∧ (0 : Int) ≤ (H49.1 1826 39) := hx49v
        have hx49k : (H49.1 1826 35) = 0 → 0 ≤ (H49.1 1826 43) ∧ (H49.1 1826 43) ≤ 40 := fun q9 => by obtain ⟨⟨k9, h9, h8, -⟩, -⟩ := hx49p q9; omega
        have hx49w : (H49.1 1826 35) = 0 → 0 ≤ (H49.1 1826 39) ∧ (H49.1 1826 39) ≤ 39 ∧ ((H49.1 1826 44) = 2 → (H49.1 1826 39) ≤ 6) := fun q9 => (TT_vars (hx49p q9).2).1
        refine h_run 0 (pc' := 44) (l' := [(0, .inr (.inr 1826)), (1, .inl x)]) (st' := [.inl hx49r]) rfl ?_
        refine h_run 2 (pc' := 46) (l' := [(0, .inr (.inr 1826)), (1, .inl x)]) (st' := [.inr (.inr 1826)]) rfl ?_
        have g53 : -2147483648 ≤ (H49.1 1826 35) ∧ (H49.1 1826 35) ≤ 2147483647 := hrg51.1 1826 13 35 _ .int rfl rfl
        refine h_cv (i := 293) (j := 158) (b := 1826) (M' := mt_158) (xs := []) (rest := []) rfl rfl rfl rfl rfl rfl (Nat.le_of_ble_eq_true rfl) (Nat.le_of_ble_eq_true rfl) (by omega) (m_good (by omega)) ?_
        rintro _ _ ⟨⟨rfl, b54⟩ | ⟨rfl, b54⟩, rfl⟩
        · have b54x : (H49.1 1826 35) = 0 := b54
          replace hx49k := hx49k b54x
          replace hx49w := hx49w b54x
          refine h_run 0 (pc' := 49) (l' := [(0, .inr (.inr 1826)), (1, .inl x)]) (st' := [.inl 1]) rfl ?_
          refine h_zeq (off := 15) (t := 64) rfl rfl (by decide) (fun c => absurd c (by decide)) (fun _ => ?_)
          obtain ⟨X2, hq2, hR2, -, -, hsW, hRD⟩ := GB_g hx49n (by omega)
          have hRD2 := hRD.1
          have htk2 := RK_t hR2
          refine h_run 2 (pc' := 56) (l' := [(0, .inr (.inr 1826)), (1, .inl x)]) (st' := [.inl (H49.1 1826 31)]) rfl ?_
          have g55 : -2147483648 ≤ (H49.1 1826 31) ∧ (H49.1 1826 31) ≤ 2147483647 := hrg51.1 1826 13 31 _ .int rfl rfl
          refine h_zeq (off := 8) (t := 64) rfl rfl (by omega) (fun c56 => ?_) (fun c56 => ?_)
          · refine h_run 1 (pc' := 65) (l' := [(0, .inr (.inr 1826)), (1, .inl x)]) (st' := [.inr (.inr 1826)]) rfl ?_
            refine h_cv (i := 293) (j := 158) (b := 1826) (M' := mt_158) (xs := []) (rest := []) rfl rfl rfl rfl rfl rfl (Nat.le_of_ble_eq_true rfl) (Nat.le_of_ble_eq_true rfl) (by omega) (m_good1 (by omega) (by omega : (H49.1 1826 35) = 0)) ?_
            rintro _ _ ⟨rfl, rfl⟩
            refine h_run 0 (pc' := 68) (l' := [(0, .inr (.inr 1826)), (1, .inl x)]) (st' := [.inl 1]) rfl ?_
            refine h_zne (off := 20) (t := 88) rfl rfl (by decide) (fun _ => ?_) (fun c => absurd c (by decide))
            have g57 : -2147483648 ≤ (H49.1 1826 39) ∧ (H49.1 1826 39) ≤ 2147483647 := hrg51.1 1826 13 39 _ .int rfl rfl
            have g58 : -2147483648 ≤ (H49.1 1826 43) ∧ (H49.1 1826 43) ≤ 2147483647 := hrg51.1 1826 13 43 _ .int rfl rfl
            have g59 : -2147483648 ≤ (H49.1 1826 3) ∧ (H49.1 1826 3) ≤ 2147483647 := hrg51.1 1826 13 3 _ .int rfl rfl
            have e60 : (H49.1 1826 3) = (H38.1 1826 3) := hx49f.2.2 3 (by decide)
            have e61 : (H38.1 1826 3) = (H.1 1826 3) := hx38f.2.2 3 (by decide)
            have g62 : -2147483648 ≤ (H49.1 1826 8) ∧ (H49.1 1826 8) ≤ 2147483647 := hrg51.1 1826 13 8 _ .int rfl rfl
            have e63 : (H49.1 1826 8) = (H38.1 1826 8) := hx49f.2.2 8 (by decide)
            obtain ⟨⟨k, hk1, hk2, hk3⟩, -⟩ := hx49p (by omega)
            have hv0 : (H49.1 1826 39) = 0 := hx49v.1 (by decide)
            rw [hv0, show (H49.1 1833) = (H.1 1833) from hf52.2.1 1833 (by decide) (by decide), show (H49.1 1830) = (H.1 1830) from hf52.2.1 1830 (by decide) (by decide), show (H49.1 1826 3) = (H.1 1826 3) from hf52.2.2 3 (by decide), show (H49.1 1826 8) = (H.1 1826 8) from hf52.2.2 8 (by decide)] at hk3
            refine h_run 3 (pc' := 93) (l' := [(0, .inr (.inr 1826)), (1, .inl x)]) (st' := [.inl (H49.1 1826 43), .inr (.inr 1826)]) rfl ?_
            refine h_puti (i := 447) (ci := 13) (k := 55) (a := 1826) (x := (H49.1 1826 43)) rfl rfl rfl rfl rfl rfl (by decide) (by omega) ?_
            refine h_run 2 (pc' := 98) (l' := [(0, .inr (.inr 1826)), (1, .inl x), (2, .inl 0)]) (st' := []) rfl ?_
            have g64 : -2147483648 ≤ (H49.1 1826 28) ∧ (H49.1 1826 28) ≤ 2147483647 := hrg51.1 1826 13 28 _ .int rfl rfl
            have e65 : (H49.1 1826 28) = (H38.1 1826 28) := hx49f.2.2 28 (by decide)
            have g66 : -2147483648 ≤ (H49.1 1826 32) ∧ (H49.1 1826 32) ≤ 2147483647 := hrg51.1 1826 13 32 _ .int rfl rfl
            have g67 : -2147483648 ≤ (H49.1 1826 57) ∧ (H49.1 1826 57) ≤ 2147483647 := hrg51.1 1826 13 57 _ .int rfl rfl
            have e68 : (H49.1 1826 57) = (H38.1 1826 57) := hx49f.2.2 57 (by decide)
            have e69 : (H38.1 1826 57) = (H.1 1826 57) := hx38f.2.2 57 (by decide)
            have g70 : -2147483648 ≤ (H49.1 1826 59) ∧ (H49.1 1826 59) ≤ 2147483647 := hrg51.1 1826 13 59 _ .int rfl rfl
            have e71 : (H49.1 1826 59) = (H38.1 1826 59) := hx49f.2.2 59 (by decide)
            have e72 : (H38.1 1826 59) = (H.1 1826 59) := hx38f.2.2 59 (by decide)
            have g73 : -2147483648 ≤ (H49.1 1826 34) ∧ (H49.1 1826 34) ≤ 2147483647 := hrg51.1 1826 13 34 _ .int rfl rfl
            have e74 : (H49.1 1826 34) = (H38.1 1826 34) := hx49f.2.2 34 (by decide)
            have e75 : (H38.1 1826 34) = (H.1 1826 34) := hx38f.2.2 34 (by decide)
            exact (n_workx_cut hd hx ht hst hP hou hB h00 hmf hT hX _) _ (k) 0 (X2) (fr_o hf52 (by decide)) (by omega : (H49.1 1826 43) = (((k) : Nat) : Int) ∧ (H49.1 1826 43) = (((k) : Nat) : Int) ∧ (k) ≤ 40) (by omega : (H49.1 1826 28) = 0) (by omega : 0 ≤ (H49.1 1826 59) ∧ (H49.1 1826 59) ≤ 8000) (by omega : 0 ≤ (H49.1 1826 32) ∧ (H49.1 1826 32) ≤ 1000) (by omega : (H49.1 1826 34) = (H.1 1826 34)) (by omega) (by omega) hk3 (fun x hx => absurd hx (Nat.not_lt_zero _)) (by omega : (H49.1 1826 57) = (H.1 1826 57)) ⟨hq2, by omega, by omega, fun x hx => hRD.2 x (by omega), (hsW.1.1 4 (by decide) (by decide)).trans (xu_ne _ _ _ (by decide)), (hsW.1.1 8 (by decide) (by decide)).trans (xu_ne _ _ _ (by decide)), (hsW.1.2.2 6 (by decide) (by decide)).trans ((xu_0 _ _ (by omega)).trans (xu_0 _ _ (by omega)))⟩ (Nat.lt_succ_self _)
          · refine h_run 2 (pc' := 61) (l' := [(0, .inr (.inr 1826)), (1, .inl x)]) (st' := [.inl 2, .inr (.inr 1826)]) rfl ?_
            refine h_cv (i := 278) (j := 159) (b := 1826) (M' := mt_159) (xs := [.inl 2]) (rest := []) rfl rfl rfl rfl rfl rfl (Nat.le_of_ble_eq_true rfl) (Nat.le_of_ble_eq_true rfl) (by omega) (m_bad0 (by omega) (by omega) (by omega : (H49.1 1826 35) = 0)) ?_
            rintro _ _ ⟨rfl, rfl⟩
            refine h_run 0 (pc' := 64) (l' := [(0, .inr (.inr 1826)), (1, .inl x)]) (st' := []) rfl ?_
            refine h_run 1 (pc' := 65) (l' := [(0, .inr (.inr 1826)), (1, .inl x)]) (st' := [.inr (.inr 1826)]) rfl ?_
            refine h_cv (i := 293) (j := 158) (b := 1826) (M' := mt_158) (xs := []) (rest := []) rfl rfl rfl rfl rfl rfl (Nat.le_of_ble_eq_true rfl) (Nat.le_of_ble_eq_true rfl) (by omega) (m_good0 (by omega) (by omega : (2 : Int) ≠ 0)) ?_
            rintro _ _ ⟨rfl, rfl⟩
            refine h_run 0 (pc' := 68) (l' := [(0, .inr (.inr 1826)), (1, .inl x)]) (st' := [.inl 0]) rfl ?_
            refine h_zne (off := 20) (t := 88) rfl rfl (by decide) (fun c => absurd c (by decide)) (fun _ => ?_)
            refine h_run 3 (pc' := 76) (l' := [(0, .inr (.inr 1826)), (1, .inl x)]) (st' := [.inl 2, .inr (.inr 1826)]) rfl ?_
            refine h_puti (i := 411) (ci := 13) (k := 34) (a := 1826) (x := 2) rfl rfl rfl rfl rfl rfl (by decide) (by decide) ?_
            refine h_run 4 (pc' := 87) (l' := [(0, .inr (.inr 1826)), (1, .inl x)]) (st' := [.inl ((-1000) - (H49.1 1826 32))]) rfl ?_
            refine h_reti (x := ((-1000) - (H49.1 1826 32))) rfl rfl ?_
            have g76 : -2147483648 ≤ (H49.1 1826 28) ∧ (H49.1 1826 28) ≤ 2147483647 := hrg51.1 1826 13 28 _ .int rfl rfl
            have e77 : (H49.1 1826 28) = (H38.1 1826 28) := hx49f.2.2 28 (by decide)
            have g78 : -2147483648 ≤ (H49.1 1826 32) ∧ (H49.1 1826 32) ≤ 2147483647 := hrg51.1 1826 13 32 _ .int rfl rfl
            have g79 : -2147483648 ≤ (H49.1 1826 59) ∧ (H49.1 1826 59) ≤ 2147483647 := hrg51.1 1826 13 59 _ .int rfl rfl
            have e80 : (H49.1 1826 59) = (H38.1 1826 59) := hx49f.2.2 59 (by decide)
            have e81 : (H38.1 1826 59) = (H.1 1826 59) := hx38f.2.2 59 (by decide)
            have g82 : -2147483648 ≤ (H49.1 1826 57) ∧ (H49.1 1826 57) ≤ 2147483647 := hrg51.1 1826 13 57 _ .int rfl rfl
            have e83 : (H49.1 1826 57) = (H38.1 1826 57) := hx49f.2.2 57 (by decide)
            have e84 : (H38.1 1826 57) = (H.1 1826 57) := hx38f.2.2 57 (by decide)
            exact ⟨⟨_, rfl⟩, (fr_o (fr_o (fr_o hf52 (by decide)) (by decide)) (by decide)), (by omega : (H49.1 1826 28) = 0), (by omega : 0 ≤ (H49.1 1826 32) ∧ (H49.1 1826 32) ≤ 1000), (by omega : 0 ≤ (H49.1 1826 59) ∧ (H49.1 1826 59) ≤ 8000), ⟨_, rfl, (Or.inr ⟨by omega, Or.inr ((show BD Y m ([(2, -1, 0, 0), (1, 0, 0, 0)], xw X) (zu (zu H49 1826 (up (H49.1 1826) 35 2)) 1826 (up ((zu H49 1826 (up (H49.1 1826) 35 2)).1 1826) 36 (H49.1 1826 32))) from (BD_mk hR2 (fr_o (fr_o (fr_rf [35, 36] [] H49) (by decide)) (by decide)) (by decide) (by decide) (by decide : (2 : Int) ≠ 0) rfl rfl (rch_st hq2 (by show (if tk Y (xi X2) = 0 then _ else _) = _; unfold miss; (repeat (first | rw [if_pos (by omega)] | rw [if_neg (by omega)])); try (first | rfl | (exfalso; omega)))))).2.1.elim (fun Xf q9 => ⟨Xf, _, _, q9, rfl, (by omega : (H49.1 1826 57) = (H.1 1826 57))⟩))⟩)⟩⟩
        · have b54x : (H49.1 1826 35) ≠ 0 := b54
          clear hx49k
          clear hx49w
          refine h_run 0 (pc' := 49) (l' := [(0, .inr (.inr 1826)), (1, .inl x)]) (st' := [.inl 0]) rfl ?_
          refine h_zeq (off := 15) (t := 64) rfl rfl (by decide) (fun _ => ?_) (fun c => absurd c (by decide))
          refine h_run 1 (pc' := 65) (l' := [(0, .inr (.inr 1826)), (1, .inl x)]) (st' := [.inr (.inr 1826)]) rfl ?_
          refine h_cv (i := 293) (j := 158) (b := 1826) (M' := mt_158) (xs := []) (rest := []) rfl rfl rfl rfl rfl rfl (Nat.le_of_ble_eq_true rfl) (Nat.le_of_ble_eq_true rfl) (by omega) (m_good0 (by omega) (by omega : (H49.1 1826 35) ≠ 0)) ?_
          rintro _ _ ⟨rfl, rfl⟩
          refine h_run 0 (pc' := 68) (l' := [(0, .inr (.inr 1826)), (1, .inl x)]) (st' := [.inl 0]) rfl ?_
          refine h_zne (off := 20) (t := 88) rfl rfl (by decide) (fun c => absurd c (by decide)) (fun _ => ?_)
          refine h_run 3 (pc' := 76) (l' := [(0, .inr (.inr 1826)), (1, .inl x)]) (st' := [.inl (H49.1 1826 35), .inr (.inr 1826)]) rfl ?_
          refine h_puti (i := 411) (ci := 13) (k := 34) (a := 1826) (x := (H49.1 1826 35)) rfl rfl rfl rfl rfl rfl (by decide) (by omega) ?_
          refine h_run 3 (pc' := 86) (l' := [(0, .inr (.inr 1826)), (1, .inl x)]) (st' := [.inl (H49.1 1826 36), .inl (-1000)]) rfl ?_
          have g85 : -2147483648 ≤ (H49.1 1826 36) ∧ (H49.1 1826 36) ≤ 2147483647 := hrg51.1 1826 13 36 _ .int rfl rfl
          refine h_run 1 (pc' := 87) (l' := [(0, .inr (.inr 1826)), (1, .inl x)]) (st' := [.inl ((-1000) - (H49.1 1826 36))]) rfl ?_
          refine h_reti (x := ((-1000) - (H49.1 1826 36))) rfl rfl ?_
          have g86 : -2147483648 ≤ (H49.1 1826 28) ∧ (H49.1 1826 28) ≤ 2147483647 := hrg51.1 1826 13 28 _ .int rfl rfl
          have e87 : (H49.1 1826 28) = (H38.1 1826 28) := hx49f.2.2 28 (by decide)
          have g88 : -2147483648 ≤ (H49.1 1826 32) ∧ (H49.1 1826 32) ≤ 2147483647 := hrg51.1 1826 13 32 _ .int rfl rfl
          have g89 : -2147483648 ≤ (H49.1 1826 59) ∧ (H49.1 1826 59) ≤ 2147483647 := hrg51.1 1826 13 59 _ .int rfl rfl
          have e90 : (H49.1 1826 59) = (H38.1 1826 59) := hx49f.2.2 59 (by decide)
          have e91 : (H38.1 1826 59) = (H.1 1826 59) := hx38f.2.2 59 (by decide)
          have g92 : -2147483648 ≤ (H49.1 1826 57) ∧ (H49.1 1826 57) ≤ 2147483647 := hrg51.1 1826 13 57 _ .int rfl rfl
          have e93 : (H49.1 1826 57) = (H38.1 1826 57) := hx49f.2.2 57 (by decide)
          have e94 : (H38.1 1826 57) = (H.1 1826 57) := hx38f.2.2 57 (by decide)
          exact ⟨⟨_, rfl⟩, (fr_o hf52 (by decide)), (by omega : (H49.1 1826 28) = 0), (by omega : 0 ≤ (H49.1 1826 32) ∧ (H49.1 1826 32) ≤ 1000), (by omega : 0 ≤ (H49.1 1826 59) ∧ (H49.1 1826 59) ≤ 8000), ⟨_, rfl, (Or.inr ⟨by omega, Or.inr ((GB_b hx49n (by omega)).2.1.elim (fun Xf q9 => ⟨Xf, _, _, q9, rfl, (by omega : (H49.1 1826 57) = (H.1 1826 57))⟩))⟩)⟩⟩
      · have b42x : (H38.1 1826 35) ≠ 0 := b42
        refine h_run 0 (pc' := 36) (l' := [(0, .inr (.inr 1826)), (1, .inl x)]) (st' := [.inl 0]) rfl ?_
        refine h_zeq (off := 9) (t := 45) rfl rfl (by decide) (fun _ => ?_) (fun c => absurd c (by decide))
        refine h_run 1 (pc' := 46) (l' := [(0, .inr (.inr 1826)), (1, .inl x)]) (st' := [.inr (.inr 1826)]) rfl ?_
        refine h_cv (i := 293) (j := 158) (b := 1826) (M' := mt_158) (xs := []) (rest := []) rfl rfl rfl rfl rfl rfl (Nat.le_of_ble_eq_true rfl) (Nat.le_of_ble_eq_true rfl) (by omega) (m_good0 (by omega) (by omega : (H38.1 1826 35) ≠ 0)) ?_
        rintro _ _ ⟨rfl, rfl⟩
        refine h_run 0 (pc' := 49) (l' := [(0, .inr (.inr 1826)), (1, .inl x)]) (st' := [.inl 0]) rfl ?_
        refine h_zeq (off := 15) (t := 64) rfl rfl (by decide) (fun _ => ?_) (fun c => absurd c (by decide))
        refine h_run 1 (pc' := 65) (l' := [(0, .inr (.inr 1826)), (1, .inl x)]) (st' := [.inr (.inr 1826)]) rfl ?_
        refine h_cv (i := 293) (j := 158) (b := 1826) (M' := mt_158) (xs := []) (rest := []) rfl rfl rfl rfl rfl rfl (Nat.le_of_ble_eq_true rfl) (Nat.le_of_ble_eq_true rfl) (by omega) (m_good0 (by omega) (by omega : (H38.1 1826 35) ≠ 0)) ?_
        rintro _ _ ⟨rfl, rfl⟩
        refine h_run 0 (pc' := 68) (l' := [(0, .inr (.inr 1826)), (1, .inl x)]) (st' := [.inl 0]) rfl ?_
        refine h_zne (off := 20) (t := 88) rfl rfl (by decide) (fun c => absurd c (by decide)) (fun _ => ?_)
        refine h_run 3 (pc' := 76) (l' := [(0, .inr (.inr 1826)), (1, .inl x)]) (st' := [.inl (H38.1 1826 35), .inr (.inr 1826)]) rfl ?_
        refine h_puti (i := 411) (ci := 13) (k := 34) (a := 1826) (x := (H38.1 1826 35)) rfl rfl rfl rfl rfl rfl (by decide) (by omega) ?_
        refine h_run 3 (pc' := 86) (l' := [(0, .inr (.inr 1826)), (1, .inl x)]) (st' := [.inl (H38.1 1826 36), .inl (-1000)]) rfl ?_
        have g95 : -2147483648 ≤ (H38.1 1826 36) ∧ (H38.1 1826 36) ≤ 2147483647 := hrg39.1 1826 13 36 _ .int rfl rfl
        refine h_run 1 (pc' := 87) (l' := [(0, .inr (.inr 1826)), (1, .inl x)]) (st' := [.inl ((-1000) - (H38.1 1826 36))]) rfl ?_
        refine h_reti (x := ((-1000) - (H38.1 1826 36))) rfl rfl ?_
        have g96 : -2147483648 ≤ (H38.1 1826 28) ∧ (H38.1 1826 28) ≤ 2147483647 := hrg39.1 1826 13 28 _ .int rfl rfl
        have g97 : -2147483648 ≤ (H38.1 1826 32) ∧ (H38.1 1826 32) ≤ 2147483647 := hrg39.1 1826 13 32 _ .int rfl rfl
        have g98 : -2147483648 ≤ (H38.1 1826 59) ∧ (H38.1 1826 59) ≤ 2147483647 := hrg39.1 1826 13 59 _ .int rfl rfl
        have e99 : (H38.1 1826 59) = (H.1 1826 59) := hx38f.2.2 59 (by decide)
        have g100 : -2147483648 ≤ (H38.1 1826 57) ∧ (H38.1 1826 57) ≤ 2147483647 := hrg39.1 1826 13 57 _ .int rfl rfl
        have e101 : (H38.1 1826 57) = (H.1 1826 57) := hx38f.2.2 57 (by decide)
        exact ⟨⟨_, rfl⟩, (fr_o (fr_o (fr_o (fr_o (fr_o (fr_o hf40 (by decide)) (by decide)) (by decide)) (by decide)) (by decide)) (by decide)), (by omega : (H38.1 1826 28) = 0), (by omega : 0 ≤ (H38.1 1826 32) ∧ (H38.1 1826 32) ≤ 1000), (by omega : 0 ≤ (H38.1 1826 59) ∧ (H38.1 1826 59) ≤ 8000), ⟨_, rfl, (Or.inr ⟨by omega, Or.inr ((GB_b hx38n (by omega)).2.1.elim (fun Xf q9 => ⟨Xf, _, _, q9, rfl, (by omega : (H38.1 1826 57) = (H.1 1826 57))⟩))⟩)⟩⟩
    · refine h_run 2 (pc' := 13) (l' := [(0, .inr (.inr 1826)), (1, .inl x)]) (st' := [.inl 0, .inr (.inr 1826)]) rfl ?_
      refine h_puti (i := 393) (ci := 13) (k := 28) (a := 1826) (x := 0) rfl rfl rfl rfl rfl rfl (by decide) (by decide) ?_
      refine h_run 1 (pc' := 18) (l' := [(0, .inr (.inr 1826)), (1, .inl x)]) (st' := [.inl (-102)]) rfl ?_
      refine h_reti (x := (-102)) rfl rfl ?_
      have g102 : -2147483648 ≤ (H.1 1826 32) ∧ (H.1 1826 32) ≤ 2147483647 := hrg0.1 1826 13 32 _ .int rfl rfl
      have g103 : -2147483648 ≤ (H.1 1826 59) ∧ (H.1 1826 59) ≤ 2147483647 := hrg0.1 1826 13 59 _ .int rfl rfl
      have g104 : -2147483648 ≤ (H.1 1826 34) ∧ (H.1 1826 34) ≤ 2147483647 := hrg0.1 1826 13 34 _ .int rfl rfl
      have g105 : -2147483648 ≤ (H.1 1826 57) ∧ (H.1 1826 57) ≤ 2147483647 := hrg0.1 1826 13 57 _ .int rfl rfl
      exact ⟨⟨_, rfl⟩, (fr_o (fr_rf _ _ _) (by decide)), (by omega : (0 : Int) = 0), (by omega : 0 ≤ (H.1 1826 32) ∧ (H.1 1826 32) ≤ 1000), (by omega : 0 ≤ (H.1 1826 59) ∧ (H.1 1826 59) ≤ 8000), ⟨_, rfl, (Or.inl ⟨by omega, by omega, (by omega : (H.1 1826 57) = (H.1 1826 57))⟩)⟩⟩
