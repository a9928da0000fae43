/-! the class: the tape, what texts told, printing -/
/-! Tape.putNumber -/
set_option maxRecDepth 100000 in
theorem k_Tape_putNumber_cut {d : Nat} (hd : 1 ≤ d) {H : hp} (hI : Inv H) {a : Int} (ha : -2147483648 ≤ a ∧ a ≤ 2147483647) : ∀ w : Nat, (∀ (H1 : hp), Inv H1 → fq [(2, 1)] [3] false H H1 → ∀ (x2 : Int) , (-2147483648 ≤ x2 ∧ x2 ≤ 2147483647) → (x2 % 8 = 0 ∧ -8 ≤ x2 ∧ x2 ≤ 24) → (H.1 2 1 ≤ 996 → 8 * (H1.1 2 1) = 8 * (H.1 2 1) + 24 - x2) → (((x2 + 100).toNat) < w) → hG (zs zK) d mt_26 3 [(0, .inr (.inr 2)), (1, .inl a), (2, .inl x2)] [] H1 (fun r9 H9 => r9 = none ∧ (H.1 2 1 ≤ 996 → H9.1 2 1 = H.1 2 1 + 4) ∧ Inv H9 ∧ fq [(2, 1)] [3] false H H9)) := by
  intro w
  induction w with
  | zero => exact fun _ _ _ _ _ _ _ h => absurd h (Nat.not_lt_zero _)
  | succ w ih =>
    intro H1 hI1 hf1 x2 hx2 hi0 hi1 hw
    have g2 : 0 ≤ (H1.1 2 1) ∧ (H1.1 2 1) ≤ 1000 := kn (x := kx_2) hI1 rfl 1
    refine k_run 1 (pc' := 4) (l' := [(0, .inr (.inr 2)), (1, .inl a), (2, .inl x2)]) (st' := [.inl x2]) rfl ?_
    refine h_zlt (off := 45) (t := 49) rfl rfl (by omega) (fun c3 => ?_) (fun c3 => ?_)
    · refine k_run 0 (pc' := 49) (l' := [(0, .inr (.inr 2)), (1, .inl a), (2, .inl x2)]) (st' := []) rfl ?_
      refine h_ret rfl rfl ?_
      exact ⟨rfl, (by omega), hI1, hf1⟩
    · refine k_run 0 (pc' := 7) (l' := [(0, .inr (.inr 2)), (1, .inl a), (2, .inl x2)]) (st' := []) rfl ?_
      refine k_run 3 (pc' := 14) (l' := [(0, .inr (.inr 2)), (1, .inl a), (2, .inl x2)]) (st' := [.inl 1000, .inl (H1.1 2 1)]) rfl ?_
      refine h_ige (off := 29) (t := 43) rfl rfl (by omega) (by decide) (fun c4 => ?_) (fun c4 => ?_)
      · refine k_run 0 (pc' := 43) (l' := [(0, .inr (.inr 2)), (1, .inl a), (2, .inl x2)]) (st' := []) rfl ?_
        refine k_run 2 (pc' := 3) (l' := [(0, .inr (.inr 2)), (1, .inl a), (2, .inl (x2 + (-8)))]) (st' := []) rfl ?_
        exact ih H1 hI1 hf1 (x2 + (-8)) (by omega) (by omega) (by omega) (by omega)
      · refine k_run 0 (pc' := 17) (l' := [(0, .inr (.inr 2)), (1, .inl a), (2, .inl x2)]) (st' := []) rfl ?_
        refine k_run 7 (pc' := 28) (l' := [(0, .inr (.inr 2)), (1, .inl a), (2, .inl x2)]) (st' := [.inl (z_ushr a x2), .inl (H1.1 2 1), .inr (.inr 3)]) rfl ?_
        refine k_nrm (fun y5 hy5 => ?_)
        refine k_run 0 (pc' := 28) (l' := [(0, .inr (.inr 2)), (1, .inl a), (2, .inl x2)]) (st' := [.inl y5, .inl (H1.1 2 1), .inr (.inr 3)]) rfl ?_
        refine k_run 2 (pc' := 32) (l' := [(0, .inr (.inr 2)), (1, .inl a), (2, .inl x2)]) (st' := [.inl (z_and y5 255), .inl (H1.1 2 1), .inr (.inr 3)]) rfl ?_
        have g6 : 0 ≤ (z_and y5 255) ∧ (z_and y5 255) ≤ 255 := z_and_le _ 255 (by decide)
        refine k_istw (c := 3) (j := ((H1.1 2 1)).toNat) (i := (H1.1 2 1)) (x := kx_3) rfl rfl (by decide) (by decide) rfl (by decide) (by omega) (by omega) hI1 rfl (fun H7 hI8 hw9 => ?_)
        have hf11 : fq [(2, 1)] [3] false H H7 := fq_w hf1 hw9 (fpa (by decide) rfl)
        refine k_run 0 (pc' := 33) (l' := [(0, .inr (.inr 2)), (1, .inl a), (2, .inl x2)]) (st' := []) rfl ?_
        refine k_run 3 (pc' := 38) (l' := [(0, .inr (.inr 2)), (1, .inl a), (2, .inl x2)]) (st' := [.inl (H7.1 2 1), .inr (.inr 2)]) rfl ?_
        have g12 : 0 ≤ (H7.1 2 1) ∧ (H7.1 2 1) ≤ 1000 := kn (x := kx_2) hI8 rfl 1
        have e13 : (H7.1 2 1) = (H1.1 2 1) := hw9.2 _ _ (fun q => absurd q.1 (by decide))
        refine k_run 2 (pc' := 40) (l' := [(0, .inr (.inr 2)), (1, .inl a), (2, .inl x2)]) (st' := [.inl ((H7.1 2 1) + 1), .inr (.inr 2)]) rfl ?_
        refine k_puti (z := ((H7.1 2 1) + 1)) (a := 2) (x := kx_2) rfl rfl rfl (by decide) (by decide) rfl rfl rfl rfl hI8 (by omega) (show 0 ≤ ((H7.1 2 1) + 1) ∧ ((H7.1 2 1) + 1) ≤ 1000 by omega) (fun H14 hI15 hw16 hv17 => ?_)
        have hf18 : fq [(2, 1)] [3] false H H14 := fq_w hf11 hw16 (fpo (by decide) rfl)
        refine k_run 0 (pc' := 43) (l' := [(0, .inr (.inr 2)), (1, .inl a), (2, .inl x2)]) (st' := []) rfl ?_
        refine k_run 2 (pc' := 3) (l' := [(0, .inr (.inr 2)), (1, .inl a), (2, .inl (x2 + (-8)))]) (st' := []) rfl ?_
        have g19 : 0 ≤ (H14.1 2 1) ∧ (H14.1 2 1) ≤ 1000 := kn (x := kx_2) hI15 rfl 1
        exact ih H14 hI15 hf18 (x2 + (-8)) (by omega) (by omega) (by omega) (by omega)
set_option maxRecDepth 100000 in
theorem k_Tape_putNumber {d : Nat} (hd : 1 ≤ d) {H : hp} (hI : Inv H) {a : Int} (ha : -2147483648 ≤ a ∧ a ≤ 2147483647) : hG (zs zK) d mt_26 0 (zargs 0 [.inr (.inr 2), .inl a]) [] H (fun r9 H9 => r9 = none ∧ (H.1 2 1 ≤ 996 → H9.1 2 1 = H.1 2 1 + 4) ∧ Inv H9 ∧ fq [(2, 1)] [3] false H H9) := by
  refine k_run 0 (pc' := 0) (l' := [(0, .inr (.inr 2)), (1, .inl a)]) (st' := []) rfl ?_
  refine k_run 2 (pc' := 3) (l' := [(0, .inr (.inr 2)), (1, .inl a), (2, .inl 24)]) (st' := []) rfl ?_
  have g1 : 0 ≤ (H.1 2 1) ∧ (H.1 2 1) ≤ 1000 := kn (x := kx_2) hI rfl 1
  exact (k_Tape_putNumber_cut hd hI ha _) H hI (fq_rf _ _ _ _) (24 : Int) (by decide) (by omega) (by omega) (Nat.lt_succ_self _)

/-! Tape.isLetter -/
set_option maxRecDepth 100000 in
theorem k_Tape_isLetter {d : Nat} (hd : 1 ≤ d) {H : hp} {a : Int} (ha : -2147483648 ≤ a ∧ a ≤ 2147483647) : hG (zs zK) d mt_33 0 (zargs 0 [.inl a]) [] H (fun r9 H9 => ∃ z : Int, r9 = some (.inl z) ∧ ((0 ≤ z ∧ z ≤ 1)) ∧ H = H9) := by
  refine k_run 0 (pc' := 0) (l' := [(0, .inl a)]) (st' := []) rfl ?_
  refine k_run 2 (pc' := 3) (l' := [(0, .inl a)]) (st' := [.inl 97, .inl a]) rfl ?_
  refine h_ilt (off := 9) (t := 12) rfl rfl (by omega) (by decide) (fun c1 => ?_) (fun c1 => ?_)
  · refine k_run 0 (pc' := 12) (l' := [(0, .inl a)]) (st' := []) rfl ?_
    refine k_run 2 (pc' := 15) (l' := [(0, .inl a)]) (st' := [.inl 65, .inl a]) rfl ?_
    refine h_ilt (off := 13) (t := 28) rfl rfl (by omega) (by decide) (fun c2 => ?_) (fun c2 => ?_)
    · refine k_run 0 (pc' := 28) (l' := [(0, .inl a)]) (st' := []) rfl ?_
      refine k_run 1 (pc' := 29) (l' := [(0, .inl a)]) (st' := [.inl 0]) rfl ?_
      refine h_retz (x := 0) rfl rfl (by decide) ?_
      exact ⟨_, rfl, (by omega), rfl⟩
    · refine k_run 0 (pc' := 18) (l' := [(0, .inl a)]) (st' := []) rfl ?_
      refine k_run 2 (pc' := 21) (l' := [(0, .inl a)]) (st' := [.inl 90, .inl a]) rfl ?_
      refine h_igt (off := 7) (t := 28) rfl rfl (by omega) (by decide) (fun c3 => ?_) (fun c3 => ?_)
      · refine k_run 0 (pc' := 28) (l' := [(0, .inl a)]) (st' := []) rfl ?_
        refine k_run 1 (pc' := 29) (l' := [(0, .inl a)]) (st' := [.inl 0]) rfl ?_
        refine h_retz (x := 0) rfl rfl (by decide) ?_
        exact ⟨_, rfl, (by omega), rfl⟩
      · refine k_run 0 (pc' := 24) (l' := [(0, .inl a)]) (st' := []) rfl ?_
        refine k_run 2 (pc' := 29) (l' := [(0, .inl a)]) (st' := [.inl 1]) rfl ?_
        refine h_retz (x := 1) rfl rfl (by decide) ?_
        exact ⟨_, rfl, (by omega), rfl⟩
  · refine k_run 0 (pc' := 6) (l' := [(0, .inl a)]) (st' := []) rfl ?_
    refine k_run 2 (pc' := 9) (l' := [(0, .inl a)]) (st' := [.inl 122, .inl a]) rfl ?_
    refine h_ile (off := 15) (t := 24) rfl rfl (by omega) (by decide) (fun c4 => ?_) (fun c4 => ?_)
    · refine k_run 0 (pc' := 24) (l' := [(0, .inl a)]) (st' := []) rfl ?_
      refine k_run 2 (pc' := 29) (l' := [(0, .inl a)]) (st' := [.inl 1]) rfl ?_
      refine h_retz (x := 1) rfl rfl (by decide) ?_
      exact ⟨_, rfl, (by omega), rfl⟩
    · refine k_run 0 (pc' := 12) (l' := [(0, .inl a)]) (st' := []) rfl ?_
      refine k_run 2 (pc' := 15) (l' := [(0, .inl a)]) (st' := [.inl 65, .inl a]) rfl ?_
      refine h_ilt (off := 13) (t := 28) rfl rfl (by omega) (by decide) (fun c5 => ?_) (fun c5 => ?_)
      · refine k_run 0 (pc' := 28) (l' := [(0, .inl a)]) (st' := []) rfl ?_
        refine k_run 1 (pc' := 29) (l' := [(0, .inl a)]) (st' := [.inl 0]) rfl ?_
        refine h_retz (x := 0) rfl rfl (by decide) ?_
        exact ⟨_, rfl, (by omega), rfl⟩
      · refine k_run 0 (pc' := 18) (l' := [(0, .inl a)]) (st' := []) rfl ?_
        refine k_run 2 (pc' := 21) (l' := [(0, .inl a)]) (st' := [.inl 90, .inl a]) rfl ?_
        refine h_igt (off := 7) (t := 28) rfl rfl (by omega) (by decide) (fun c6 => ?_) (fun c6 => ?_)
        · refine k_run 0 (pc' := 28) (l' := [(0, .inl a)]) (st' := []) rfl ?_
          refine k_run 1 (pc' := 29) (l' := [(0, .inl a)]) (st' := [.inl 0]) rfl ?_
          refine h_retz (x := 0) rfl rfl (by decide) ?_
          exact ⟨_, rfl, (by omega), rfl⟩
        · refine k_run 0 (pc' := 24) (l' := [(0, .inl a)]) (st' := []) rfl ?_
          refine k_run 2 (pc' := 29) (l' := [(0, .inl a)]) (st' := [.inl 1]) rfl ?_
          refine h_retz (x := 1) rfl rfl (by decide) ?_
          exact ⟨_, rfl, (by omega), rfl⟩

/-! Tape.tokenOfSign -/
set_option maxRecDepth 100000 in
theorem k_Tape_tokenOfSign {d : Nat} (hd : 1 ≤ d) {H : hp} {a : Int} (ha : -2147483648 ≤ a ∧ a ≤ 2147483647) : hG (zs zK) d mt_32 0 (zargs 0 [.inl a]) [] H (fun r9 H9 => ∃ z : Int, r9 = some (.inl z) ∧ ((-2147483648 ≤ z ∧ z ≤ 2147483647)) ∧ H = H9) := by
  refine k_run 0 (pc' := 0) (l' := [(0, .inl a)]) (st' := []) rfl ?_
  refine k_run 1 (pc' := 1) (l' := [(0, .inl a)]) (st' := [.inl a]) rfl ?_
  rcases (show (a ≠ 40 ∧ a ≠ 41 ∧ a ≠ 58 ∧ a ≠ 59 ∧ a ≠ 61 ∧ a ≠ 62 ∧ a ≠ 95 ∧ a ≠ 124) ∨ a = 40 ∨ a = 41 ∨ a = 58 ∨ a = 59 ∨ a = 61 ∨ a = 62 ∨ a = 95 ∨ a = 124 by omega) with c1 | c1 | c1 | c1 | c1 | c1 | c1 | c1 | c1
  · refine k_lsw (t := 78) rfl (by omega) (by decide) (lsw_no (by intro q9 hq9; simp only [List.mem_cons, List.not_mem_nil, or_false] at hq9; rcases hq9 with rfl | rfl | rfl | rfl | rfl | rfl | rfl | rfl <;> (dsimp only; omega))) rfl ?_
    refine k_run 1 (pc' := 79) (l' := [(0, .inl a)]) (st' := [.inl 1]) rfl ?_
    refine h_reti (x := 1) rfl rfl ?_
    exact ⟨_, rfl, (by omega), rfl⟩
  · refine k_lsw (t := 76) rfl (by omega) (by decide) (by rw [c1]) rfl ?_
    refine k_run 1 (pc' := 77) (l' := [(0, .inl a)]) (st' := [.inl a]) rfl ?_
    refine h_reti (x := a) rfl rfl ?_
    exact ⟨_, rfl, (by omega), rfl⟩
  · refine k_lsw (t := 76) rfl (by omega) (by decide) (by rw [c1]) rfl ?_
    refine k_run 1 (pc' := 77) (l' := [(0, .inl a)]) (st' := [.inl a]) rfl ?_
    refine h_reti (x := a) rfl rfl ?_
    exact ⟨_, rfl, (by omega), rfl⟩
  · refine k_lsw (t := 76) rfl (by omega) (by decide) (by rw [c1]) rfl ?_
    refine k_run 1 (pc' := 77) (l' := [(0, .inl a)]) (st' := [.inl a]) rfl ?_
    refine h_reti (x := a) rfl rfl ?_
    exact ⟨_, rfl, (by omega), rfl⟩
  · refine k_lsw (t := 76) rfl (by omega) (by decide) (by rw [c1]) rfl ?_
    refine k_run 1 (pc' := 77) (l' := [(0, .inl a)]) (st' := [.inl a]) rfl ?_
    refine h_reti (x := a) rfl rfl ?_
    exact ⟨_, rfl, (by omega), rfl⟩
  · refine k_lsw (t := 76) rfl (by omega) (by decide) (by rw [c1]) rfl ?_
    refine k_run 1 (pc' := 77) (l' := [(0, .inl a)]) (st' := [.inl a]) rfl ?_
    refine h_reti (x := a) rfl rfl ?_
    exact ⟨_, rfl, (by omega), rfl⟩
  · refine k_lsw (t := 76) rfl (by omega) (by decide) (by rw [c1]) rfl ?_
    refine k_run 1 (pc' := 77) (l' := [(0, .inl a)]) (st' := [.inl a]) rfl ?_
    refine h_reti (x := a) rfl rfl ?_
    exact ⟨_, rfl, (by omega), rfl⟩
  · refine k_lsw (t := 76) rfl (by omega) (by decide) (by rw [c1]) rfl ?_
    refine k_run 1 (pc' := 77) (l' := [(0, .inl a)]) (st' := [.inl a]) rfl ?_
    refine h_reti (x := a) rfl rfl ?_
    exact ⟨_, rfl, (by omega), rfl⟩
  · refine k_lsw (t := 76) rfl (by omega) (by decide) (by rw [c1]) rfl ?_
    refine k_run 1 (pc' := 77) (l' := [(0, .inl a)]) (st' := [.inl a]) rfl ?_
    refine h_reti (x := a) rfl rfl ?_
    exact ⟨_, rfl, (by omega), rfl⟩

/-! Tape.tokenOfName -/
set_option maxRecDepth 100000 in
theorem k_Tape_tokenOfName {d : Nat} (hd : 1 ≤ d) {H : hp} {a : Int} {b : Int} {c : Int} (ha : -2147483648 ≤ a ∧ a ≤ 2147483647) (hb : -2147483648 ≤ b ∧ b ≤ 2147483647) : hG (zs zK) d mt_31 0 (zargs 0 [.inl a, .inl b, .inr (.inl c)]) [] H (fun r9 H9 => ∃ z : Int, r9 = some (.inl z) ∧ ((-2147483648 ≤ z ∧ z ≤ 2147483647)) ∧ H = H9) := by
  refine k_run 0 (pc' := 0) (l' := [(0, .inl a), (1, .inl b), (2, .inr (.inl c))]) (st' := []) rfl ?_
  refine k_run 2 (pc' := 3) (l' := [(0, .inl a), (1, .inl b), (2, .inr (.inl c))]) (st' := [.inl 6, .inl b]) rfl ?_
  refine h_ile (off := 5) (t := 8) rfl rfl (by omega) (by decide) (fun c1 => ?_) (fun c1 => ?_)
  · refine k_run 0 (pc' := 8) (l' := [(0, .inl a), (1, .inl b), (2, .inr (.inl c))]) (st' := []) rfl ?_
    refine k_run 2 (pc' := 11) (l' := [(0, .inl a), (1, .inl b), (2, .inr (.inl c))]) (st' := [.inl 90, .inl a]) rfl ?_
    refine h_igt (off := 5) (t := 16) rfl rfl (by omega) (by decide) (fun c2 => ?_) (fun c2 => ?_)
    · refine k_run 0 (pc' := 16) (l' := [(0, .inl a), (1, .inl b), (2, .inr (.inl c))]) (st' := []) rfl ?_
      refine k_run 1 (pc' := 17) (l' := [(0, .inl a), (1, .inl b), (2, .inr (.inl c))]) (st' := [.inr (.inl c)]) rfl ?_
      refine h_ldc2 (i := 55) (z := 1684108385) rfl rfl rfl ?_
      refine k_run 0 (pc' := 20) (l' := [(0, .inl a), (1, .inl b), (2, .inr (.inl c))]) (st' := [.inr (.inl 1684108385), .inr (.inl c)]) rfl ?_
      refine k_run 1 (pc' := 21) (l' := [(0, .inl a), (1, .inl b), (2, .inr (.inl c))]) (st' := [.inl (z_cmp c 1684108385)]) rfl ?_
      refine k_nrm (fun y3 hy3 => ?_)
      refine k_run 0 (pc' := 21) (l' := [(0, .inl a), (1, .inl b), (2, .inr (.inl c))]) (st' := [.inl y3]) rfl ?_
      refine h_zne (off := 5) (t := 26) rfl rfl (by omega) (fun c4 => ?_) (fun c4 => ?_)
      · refine k_run 0 (pc' := 26) (l' := [(0, .inl a), (1, .inl b), (2, .inr (.inl c))]) (st' := []) rfl ?_
        refine k_run 1 (pc' := 27) (l' := [(0, .inl a), (1, .inl b), (2, .inr (.inl c))]) (st' := [.inr (.inl c)]) rfl ?_
        refine h_ldc2 (i := 57) (z := 6714734) rfl rfl rfl ?_
        refine k_run 0 (pc' := 30) (l' := [(0, .inl a), (1, .inl b), (2, .inr (.inl c))]) (st' := [.inr (.inl 6714734), .inr (.inl c)]) rfl ?_
        refine k_run 1 (pc' := 31) (l' := [(0, .inl a), (1, .inl b), (2, .inr (.inl c))]) (st' := [.inl (z_cmp c 6714734)]) rfl ?_
        refine k_nrm (fun y5 hy5 => ?_)
        refine k_run 0 (pc' := 31) (l' := [(0, .inl a), (1, .inl b), (2, .inr (.inl c))]) (st' := [.inl y5]) rfl ?_
        refine h_zne (off := 5) (t := 36) rfl rfl (by omega) (fun c6 => ?_) (fun c6 => ?_)
        · refine k_run 0 (pc' := 36) (l' := [(0, .inl a), (1, .inl b), (2, .inr (.inl c))]) (st' := []) rfl ?_
          refine k_run 1 (pc' := 37) (l' := [(0, .inl a), (1, .inl b), (2, .inr (.inl c))]) (st' := [.inr (.inl c)]) rfl ?_
          refine h_ldc2 (i := 59) (z := 1920298085) rfl rfl rfl ?_
          refine k_run 0 (pc' := 40) (l' := [(0, .inl a), (1, .inl b), (2, .inr (.inl c))]) (st' := [.inr (.inl 1920298085), .inr (.inl c)]) rfl ?_
          refine k_run 1 (pc' := 41) (l' := [(0, .inl a), (1, .inl b), (2, .inr (.inl c))]) (st' := [.inl (z_cmp c 1920298085)]) rfl ?_
          refine k_nrm (fun y7 hy7 => ?_)
          refine k_run 0 (pc' := 41) (l' := [(0, .inl a), (1, .inl b), (2, .inr (.inl c))]) (st' := [.inl y7]) rfl ?_
          refine h_zne (off := 6) (t := 47) rfl rfl (by omega) (fun c8 => ?_) (fun c8 => ?_)
          · refine k_run 0 (pc' := 47) (l' := [(0, .inl a), (1, .inl b), (2, .inr (.inl c))]) (st' := []) rfl ?_
            refine k_run 1 (pc' := 48) (l' := [(0, .inl a), (1, .inl b), (2, .inr (.inl c))]) (st' := [.inr (.inl c)]) rfl ?_
            refine h_ldc2 (i := 61) (z := 7102839) rfl rfl rfl ?_
            refine k_run 0 (pc' := 51) (l' := [(0, .inl a), (1, .inl b), (2, .inr (.inl c))]) (st' := [.inr (.inl 7102839), .inr (.inl c)]) rfl ?_
            refine k_run 1 (pc' := 52) (l' := [(0, .inl a), (1, .inl b), (2, .inr (.inl c))]) (st' := [.inl (z_cmp c 7102839)]) rfl ?_
            refine k_nrm (fun y9 hy9 => ?_)
            refine k_run 0 (pc' := 52) (l' := [(0, .inl a), (1, .inl b), (2, .inr (.inl c))]) (st' := [.inl y9]) rfl ?_
            refine h_zne (off := 8) (t := 60) rfl rfl (by omega) (fun c10 => ?_) (fun c10 => ?_)
            · refine k_run 0 (pc' := 60) (l' := [(0, .inl a), (1, .inl b), (2, .inr (.inl c))]) (st' := []) rfl ?_
              refine k_run 1 (pc' := 61) (l' := [(0, .inl a), (1, .inl b), (2, .inr (.inl c))]) (st' := [.inl 2]) rfl ?_
              refine h_reti (x := 2) rfl rfl ?_
              exact ⟨_, rfl, (by omega), rfl⟩
            · refine k_run 0 (pc' := 55) (l' := [(0, .inl a), (1, .inl b), (2, .inr (.inl c))]) (st' := []) rfl ?_
              refine k_run 2 (pc' := 61) (l' := [(0, .inl a), (1, .inl b), (2, .inr (.inl c))]) (st' := [.inl 7]) rfl ?_
              refine h_reti (x := 7) rfl rfl ?_
              exact ⟨_, rfl, (by omega), rfl⟩
          · refine k_run 0 (pc' := 44) (l' := [(0, .inl a), (1, .inl b), (2, .inr (.inl c))]) (st' := []) rfl ?_
            refine k_run 1 (pc' := 46) (l' := [(0, .inl a), (1, .inl b), (2, .inr (.inl c))]) (st' := [.inl 6]) rfl ?_
            refine h_reti (x := 6) rfl rfl ?_
            exact ⟨_, rfl, (by omega), rfl⟩
        · refine k_run 0 (pc' := 34) (l' := [(0, .inl a), (1, .inl b), (2, .inr (.inl c))]) (st' := []) rfl ?_
          refine k_run 1 (pc' := 35) (l' := [(0, .inl a), (1, .inl b), (2, .inr (.inl c))]) (st' := [.inl 5]) rfl ?_
          refine h_reti (x := 5) rfl rfl ?_
          exact ⟨_, rfl, (by omega), rfl⟩
      · refine k_run 0 (pc' := 24) (l' := [(0, .inl a), (1, .inl b), (2, .inr (.inl c))]) (st' := []) rfl ?_
        refine k_run 1 (pc' := 25) (l' := [(0, .inl a), (1, .inl b), (2, .inr (.inl c))]) (st' := [.inl 4]) rfl ?_
        refine h_reti (x := 4) rfl rfl ?_
        exact ⟨_, rfl, (by omega), rfl⟩
    · refine k_run 0 (pc' := 14) (l' := [(0, .inl a), (1, .inl b), (2, .inr (.inl c))]) (st' := []) rfl ?_
      refine k_run 1 (pc' := 15) (l' := [(0, .inl a), (1, .inl b), (2, .inr (.inl c))]) (st' := [.inl 3]) rfl ?_
      refine h_reti (x := 3) rfl rfl ?_
      exact ⟨_, rfl, (by omega), rfl⟩
  · refine k_run 0 (pc' := 6) (l' := [(0, .inl a), (1, .inl b), (2, .inr (.inl c))]) (st' := []) rfl ?_
    refine k_run 1 (pc' := 7) (l' := [(0, .inl a), (1, .inl b), (2, .inr (.inl c))]) (st' := [.inl 1]) rfl ?_
    refine h_reti (x := 1) rfl rfl ?_
    exact ⟨_, rfl, (by omega), rfl⟩

/-! Tape.nameOf -/
set_option maxRecDepth 100000 in
theorem k_Tape_nameOf_cut {d : Nat} (hd : 1 ≤ d) {H : hp} (hI : Inv H) {a : Int} {b : Int} (ha : -2147483648 ≤ a ∧ a ≤ 2147483647) (hb : -2147483648 ≤ b ∧ b ≤ 2147483647) (hp0 : 0 ≤ a ∧ a ≤ 1000) (hp1 : b ≤ 1000) : ∀ w : Nat, (∀ (x3 : Int) (x5 : Int) , (-9223372036854775808 ≤ x3 ∧ x3 ≤ 9223372036854775807) → (-2147483648 ≤ x5 ∧ x5 ≤ 2147483647) → (a ≤ x5) → (((2000 - x5).toNat) < w) → hG (zs zK) d mt_30 5 [(0, .inr (.inr 2)), (1, .inl a), (2, .inl b), (3, .inr (.inl x3)), (5, .inl x5)] [] H (fun r9 H9 => ∃ z : Int, r9 = some (.inr (.inl z)) ∧ (-9223372036854775808 ≤ z ∧ z ≤ 9223372036854775807) ∧ H = H9)) := by
  intro w
  induction w with
  | zero => exact fun _ _ _ _ _ h => absurd h (Nat.not_lt_zero _)
  | succ w ih =>
    intro x3 x5 hx3 hx5 hi0 hw
    refine k_run 2 (pc' := 8) (l' := [(0, .inr (.inr 2)), (1, .inl a), (2, .inl b), (3, .inr (.inl x3)), (5, .inl x5)]) (st' := [.inl b, .inl x5]) rfl ?_
    refine h_ige (off := 32) (t := 40) rfl rfl (by omega) (by omega) (fun c1 => ?_) (fun c1 => ?_)
    · refine k_run 0 (pc' := 40) (l' := [(0, .inr (.inr 2)), (1, .inl a), (2, .inl b), (3, .inr (.inl x3)), (5, .inl x5)]) (st' := []) rfl ?_
      refine k_run 1 (pc' := 41) (l' := [(0, .inr (.inr 2)), (1, .inl a), (2, .inl b), (3, .inr (.inl x3)), (5, .inl x5)]) (st' := [.inr (.inl x3)]) rfl ?_
      refine h_retl (x := x3) rfl rfl ?_
      exact ⟨_, rfl, (by omega), rfl⟩
    · refine k_run 0 (pc' := 11) (l' := [(0, .inr (.inr 2)), (1, .inl a), (2, .inl b), (3, .inr (.inl x3)), (5, .inl x5)]) (st' := []) rfl ?_
      refine k_run 4 (pc' := 17) (l' := [(0, .inr (.inr 2)), (1, .inl a), (2, .inl b), (3, .inr (.inl x3)), (5, .inl x5)]) (st' := [.inl (a + 6), .inl x5]) rfl ?_
      refine h_ige (off := 23) (t := 40) rfl rfl (by omega) (by omega) (fun c2 => ?_) (fun c2 => ?_)
      · refine k_run 0 (pc' := 40) (l' := [(0, .inr (.inr 2)), (1, .inl a), (2, .inl b), (3, .inr (.inl x3)), (5, .inl x5)]) (st' := []) rfl ?_
        refine k_run 1 (pc' := 41) (l' := [(0, .inr (.inr 2)), (1, .inl a), (2, .inl b), (3, .inr (.inl x3)), (5, .inl x5)]) (st' := [.inr (.inl x3)]) rfl ?_
        refine h_retl (x := x3) rfl rfl ?_
        exact ⟨_, rfl, (by omega), rfl⟩
      · refine k_run 0 (pc' := 20) (l' := [(0, .inr (.inr 2)), (1, .inl a), (2, .inl b), (3, .inr (.inl x3)), (5, .inl x5)]) (st' := []) rfl ?_
        refine k_run 3 (pc' := 24) (l' := [(0, .inr (.inr 2)), (1, .inl a), (2, .inl b), (3, .inr (.inl x3)), (5, .inl x5)]) (st' := [.inr (.inl (z_lshl x3 8))]) rfl ?_
        refine k_nrmj (fun y3 hy3 => ?_)
        refine k_run 3 (pc' := 30) (l' := [(0, .inr (.inr 2)), (1, .inl a), (2, .inl b), (3, .inr (.inl x3)), (5, .inl x5)]) (st' := [.inl x5, .inr (.inr 3), .inr (.inl y3)]) rfl ?_
        refine k_ild (c := 3) (j := (x5).toNat) (i := x5) (x := kx_3) rfl rfl (by decide) rfl (by decide) (by omega) (by omega) ?_
        have g4 : -2147483648 ≤ (H.1 3 (x5).toNat) ∧ (H.1 3 (x5).toNat) ≤ 2147483647 := kn (x := kx_3) hI rfl (x5).toNat
        refine k_run 0 (pc' := 31) (l' := [(0, .inr (.inr 2)), (1, .inl a), (2, .inl b), (3, .inr (.inl x3)), (5, .inl x5)]) (st' := [.inl (H.1 3 (x5).toNat), .inr (.inl y3)]) rfl ?_
        refine k_run 1 (pc' := 32) (l' := [(0, .inr (.inr 2)), (1, .inl a), (2, .inl b), (3, .inr (.inl x3)), (5, .inl x5)]) (st' := [.inr (.inl (z_i2l (H.1 3 (x5).toNat))), .inr (.inl y3)]) rfl ?_
        refine k_nrmj (fun y5 hy5 => ?_)
        refine k_run 1 (pc' := 33) (l' := [(0, .inr (.inr 2)), (1, .inl a), (2, .inl b), (3, .inr (.inl x3)), (5, .inl x5)]) (st' := [.inr (.inl (z_lor y3 y5))]) rfl ?_
        refine k_nrmj (fun y6 hy6 => ?_)
        refine k_run 3 (pc' := 5) (l' := [(0, .inr (.inr 2)), (1, .inl a), (2, .inl b), (3, .inr (.inl y6)), (5, .inl (x5 + 1))]) (st' := []) rfl ?_
        exact ih y6 (x5 + 1) (by omega) (by omega) (by omega) (by omega)
set_option maxRecDepth 100000 in
theorem k_Tape_nameOf {d : Nat} (hd : 1 ≤ d) {H : hp} (hI : Inv H) {a : Int} {b : Int} (ha : -2147483648 ≤ a ∧ a ≤ 2147483647) (hb : -2147483648 ≤ b ∧ b ≤ 2147483647) (hp0 : 0 ≤ a ∧ a ≤ 1000) (hp1 : b ≤ 1000) : hG (zs zK) d mt_30 0 (zargs 0 [.inr (.inr 2), .inl a, .inl b]) [] H (fun r9 H9 => ∃ z : Int, r9 = some (.inr (.inl z)) ∧ (-9223372036854775808 ≤ z ∧ z ≤ 9223372036854775807) ∧ H = H9) := by
  refine k_run 0 (pc' := 0) (l' := [(0, .inr (.inr 2)), (1, .inl a), (2, .inl b)]) (st' := []) rfl ?_
  refine k_run 4 (pc' := 5) (l' := [(0, .inr (.inr 2)), (1, .inl a), (2, .inl b), (3, .inr (.inl 0)), (5, .inl a)]) (st' := []) rfl ?_
  exact (k_Tape_nameOf_cut hd hI ha hb hp0 hp1 _) (0 : Int) a (by decide) (by omega) (by omega) (Nat.lt_succ_self _)

/-! Tape.behindName -/
set_option maxRecDepth 100000 in
theorem k_Tape_behindName_cut {d : Nat} (hd : 2 ≤ d) {H : hp} (hI : Inv H) {a : Int} (ha : -2147483648 ≤ a ∧ a ≤ 2147483647) (hp0 : 0 ≤ a ∧ a ≤ 1000) : ∀ w : Nat, (∀ (x2 : Int) , (-2147483648 ≤ x2 ∧ x2 ≤ 2147483647) → (a ≤ x2 ∧ x2 ≤ 1000) → (((2000 - x2).toNat) < w) → hG (zs zK) d mt_29 2 [(0, .inr (.inr 2)), (1, .inl a), (2, .inl x2)] [] H (fun r9 H9 => ∃ z : Int, r9 = some (.inl z) ∧ ((-2147483648 ≤ z ∧ z ≤ 2147483647) ∧ (a ≤ z ∧ z ≤ 1000)) ∧ H = H9)) := by
  intro w
  induction w with
  | zero => exact fun _ _ _ h => absurd h (Nat.not_lt_zero _)
  | succ w ih =>
    intro x2 hx2 hi0 hw
    refine k_run 3 (pc' := 7) (l' := [(0, .inr (.inr 2)), (1, .inl a), (2, .inl x2)]) (st' := [.inl (H.1 2 1), .inl x2]) rfl ?_
    have g1 : 0 ≤ (H.1 2 1) ∧ (H.1 2 1) ≤ 1000 := kn (x := kx_2) hI rfl 1
    refine h_ige (off := 43) (t := 50) rfl rfl (by omega) (by omega) (fun c2 => ?_) (fun c2 => ?_)
    · refine k_run 0 (pc' := 50) (l' := [(0, .inr (.inr 2)), (1, .inl a), (2, .inl x2)]) (st' := []) rfl ?_
      refine k_run 1 (pc' := 51) (l' := [(0, .inr (.inr 2)), (1, .inl a), (2, .inl x2)]) (st' := [.inl x2]) rfl ?_
      refine h_reti (x := x2) rfl rfl ?_
      exact ⟨_, rfl, (by omega), rfl⟩
    · refine k_run 0 (pc' := 10) (l' := [(0, .inr (.inr 2)), (1, .inl a), (2, .inl x2)]) (st' := []) rfl ?_
      refine k_run 3 (pc' := 15) (l' := [(0, .inr (.inr 2)), (1, .inl a), (2, .inl x2)]) (st' := [.inl x2, .inr (.inr 3)]) rfl ?_
      refine k_ild (c := 3) (j := (x2).toNat) (i := x2) (x := kx_3) rfl rfl (by decide) rfl (by decide) (by omega) (by omega) ?_
      have g3 : -2147483648 ≤ (H.1 3 (x2).toNat) ∧ (H.1 3 (x2).toNat) ≤ 2147483647 := kn (x := kx_3) hI rfl (x2).toNat
      refine k_run 0 (pc' := 16) (l' := [(0, .inr (.inr 2)), (1, .inl a), (2, .inl x2)]) (st' := [.inl (H.1 3 (x2).toNat)]) rfl ?_
      refine h_cs (i := 32) (j := 33) (M' := mt_33) (xs := [.inl (H.1 3 (x2).toNat)]) (rest := []) rfl rfl rfl rfl rfl (Nat.le_of_ble_eq_true rfl) (Nat.le_of_ble_eq_true rfl) (by omega) (k_Tape_isLetter (by omega)  (by omega)) ?_
      rintro _ _ ⟨z8, rfl, g4, rfl⟩
      refine k_run 0 (pc' := 19) (l' := [(0, .inr (.inr 2)), (1, .inl a), (2, .inl x2)]) (st' := [.inl z8]) rfl ?_
      refine h_zne (off := 25) (t := 44) rfl rfl (by omega) (fun c9 => ?_) (fun c9 => ?_)
      · refine k_run 0 (pc' := 44) (l' := [(0, .inr (.inr 2)), (1, .inl a), (2, .inl x2)]) (st' := []) rfl ?_
        refine k_run 2 (pc' := 2) (l' := [(0, .inr (.inr 2)), (1, .inl a), (2, .inl (x2 + 1))]) (st' := []) rfl ?_
        exact ih (x2 + 1) (by omega) (by omega) (by omega)
      · refine k_run 0 (pc' := 22) (l' := [(0, .inr (.inr 2)), (1, .inl a), (2, .inl x2)]) (st' := []) rfl ?_
        refine k_run 3 (pc' := 27) (l' := [(0, .inr (.inr 2)), (1, .inl a), (2, .inl x2)]) (st' := [.inl x2, .inr (.inr 3)]) rfl ?_
        refine k_ild (c := 3) (j := (x2).toNat) (i := x2) (x := kx_3) rfl rfl (by decide) rfl (by decide) (by omega) (by omega) ?_
        refine k_run 0 (pc' := 28) (l' := [(0, .inr (.inr 2)), (1, .inl a), (2, .inl x2)]) (st' := [.inl (H.1 3 (x2).toNat)]) rfl ?_
        refine k_run 1 (pc' := 30) (l' := [(0, .inr (.inr 2)), (1, .inl a), (2, .inl x2)]) (st' := [.inl 48, .inl (H.1 3 (x2).toNat)]) rfl ?_
        refine h_ilt (off := 20) (t := 50) rfl rfl (by omega) (by decide) (fun c10 => ?_) (fun c10 => ?_)
        · refine k_run 0 (pc' := 50) (l' := [(0, .inr (.inr 2)), (1, .inl a), (2, .inl x2)]) (st' := []) rfl ?_
          refine k_run 1 (pc' := 51) (l' := [(0, .inr (.inr 2)), (1, .inl a), (2, .inl x2)]) (st' := [.inl x2]) rfl ?_
          refine h_reti (x := x2) rfl rfl ?_
          exact ⟨_, rfl, (by omega), rfl⟩
        · refine k_run 0 (pc' := 33) (l' := [(0, .inr (.inr 2)), (1, .inl a), (2, .inl x2)]) (st' := []) rfl ?_
          refine k_run 3 (pc' := 38) (l' := [(0, .inr (.inr 2)), (1, .inl a), (2, .inl x2)]) (st' := [.inl x2, .inr (.inr 3)]) rfl ?_
          refine k_ild (c := 3) (j := (x2).toNat) (i := x2) (x := kx_3) rfl rfl (by decide) rfl (by decide) (by omega) (by omega) ?_
          refine k_run 0 (pc' := 39) (l' := [(0, .inr (.inr 2)), (1, .inl a), (2, .inl x2)]) (st' := [.inl (H.1 3 (x2).toNat)]) rfl ?_
          refine k_run 1 (pc' := 41) (l' := [(0, .inr (.inr 2)), (1, .inl a), (2, .inl x2)]) (st' := [.inl 57, .inl (H.1 3 (x2).toNat)]) rfl ?_
          refine h_igt (off := 9) (t := 50) rfl rfl (by omega) (by decide) (fun c11 => ?_) (fun c11 => ?_)
          · refine k_run 0 (pc' := 50) (l' := [(0, .inr (.inr 2)), (1, .inl a), (2, .inl x2)]) (st' := []) rfl ?_
            refine k_run 1 (pc' := 51) (l' := [(0, .inr (.inr 2)), (1, .inl a), (2, .inl x2)]) (st' := [.inl x2]) rfl ?_
            refine h_reti (x := x2) rfl rfl ?_
            exact ⟨_, rfl, (by omega), rfl⟩
          · refine k_run 0 (pc' := 44) (l' := [(0, .inr (.inr 2)), (1, .inl a), (2, .inl x2)]) (st' := []) rfl ?_
            refine k_run 2 (pc' := 2) (l' := [(0, .inr (.inr 2)), (1, .inl a), (2, .inl (x2 + 1))]) (st' := []) rfl ?_
            exact ih (x2 + 1) (by omega) (by omega) (by omega)
set_option maxRecDepth 100000 in
theorem k_Tape_behindName {d : Nat} (hd : 2 ≤ d) {H : hp} (hI : Inv H) {a : Int} (ha : -2147483648 ≤ a ∧ a ≤ 2147483647) (hp0 : 0 ≤ a ∧ a ≤ 1000) : hG (zs zK) d mt_29 0 (zargs 0 [.inr (.inr 2), .inl a]) [] H (fun r9 H9 => ∃ z : Int, r9 = some (.inl z) ∧ ((-2147483648 ≤ z ∧ z ≤ 2147483647) ∧ (a ≤ z ∧ z ≤ 1000)) ∧ H = H9) := by
  refine k_run 0 (pc' := 0) (l' := [(0, .inr (.inr 2)), (1, .inl a)]) (st' := []) rfl ?_
  refine k_run 2 (pc' := 2) (l' := [(0, .inr (.inr 2)), (1, .inl a), (2, .inl a)]) (st' := []) rfl ?_
  exact (k_Tape_behindName_cut hd hI ha hp0 _) a (by omega) (by omega) (Nat.lt_succ_self _)

/-! Tape.addToken -/
set_option maxRecDepth 100000 in
theorem k_Tape_addToken {d : Nat} (hd : 1 ≤ d) {H : hp} (hI : Inv H) {a : Int} {b : Int} {c : Int} (ha : -2147483648 ≤ a ∧ a ≤ 2147483647) (hb : -2147483648 ≤ b ∧ b ≤ 2147483647) : hG (zs zK) d mt_28 0 (zargs 0 [.inr (.inr 2), .inl a, .inl b, .inr (.inl c)]) [] H (fun r9 H9 => r9 = none ∧ Inv H9 ∧ fq [(2, 5)] [4, 5, 6] false H H9) := by
  refine k_run 0 (pc' := 0) (l' := [(0, .inr (.inr 2)), (1, .inl a), (2, .inl b), (3, .inr (.inl c))]) (st' := []) rfl ?_
  refine k_run 2 (pc' := 4) (l' := [(0, .inr (.inr 2)), (1, .inl a), (2, .inl b), (3, .inr (.inl c))]) (st' := [.inl (H.1 2 5)]) rfl ?_
  have g1 : 0 ≤ (H.1 2 5) ∧ (H.1 2 5) ≤ 1001 := kn (x := kx_2) hI rfl 5
  refine k_run 2 (pc' := 8) (l' := [(0, .inr (.inr 2)), (1, .inl a), (2, .inl b), (3, .inr (.inl c))]) (st' := [.inr (.inr 4), .inl (H.1 2 5)]) rfl ?_
  refine k_alen (c := 4) (x := kx_4) rfl rfl (by decide) rfl ?_
  refine k_run 0 (pc' := 9) (l' := [(0, .inr (.inr 2)), (1, .inl a), (2, .inl b), (3, .inr (.inl c))]) (st' := [.inl 1001, .inl (H.1 2 5)]) rfl ?_
  refine h_ige (off := 43) (t := 52) rfl rfl (by omega) (by decide) (fun c2 => ?_) (fun c2 => ?_)
  · refine k_run 0 (pc' := 52) (l' := [(0, .inr (.inr 2)), (1, .inl a), (2, .inl b), (3, .inr (.inl c))]) (st' := []) rfl ?_
    refine h_ret rfl rfl ?_
    exact ⟨rfl, hI, (fq_rf _ _ _ _)⟩
  · refine k_run 0 (pc' := 12) (l' := [(0, .inr (.inr 2)), (1, .inl a), (2, .inl b), (3, .inr (.inl c))]) (st' := []) rfl ?_
    refine k_run 5 (pc' := 21) (l' := [(0, .inr (.inr 2)), (1, .inl a), (2, .inl b), (3, .inr (.inl c))]) (st' := [.inl a, .inl (H.1 2 5), .inr (.inr 4)]) rfl ?_
    refine k_istw (c := 4) (j := ((H.1 2 5)).toNat) (i := (H.1 2 5)) (x := kx_4) rfl rfl (by decide) (by decide) rfl (by decide) (by omega) (by omega) hI rfl (fun H3 hI4 hw5 => ?_)
    have hf7 : fq [(2, 5)] [4, 5, 6] false H H3 := fq_w (fq_rf _ _ _ _) hw5 (fpa (by decide) rfl)
    refine k_run 0 (pc' := 22) (l' := [(0, .inr (.inr 2)), (1, .inl a), (2, .inl b), (3, .inr (.inl c))]) (st' := []) rfl ?_
    refine k_run 4 (pc' := 30) (l' := [(0, .inr (.inr 2)), (1, .inl a), (2, .inl b), (3, .inr (.inl c))]) (st' := [.inl (H3.1 2 5), .inr (.inr 5)]) rfl ?_
    have g8 : 0 ≤ (H3.1 2 5) ∧ (H3.1 2 5) ≤ 1001 := kn (x := kx_2) hI4 rfl 5
    have e9 : (H3.1 2 5) = (H.1 2 5) := hw5.2 _ _ (fun q => absurd q.1 (by decide))
    refine k_run 1 (pc' := 31) (l' := [(0, .inr (.inr 2)), (1, .inl a), (2, .inl b), (3, .inr (.inl c))]) (st' := [.inl b, .inl (H3.1 2 5), .inr (.inr 5)]) rfl ?_
    refine k_istw (c := 5) (j := ((H3.1 2 5)).toNat) (i := (H3.1 2 5)) (x := kx_5) rfl rfl (by decide) (by decide) rfl (by decide) (by omega) (by omega) hI4 rfl (fun H10 hI11 hw12 => ?_)
    have hf14 : fq [(2, 5)] [4, 5, 6] false H H10 := fq_w hf7 hw12 (fpa (by decide) rfl)
    refine k_run 0 (pc' := 32) (l' := [(0, .inr (.inr 2)), (1, .inl a), (2, .inl b), (3, .inr (.inl c))]) (st' := []) rfl ?_
    refine k_run 4 (pc' := 40) (l' := [(0, .inr (.inr 2)), (1, .inl a), (2, .inl b), (3, .inr (.inl c))]) (st' := [.inl (H10.1 2 5), .inr (.inr 6)]) rfl ?_
    have g15 : 0 ≤ (H10.1 2 5) ∧ (H10.1 2 5) ≤ 1001 := kn (x := kx_2) hI11 rfl 5
    have e16 : (H10.1 2 5) = (H3.1 2 5) := hw12.2 _ _ (fun q => absurd q.1 (by decide))
    refine k_run 1 (pc' := 41) (l' := [(0, .inr (.inr 2)), (1, .inl a), (2, .inl b), (3, .inr (.inl c))]) (st' := [.inr (.inl c), .inl (H10.1 2 5), .inr (.inr 6)]) rfl ?_
    refine k_lst (c := 6) (j := ((H10.1 2 5)).toNat) (i := (H10.1 2 5)) (x := kx_6) rfl rfl (by decide) (by decide) rfl (by decide) (by omega) (by omega) hI11 rfl (fun H17 hI18 hw19 => ?_)
    have hf21 : fq [(2, 5)] [4, 5, 6] false H H17 := fq_w hf14 hw19 (fpa (by decide) rfl)
    refine k_run 0 (pc' := 42) (l' := [(0, .inr (.inr 2)), (1, .inl a), (2, .inl b), (3, .inr (.inl c))]) (st' := []) rfl ?_
    refine k_run 3 (pc' := 47) (l' := [(0, .inr (.inr 2)), (1, .inl a), (2, .inl b), (3, .inr (.inl c))]) (st' := [.inl (H17.1 2 5), .inr (.inr 2)]) rfl ?_
    have g22 : 0 ≤ (H17.1 2 5) ∧ (H17.1 2 5) ≤ 1001 := kn (x := kx_2) hI18 rfl 5
    have e23 : (H17.1 2 5) = (H10.1 2 5) := hw19.2 _ _ (fun q => absurd q.1 (by decide))
    refine k_run 2 (pc' := 49) (l' := [(0, .inr (.inr 2)), (1, .inl a), (2, .inl b), (3, .inr (.inl c))]) (st' := [.inl ((H17.1 2 5) + 1), .inr (.inr 2)]) rfl ?_
    refine k_puti (z := ((H17.1 2 5) + 1)) (a := 2) (x := kx_2) rfl rfl rfl (by decide) (by decide) rfl rfl rfl rfl hI18 (by omega) (show 0 ≤ ((H17.1 2 5) + 1) ∧ ((H17.1 2 5) + 1) ≤ 1001 by omega) (fun H24 hI25 hw26 hv27 => ?_)
    have hf28 : fq [(2, 5)] [4, 5, 6] false H H24 := fq_w hf21 hw26 (fpo (by decide) rfl)
    refine k_run 0 (pc' := 52) (l' := [(0, .inr (.inr 2)), (1, .inl a), (2, .inl b), (3, .inr (.inl c))]) (st' := []) rfl ?_
    refine h_ret rfl rfl ?_
    exact ⟨rfl, hI25, hf28⟩

/-! Tape.cut -/
set_option maxRecDepth 100000 in
theorem k_Tape_cut_cut {d : Nat} (hd : 3 ≤ d) {H : hp} (hI : Inv H)   : ∀ w : Nat, (∀ (H1 : hp), Inv H1 → fq [(2, 5)] [4, 5, 6] false H H1 → ∀ (x1 : Int) (x2 : Int) (x3 : Int) , (-2147483648 ≤ x1 ∧ x1 ≤ 2147483647) → (-2147483648 ≤ x2 ∧ x2 ≤ 2147483647) → (-2147483648 ≤ x3 ∧ x3 ≤ 2147483647) → (0 ≤ x2 ∧ x2 ≤ 1000) → (0 ≤ x3) → (((2000 - x3).toNat) < w) → hG (zs zK) d mt_27 11 [(0, .inr (.inr 2)), (1, .inl x1), (2, .inl x2), (3, .inl x3)] [] H1 (fun r9 H9 => r9 = none ∧ Inv H9 ∧ fq [(2, 5)] [4, 5, 6] false H H9)) := by
  intro w
  induction w with
  | zero => exact fun _ _ _ _ _ _ _ _ _ _ _ h => absurd h (Nat.not_lt_zero _)
  | succ w ih =>
    intro H1 hI1 hf1 x1 x2 x3 hx1 hx2 hx3 hi0 hi1 hw
    refine k_run 3 (pc' := 16) (l' := [(0, .inr (.inr 2)), (1, .inl x1), (2, .inl x2), (3, .inl x3)]) (st' := [.inl (H1.1 2 1), .inl x3]) rfl ?_
    have g6 : 0 ≤ (H1.1 2 1) ∧ (H1.1 2 1) ≤ 1000 := kn (x := kx_2) hI1 rfl 1
    have e7 : (H1.1 2 1) = (H.1 2 1) := (hf1.1 2 1 rfl (by decide) (by decide)).1
    refine h_ige (off := 126) (t := 142) rfl rfl (by omega) (by omega) (fun c8 => ?_) (fun c8 => ?_)
    · refine k_run 0 (pc' := 142) (l' := [(0, .inr (.inr 2)), (1, .inl x1), (2, .inl x2), (3, .inl x3)]) (st' := []) rfl ?_
      refine k_run 5 (pc' := 149) (l' := [(0, .inr (.inr 2)), (1, .inl x1), (2, .inl x2), (3, .inl x3)]) (st' := [.inr (.inl 0), .inl (H1.1 2 1), .inl 0, .inr (.inr 2)]) rfl ?_
      refine h_cv (i := 51) (j := 28) (b := 2) (M' := mt_28) (xs := [.inr (.inl 0), .inl (H1.1 2 1), .inl 0]) (rest := []) rfl rfl rfl rfl (zs_K (x := kx_2) rfl (by decide)) rfl (Nat.le_of_ble_eq_true rfl) (Nat.le_of_ble_eq_true rfl) (by omega) (k_Tape_addToken (by omega) hI1 (by decide) (by omega)) ?_
      rintro _ H10 ⟨rfl, hI11, hq12⟩
      have hf13 : fq [(2, 5)] [4, 5, 6] false H H10 := fq_t hf1 hq12 rfl rfl rfl
      refine k_run 0 (pc' := 152) (l' := [(0, .inr (.inr 2)), (1, .inl x1), (2, .inl x2), (3, .inl x3)]) (st' := []) rfl ?_
      refine h_ret rfl rfl ?_
      exact ⟨rfl, hI11, hf13⟩
    · refine k_run 0 (pc' := 19) (l' := [(0, .inr (.inr 2)), (1, .inl x1), (2, .inl x2), (3, .inl x3)]) (st' := []) rfl ?_
      refine k_run 3 (pc' := 24) (l' := [(0, .inr (.inr 2)), (1, .inl x1), (2, .inl x2), (3, .inl x3)]) (st' := [.inl (H1.1 2 1), .inl x2]) rfl ?_
      refine h_ige (off := 118) (t := 142) rfl rfl (by omega) (by omega) (fun c14 => ?_) (fun c14 => ?_)
      · refine k_run 0 (pc' := 142) (l' := [(0, .inr (.inr 2)), (1, .inl x1), (2, .inl x2), (3, .inl x3)]) (st' := []) rfl ?_
        refine k_run 5 (pc' := 149) (l' := [(0, .inr (.inr 2)), (1, .inl x1), (2, .inl x2), (3, .inl x3)]) (st' := [.inr (.inl 0), .inl (H1.1 2 1), .inl 0, .inr (.inr 2)]) rfl ?_
        refine h_cv (i := 51) (j := 28) (b := 2) (M' := mt_28) (xs := [.inr (.inl 0), .inl (H1.1 2 1), .inl 0]) (rest := []) rfl rfl rfl rfl (zs_K (x := kx_2) rfl (by decide)) rfl (Nat.le_of_ble_eq_true rfl) (Nat.le_of_ble_eq_true rfl) (by omega) (k_Tape_addToken (by omega) hI1 (by decide) (by omega)) ?_
        rintro _ H16 ⟨rfl, hI17, hq18⟩
        have hf19 : fq [(2, 5)] [4, 5, 6] false H H16 := fq_t hf1 hq18 rfl rfl rfl
        refine k_run 0 (pc' := 152) (l' := [(0, .inr (.inr 2)), (1, .inl x1), (2, .inl x2), (3, .inl x3)]) (st' := []) rfl ?_
        refine h_ret rfl rfl ?_
        exact ⟨rfl, hI17, hf19⟩
      · refine k_run 0 (pc' := 27) (l' := [(0, .inr (.inr 2)), (1, .inl x1), (2, .inl x2), (3, .inl x3)]) (st' := []) rfl ?_
        refine k_run 1 (pc' := 28) (l' := [(0, .inr (.inr 2)), (1, .inl x1), (2, .inl x2), (3, .inl x3)]) (st' := [.inl x1]) rfl ?_
        refine h_zne (off := 114) (t := 142) rfl rfl (by omega) (fun c20 => ?_) (fun c20 => ?_)
        · refine k_run 0 (pc' := 142) (l' := [(0, .inr (.inr 2)), (1, .inl x1), (2, .inl x2), (3, .inl x3)]) (st' := []) rfl ?_
          refine k_run 5 (pc' := 149) (l' := [(0, .inr (.inr 2)), (1, .inl x1), (2, .inl x2), (3, .inl x3)]) (st' := [.inr (.inl 0), .inl (H1.1 2 1), .inl 0, .inr (.inr 2)]) rfl ?_
          refine h_cv (i := 51) (j := 28) (b := 2) (M' := mt_28) (xs := [.inr (.inl 0), .inl (H1.1 2 1), .inl 0]) (rest := []) rfl rfl rfl rfl (zs_K (x := kx_2) rfl (by decide)) rfl (Nat.le_of_ble_eq_true rfl) (Nat.le_of_ble_eq_true rfl) (by omega) (k_Tape_addToken (by omega) hI1 (by decide) (by omega)) ?_
          rintro _ H22 ⟨rfl, hI23, hq24⟩
          have hf25 : fq [(2, 5)] [4, 5, 6] false H H22 := fq_t hf1 hq24 rfl rfl rfl
          refine k_run 0 (pc' := 152) (l' := [(0, .inr (.inr 2)), (1, .inl x1), (2, .inl x2), (3, .inl x3)]) (st' := []) rfl ?_
          refine h_ret rfl rfl ?_
          exact ⟨rfl, hI23, hf25⟩
        · refine k_run 0 (pc' := 31) (l' := [(0, .inr (.inr 2)), (1, .inl x1), (2, .inl x2), (3, .inl x3)]) (st' := []) rfl ?_
          refine k_run 3 (pc' := 36) (l' := [(0, .inr (.inr 2)), (1, .inl x1), (2, .inl x2), (3, .inl x3)]) (st' := [.inl x2, .inr (.inr 3)]) rfl ?_
          refine k_ild (c := 3) (j := (x2).toNat) (i := x2) (x := kx_3) rfl rfl (by decide) rfl (by decide) (by omega) (by omega) ?_
          have g26 : -2147483648 ≤ (H1.1 3 (x2).toNat) ∧ (H1.1 3 (x2).toNat) ≤ 2147483647 := kn (x := kx_3) hI1 rfl (x2).toNat
          have e27 : (H1.1 3 (x2).toNat) = (H.1 3 (x2).toNat) := (hf1.1 3 (x2).toNat rfl (by decide) (fun q => by simp at q)).1
          refine k_run 0 (pc' := 37) (l' := [(0, .inr (.inr 2)), (1, .inl x1), (2, .inl x2), (3, .inl x3)]) (st' := [.inl (H1.1 3 (x2).toNat)]) rfl ?_
          refine k_run 2 (pc' := 41) (l' := [(0, .inr (.inr 2)), (1, .inl x1), (2, .inl x2), (3, .inl x3), (4, .inl (H1.1 3 (x2).toNat))]) (st' := [.inl (H1.1 3 (x2).toNat)]) rfl ?_
          refine h_cs (i := 32) (j := 33) (M' := mt_33) (xs := [.inl (H1.1 3 (x2).toNat)]) (rest := []) rfl rfl rfl rfl rfl (Nat.le_of_ble_eq_true rfl) (Nat.le_of_ble_eq_true rfl) (by omega) (k_Tape_isLetter (by omega)  (by omega)) ?_
          rintro _ _ ⟨z32, rfl, g28, rfl⟩
          refine k_run 0 (pc' := 44) (l' := [(0, .inr (.inr 2)), (1, .inl x1), (2, .inl x2), (3, .inl x3), (4, .inl (H1.1 3 (x2).toNat))]) (st' := [.inl z32]) rfl ?_
          refine h_zeq (off := 11) (t := 55) rfl rfl (by omega) (fun c33 => ?_) (fun c33 => ?_)
          · refine k_run 0 (pc' := 55) (l' := [(0, .inr (.inr 2)), (1, .inl x1), (2, .inl x2), (3, .inl x3), (4, .inl (H1.1 3 (x2).toNat))]) (st' := []) rfl ?_
            refine k_run 6 (pc' := 64) (l' := [(0, .inr (.inr 2)), (1, .inl x1), (2, .inl x2), (3, .inl x3), (4, .inl (H1.1 3 (x2).toNat)), (5, .inl (x2 + 1))]) (st' := [.inl 32, .inl (H1.1 3 (x2).toNat)]) rfl ?_
            refine h_ieq (off := 69) (t := 133) rfl rfl (by omega) (by decide) (fun c34 => ?_) (fun c34 => ?_)
            · refine k_run 0 (pc' := 133) (l' := [(0, .inr (.inr 2)), (1, .inl x1), (2, .inl x2), (3, .inl x3), (4, .inl (H1.1 3 (x2).toNat)), (5, .inl (x2 + 1))]) (st' := []) rfl ?_
              refine k_run 4 (pc' := 11) (l' := [(0, .inr (.inr 2)), (1, .inl x1), (2, .inl (x2 + 1)), (3, .inl (x3 + 1)), (4, .inl (H1.1 3 (x2).toNat)), (5, .inl (x2 + 1))]) (st' := []) rfl ?_
              refine h_loc [0, 1, 2, 3] rfl ?_
              exact ih H1 hI1 hf1 x1 (x2 + 1) (x3 + 1) (by omega) (by omega) (by omega) (by omega) (by omega) (by omega)
            · refine k_run 0 (pc' := 67) (l' := [(0, .inr (.inr 2)), (1, .inl x1), (2, .inl x2), (3, .inl x3), (4, .inl (H1.1 3 (x2).toNat)), (5, .inl (x2 + 1))]) (st' := []) rfl ?_
              refine k_run 2 (pc' := 71) (l' := [(0, .inr (.inr 2)), (1, .inl x1), (2, .inl x2), (3, .inl x3), (4, .inl (H1.1 3 (x2).toNat)), (5, .inl (x2 + 1))]) (st' := [.inl 10, .inl (H1.1 3 (x2).toNat)]) rfl ?_
              refine h_ieq (off := 62) (t := 133) rfl rfl (by omega) (by decide) (fun c35 => ?_) (fun c35 => ?_)
              · refine k_run 0 (pc' := 133) (l' := [(0, .inr (.inr 2)), (1, .inl x1), (2, .inl x2), (3, .inl x3), (4, .inl (H1.1 3 (x2).toNat)), (5, .inl (x2 + 1))]) (st' := []) rfl ?_
                refine k_run 4 (pc' := 11) (l' := [(0, .inr (.inr 2)), (1, .inl x1), (2, .inl (x2 + 1)), (3, .inl (x3 + 1)), (4, .inl (H1.1 3 (x2).toNat)), (5, .inl (x2 + 1))]) (st' := []) rfl ?_
                refine h_loc [0, 1, 2, 3] rfl ?_
                exact ih H1 hI1 hf1 x1 (x2 + 1) (x3 + 1) (by omega) (by omega) (by omega) (by omega) (by omega) (by omega)
              · refine k_run 0 (pc' := 74) (l' := [(0, .inr (.inr 2)), (1, .inl x1), (2, .inl x2), (3, .inl x3), (4, .inl (H1.1 3 (x2).toNat)), (5, .inl (x2 + 1))]) (st' := []) rfl ?_
                refine k_run 3 (pc' := 78) (l' := [(0, .inr (.inr 2)), (1, .inl x1), (2, .inl x2), (3, .inl x3), (4, .inl (H1.1 3 (x2).toNat)), (5, .inl (x2 + 1))]) (st' := [.inl (x2 + 1), .inl x2, .inr (.inr 2)]) rfl ?_
                refine h_cv (i := 40) (j := 30) (b := 2) (M' := mt_30) (xs := [.inl (x2 + 1), .inl x2]) (rest := []) rfl rfl rfl rfl (zs_K (x := kx_2) rfl (by decide)) rfl (Nat.le_of_ble_eq_true rfl) (Nat.le_of_ble_eq_true rfl) (by omega) (k_Tape_nameOf (by omega) hI1 (by omega) (by omega) (by omega) (by omega)) ?_
                rintro _ _ ⟨z40, rfl, g36, rfl⟩
                refine k_run 0 (pc' := 81) (l' := [(0, .inr (.inr 2)), (1, .inl x1), (2, .inl x2), (3, .inl x3), (4, .inl (H1.1 3 (x2).toNat)), (5, .inl (x2 + 1))]) (st' := [.inr (.inl z40)]) rfl ?_
                refine k_run 2 (pc' := 85) (l' := [(0, .inr (.inr 2)), (1, .inl x1), (2, .inl x2), (3, .inl x3), (4, .inl (H1.1 3 (x2).toNat)), (5, .inl (x2 + 1)), (6, .inr (.inl z40))]) (st' := [.inl (H1.1 3 (x2).toNat)]) rfl ?_
                refine h_cs (i := 32) (j := 33) (M' := mt_33) (xs := [.inl (H1.1 3 (x2).toNat)]) (rest := []) rfl rfl rfl rfl rfl (Nat.le_of_ble_eq_true rfl) (Nat.le_of_ble_eq_true rfl) (by omega) (k_Tape_isLetter (by omega)  (by omega)) ?_
                rintro _ _ ⟨z45, rfl, g41, rfl⟩
                refine k_run 0 (pc' := 88) (l' := [(0, .inr (.inr 2)), (1, .inl x1), (2, .inl x2), (3, .inl x3), (4, .inl (H1.1 3 (x2).toNat)), (5, .inl (x2 + 1)), (6, .inr (.inl z40))]) (st' := [.inl z45]) rfl ?_
                refine h_zeq (off := 17) (t := 105) rfl rfl (by omega) (fun c46 => ?_) (fun c46 => ?_)
                · refine k_run 0 (pc' := 105) (l' := [(0, .inr (.inr 2)), (1, .inl x1), (2, .inl x2), (3, .inl x3), (4, .inl (H1.1 3 (x2).toNat)), (5, .inl (x2 + 1)), (6, .inr (.inl z40))]) (st' := []) rfl ?_
                  refine k_run 1 (pc' := 107) (l' := [(0, .inr (.inr 2)), (1, .inl x1), (2, .inl x2), (3, .inl x3), (4, .inl (H1.1 3 (x2).toNat)), (5, .inl (x2 + 1)), (6, .inr (.inl z40))]) (st' := [.inl (H1.1 3 (x2).toNat)]) rfl ?_
                  refine h_cs (i := 48) (j := 32) (M' := mt_32) (xs := [.inl (H1.1 3 (x2).toNat)]) (rest := []) rfl rfl rfl rfl rfl (Nat.le_of_ble_eq_true rfl) (Nat.le_of_ble_eq_true rfl) (by omega) (k_Tape_tokenOfSign (by omega)  (by omega)) ?_
                  rintro _ _ ⟨z51, rfl, g47, rfl⟩
                  refine k_run 0 (pc' := 110) (l' := [(0, .inr (.inr 2)), (1, .inl x1), (2, .inl x2), (3, .inl x3), (4, .inl (H1.1 3 (x2).toNat)), (5, .inl (x2 + 1)), (6, .inr (.inl z40))]) (st' := [.inl z51]) rfl ?_
                  refine k_run 3 (pc' := 115) (l' := [(0, .inr (.inr 2)), (1, .inl x1), (2, .inl x2), (3, .inl x3), (4, .inl (H1.1 3 (x2).toNat)), (5, .inl (x2 + 1)), (6, .inr (.inl z40)), (8, .inl z51)]) (st' := [.inl 1, .inl z51]) rfl ?_
                  refine h_ine (off := 7) (t := 122) rfl rfl (by omega) (by decide) (fun c52 => ?_) (fun c52 => ?_)
                  · refine k_run 0 (pc' := 122) (l' := [(0, .inr (.inr 2)), (1, .inl x1), (2, .inl x2), (3, .inl x3), (4, .inl (H1.1 3 (x2).toNat)), (5, .inl (x2 + 1)), (6, .inr (.inl z40)), (8, .inl z51)]) (st' := []) rfl ?_
                    refine k_run 6 (pc' := 130) (l' := [(0, .inr (.inr 2)), (1, .inl 0), (2, .inl x2), (3, .inl x3), (4, .inl (H1.1 3 (x2).toNat)), (5, .inl (x2 + 1)), (6, .inr (.inl z40)), (8, .inl z51)]) (st' := [.inr (.inl z40), .inl x2, .inl z51, .inr (.inr 2)]) rfl ?_
                    refine h_cv (i := 51) (j := 28) (b := 2) (M' := mt_28) (xs := [.inr (.inl z40), .inl x2, .inl z51]) (rest := []) rfl rfl rfl rfl (zs_K (x := kx_2) rfl (by decide)) rfl (Nat.le_of_ble_eq_true rfl) (Nat.le_of_ble_eq_true rfl) (by omega) (k_Tape_addToken (by omega) hI1 (by omega) (by omega)) ?_
                    rintro _ H54 ⟨rfl, hI55, hq56⟩
                    have hf57 : fq [(2, 5)] [4, 5, 6] false H H54 := fq_t hf1 hq56 rfl rfl rfl
                    refine k_run 0 (pc' := 133) (l' := [(0, .inr (.inr 2)), (1, .inl 0), (2, .inl x2), (3, .inl x3), (4, .inl (H1.1 3 (x2).toNat)), (5, .inl (x2 + 1)), (6, .inr (.inl z40)), (8, .inl z51)]) (st' := []) rfl ?_
                    refine k_run 4 (pc' := 11) (l' := [(0, .inr (.inr 2)), (1, .inl 0), (2, .inl (x2 + 1)), (3, .inl (x3 + 1)), (4, .inl (H1.1 3 (x2).toNat)), (5, .inl (x2 + 1)), (6, .inr (.inl z40)), (8, .inl z51)]) (st' := []) rfl ?_
                    refine h_loc [0, 1, 2, 3] rfl ?_
                    exact ih H54 hI55 hf57 (0 : Int) (x2 + 1) (x3 + 1) (by decide) (by omega) (by omega) (by omega) (by omega) (by omega)
                  · refine k_run 0 (pc' := 118) (l' := [(0, .inr (.inr 2)), (1, .inl x1), (2, .inl x2), (3, .inl x3), (4, .inl (H1.1 3 (x2).toNat)), (5, .inl (x2 + 1)), (6, .inr (.inl z40)), (8, .inl z51)]) (st' := []) rfl ?_
                    refine k_run 7 (pc' := 130) (l' := [(0, .inr (.inr 2)), (1, .inl 1), (2, .inl x2), (3, .inl x3), (4, .inl (H1.1 3 (x2).toNat)), (5, .inl (x2 + 1)), (6, .inr (.inl z40)), (8, .inl z51)]) (st' := [.inr (.inl z40), .inl x2, .inl z51, .inr (.inr 2)]) rfl ?_
                    refine h_cv (i := 51) (j := 28) (b := 2) (M' := mt_28) (xs := [.inr (.inl z40), .inl x2, .inl z51]) (rest := []) rfl rfl rfl rfl (zs_K (x := kx_2) rfl (by decide)) rfl (Nat.le_of_ble_eq_true rfl) (Nat.le_of_ble_eq_true rfl) (by omega) (k_Tape_addToken (by omega) hI1 (by omega) (by omega)) ?_
                    rintro _ H59 ⟨rfl, hI60, hq61⟩
                    have hf62 : fq [(2, 5)] [4, 5, 6] false H H59 := fq_t hf1 hq61 rfl rfl rfl
                    refine k_run 0 (pc' := 133) (l' := [(0, .inr (.inr 2)), (1, .inl 1), (2, .inl x2), (3, .inl x3), (4, .inl (H1.1 3 (x2).toNat)), (5, .inl (x2 + 1)), (6, .inr (.inl z40)), (8, .inl z51)]) (st' := []) rfl ?_
                    refine k_run 4 (pc' := 11) (l' := [(0, .inr (.inr 2)), (1, .inl 1), (2, .inl (x2 + 1)), (3, .inl (x3 + 1)), (4, .inl (H1.1 3 (x2).toNat)), (5, .inl (x2 + 1)), (6, .inr (.inl z40)), (8, .inl z51)]) (st' := []) rfl ?_
                    refine h_loc [0, 1, 2, 3] rfl ?_
                    exact ih H59 hI60 hf62 (1 : Int) (x2 + 1) (x3 + 1) (by decide) (by omega) (by omega) (by omega) (by omega) (by omega)
                · refine k_run 0 (pc' := 91) (l' := [(0, .inr (.inr 2)), (1, .inl x1), (2, .inl x2), (3, .inl x3), (4, .inl (H1.1 3 (x2).toNat)), (5, .inl (x2 + 1)), (6, .inr (.inl z40))]) (st' := []) rfl ?_
                  refine k_run 5 (pc' := 99) (l' := [(0, .inr (.inr 2)), (1, .inl x1), (2, .inl x2), (3, .inl x3), (4, .inl (H1.1 3 (x2).toNat)), (5, .inl (x2 + 1)), (6, .inr (.inl z40))]) (st' := [.inr (.inl z40), .inl ((x2 + 1) - x2), .inl (H1.1 3 (x2).toNat)]) rfl ?_
                  refine h_cs (i := 44) (j := 31) (M' := mt_31) (xs := [.inr (.inl z40), .inl ((x2 + 1) - x2), .inl (H1.1 3 (x2).toNat)]) (rest := []) rfl rfl rfl rfl rfl (Nat.le_of_ble_eq_true rfl) (Nat.le_of_ble_eq_true rfl) (by omega) (k_Tape_tokenOfName (by omega)  (by omega) (by omega)) ?_
                  rintro _ _ ⟨z67, rfl, g63, rfl⟩
                  refine k_run 0 (pc' := 102) (l' := [(0, .inr (.inr 2)), (1, .inl x1), (2, .inl x2), (3, .inl x3), (4, .inl (H1.1 3 (x2).toNat)), (5, .inl (x2 + 1)), (6, .inr (.inl z40))]) (st' := [.inl z67]) rfl ?_
                  refine k_run 4 (pc' := 115) (l' := [(0, .inr (.inr 2)), (1, .inl x1), (2, .inl x2), (3, .inl x3), (4, .inl (H1.1 3 (x2).toNat)), (5, .inl (x2 + 1)), (6, .inr (.inl z40)), (8, .inl z67)]) (st' := [.inl 1, .inl z67]) rfl ?_
                  refine h_ine (off := 7) (t := 122) rfl rfl (by omega) (by decide) (fun c68 => ?_) (fun c68 => ?_)
                  · refine k_run 0 (pc' := 122) (l' := [(0, .inr (.inr 2)), (1, .inl x1), (2, .inl x2), (3, .inl x3), (4, .inl (H1.1 3 (x2).toNat)), (5, .inl (x2 + 1)), (6, .inr (.inl z40)), (8, .inl z67)]) (st' := []) rfl ?_
                    refine k_run 6 (pc' := 130) (l' := [(0, .inr (.inr 2)), (1, .inl 0), (2, .inl x2), (3, .inl x3), (4, .inl (H1.1 3 (x2).toNat)), (5, .inl (x2 + 1)), (6, .inr (.inl z40)), (8, .inl z67)]) (st' := [.inr (.inl z40), .inl x2, .inl z67, .inr (.inr 2)]) rfl ?_
                    refine h_cv (i := 51) (j := 28) (b := 2) (M' := mt_28) (xs := [.inr (.inl z40), .inl x2, .inl z67]) (rest := []) rfl rfl rfl rfl (zs_K (x := kx_2) rfl (by decide)) rfl (Nat.le_of_ble_eq_true rfl) (Nat.le_of_ble_eq_true rfl) (by omega) (k_Tape_addToken (by omega) hI1 (by omega) (by omega)) ?_
                    rintro _ H70 ⟨rfl, hI71, hq72⟩
                    have hf73 : fq [(2, 5)] [4, 5, 6] false H H70 := fq_t hf1 hq72 rfl rfl rfl
                    refine k_run 0 (pc' := 133) (l' := [(0, .inr (.inr 2)), (1, .inl 0), (2, .inl x2), (3, .inl x3), (4, .inl (H1.1 3 (x2).toNat)), (5, .inl (x2 + 1)), (6, .inr (.inl z40)), (8, .inl z67)]) (st' := []) rfl ?_
                    refine k_run 4 (pc' := 11) (l' := [(0, .inr (.inr 2)), (1, .inl 0), (2, .inl (x2 + 1)), (3, .inl (x3 + 1)), (4, .inl (H1.1 3 (x2).toNat)), (5, .inl (x2 + 1)), (6, .inr (.inl z40)), (8, .inl z67)]) (st' := []) rfl ?_
                    refine h_loc [0, 1, 2, 3] rfl ?_
                    exact ih H70 hI71 hf73 (0 : Int) (x2 + 1) (x3 + 1) (by decide) (by omega) (by omega) (by omega) (by omega) (by omega)
                  · refine k_run 0 (pc' := 118) (l' := [(0, .inr (.inr 2)), (1, .inl x1), (2, .inl x2), (3, .inl x3), (4, .inl (H1.1 3 (x2).toNat)), (5, .inl (x2 + 1)), (6, .inr (.inl z40)), (8, .inl z67)]) (st' := []) rfl ?_
                    refine k_run 7 (pc' := 130) (l' := [(0, .inr (.inr 2)), (1, .inl 1), (2, .inl x2), (3, .inl x3), (4, .inl (H1.1 3 (x2).toNat)), (5, .inl (x2 + 1)), (6, .inr (.inl z40)), (8, .inl z67)]) (st' := [.inr (.inl z40), .inl x2, .inl z67, .inr (.inr 2)]) rfl ?_
                    refine h_cv (i := 51) (j := 28) (b := 2) (M' := mt_28) (xs := [.inr (.inl z40), .inl x2, .inl z67]) (rest := []) rfl rfl rfl rfl (zs_K (x := kx_2) rfl (by decide)) rfl (Nat.le_of_ble_eq_true rfl) (Nat.le_of_ble_eq_true rfl) (by omega) (k_Tape_addToken (by omega) hI1 (by omega) (by omega)) ?_
                    rintro _ H75 ⟨rfl, hI76, hq77⟩
                    have hf78 : fq [(2, 5)] [4, 5, 6] false H H75 := fq_t hf1 hq77 rfl rfl rfl
                    refine k_run 0 (pc' := 133) (l' := [(0, .inr (.inr 2)), (1, .inl 1), (2, .inl x2), (3, .inl x3), (4, .inl (H1.1 3 (x2).toNat)), (5, .inl (x2 + 1)), (6, .inr (.inl z40)), (8, .inl z67)]) (st' := []) rfl ?_
                    refine k_run 4 (pc' := 11) (l' := [(0, .inr (.inr 2)), (1, .inl 1), (2, .inl (x2 + 1)), (3, .inl (x3 + 1)), (4, .inl (H1.1 3 (x2).toNat)), (5, .inl (x2 + 1)), (6, .inr (.inl z40)), (8, .inl z67)]) (st' := []) rfl ?_
                    refine h_loc [0, 1, 2, 3] rfl ?_
                    exact ih H75 hI76 hf78 (1 : Int) (x2 + 1) (x3 + 1) (by decide) (by omega) (by omega) (by omega) (by omega) (by omega)
          · refine k_run 0 (pc' := 47) (l' := [(0, .inr (.inr 2)), (1, .inl x1), (2, .inl x2), (3, .inl x3), (4, .inl (H1.1 3 (x2).toNat))]) (st' := []) rfl ?_
            refine k_run 2 (pc' := 49) (l' := [(0, .inr (.inr 2)), (1, .inl x1), (2, .inl x2), (3, .inl x3), (4, .inl (H1.1 3 (x2).toNat))]) (st' := [.inl x2, .inr (.inr 2)]) rfl ?_
            refine h_cv (i := 36) (j := 29) (b := 2) (M' := mt_29) (xs := [.inl x2]) (rest := []) rfl rfl rfl rfl (zs_K (x := kx_2) rfl (by decide)) rfl (Nat.le_of_ble_eq_true rfl) (Nat.le_of_ble_eq_true rfl) (by omega) (k_Tape_behindName (by omega) hI1 (by omega) (by omega)) ?_
            rintro _ _ ⟨z83, rfl, g79, rfl⟩
            refine k_run 0 (pc' := 52) (l' := [(0, .inr (.inr 2)), (1, .inl x1), (2, .inl x2), (3, .inl x3), (4, .inl (H1.1 3 (x2).toNat))]) (st' := [.inl z83]) rfl ?_
            refine k_run 4 (pc' := 64) (l' := [(0, .inr (.inr 2)), (1, .inl x1), (2, .inl x2), (3, .inl x3), (4, .inl (H1.1 3 (x2).toNat)), (5, .inl z83)]) (st' := [.inl 32, .inl (H1.1 3 (x2).toNat)]) rfl ?_
            refine h_ieq (off := 69) (t := 133) rfl rfl (by omega) (by decide) (fun c84 => ?_) (fun c84 => ?_)
            · refine k_run 0 (pc' := 133) (l' := [(0, .inr (.inr 2)), (1, .inl x1), (2, .inl x2), (3, .inl x3), (4, .inl (H1.1 3 (x2).toNat)), (5, .inl z83)]) (st' := []) rfl ?_
              refine k_run 4 (pc' := 11) (l' := [(0, .inr (.inr 2)), (1, .inl x1), (2, .inl z83), (3, .inl (x3 + 1)), (4, .inl (H1.1 3 (x2).toNat)), (5, .inl z83)]) (st' := []) rfl ?_
              refine h_loc [0, 1, 2, 3] rfl ?_
              exact ih H1 hI1 hf1 x1 z83 (x3 + 1) (by omega) (by omega) (by omega) (by omega) (by omega) (by omega)
            · refine k_run 0 (pc' := 67) (l' := [(0, .inr (.inr 2)), (1, .inl x1), (2, .inl x2), (3, .inl x3), (4, .inl (H1.1 3 (x2).toNat)), (5, .inl z83)]) (st' := []) rfl ?_
              refine k_run 2 (pc' := 71) (l' := [(0, .inr (.inr 2)), (1, .inl x1), (2, .inl x2), (3, .inl x3), (4, .inl (H1.1 3 (x2).toNat)), (5, .inl z83)]) (st' := [.inl 10, .inl (H1.1 3 (x2).toNat)]) rfl ?_
              refine h_ieq (off := 62) (t := 133) rfl rfl (by omega) (by decide) (fun c85 => ?_) (fun c85 => ?_)
              · refine k_run 0 (pc' := 133) (l' := [(0, .inr (.inr 2)), (1, .inl x1), (2, .inl x2), (3, .inl x3), (4, .inl (H1.1 3 (x2).toNat)), (5, .inl z83)]) (st' := []) rfl ?_
                refine k_run 4 (pc' := 11) (l' := [(0, .inr (.inr 2)), (1, .inl x1), (2, .inl z83), (3, .inl (x3 + 1)), (4, .inl (H1.1 3 (x2).toNat)), (5, .inl z83)]) (st' := []) rfl ?_
                refine h_loc [0, 1, 2, 3] rfl ?_
                exact ih H1 hI1 hf1 x1 z83 (x3 + 1) (by omega) (by omega) (by omega) (by omega) (by omega) (by omega)
              · refine k_run 0 (pc' := 74) (l' := [(0, .inr (.inr 2)), (1, .inl x1), (2, .inl x2), (3, .inl x3), (4, .inl (H1.1 3 (x2).toNat)), (5, .inl z83)]) (st' := []) rfl ?_
                refine k_run 3 (pc' := 78) (l' := [(0, .inr (.inr 2)), (1, .inl x1), (2, .inl x2), (3, .inl x3), (4, .inl (H1.1 3 (x2).toNat)), (5, .inl z83)]) (st' := [.inl z83, .inl x2, .inr (.inr 2)]) rfl ?_
                refine h_cv (i := 40) (j := 30) (b := 2) (M' := mt_30) (xs := [.inl z83, .inl x2]) (rest := []) rfl rfl rfl rfl (zs_K (x := kx_2) rfl (by decide)) rfl (Nat.le_of_ble_eq_true rfl) (Nat.le_of_ble_eq_true rfl) (by omega) (k_Tape_nameOf (by omega) hI1 (by omega) (by omega) (by omega) (by omega)) ?_
                rintro _ _ ⟨z90, rfl, g86, rfl⟩
                refine k_run 0 (pc' := 81) (l' := [(0, .inr (.inr 2)), (1, .inl x1), (2, .inl x2), (3, .inl x3), (4, .inl (H1.1 3 (x2).toNat)), (5, .inl z83)]) (st' := [.inr (.inl z90)]) rfl ?_
                refine k_run 2 (pc' := 85) (l' := [(0, .inr (.inr 2)), (1, .inl x1), (2, .inl x2), (3, .inl x3), (4, .inl (H1.1 3 (x2).toNat)), (5, .inl z83), (6, .inr (.inl z90))]) (st' := [.inl (H1.1 3 (x2).toNat)]) rfl ?_
                refine h_cs (i := 32) (j := 33) (M' := mt_33) (xs := [.inl (H1.1 3 (x2).toNat)]) (rest := []) rfl rfl rfl rfl rfl (Nat.le_of_ble_eq_true rfl) (Nat.le_of_ble_eq_true rfl) (by omega) (k_Tape_isLetter (by omega)  (by omega)) ?_
                rintro _ _ ⟨z95, rfl, g91, rfl⟩
                refine k_run 0 (pc' := 88) (l' := [(0, .inr (.inr 2)), (1, .inl x1), (2, .inl x2), (3, .inl x3), (4, .inl (H1.1 3 (x2).toNat)), (5, .inl z83), (6, .inr (.inl z90))]) (st' := [.inl z95]) rfl ?_
                refine h_zeq (off := 17) (t := 105) rfl rfl (by omega) (fun c96 => ?_) (fun c96 => ?_)
                · refine k_run 0 (pc' := 105) (l' := [(0, .inr (.inr 2)), (1, .inl x1), (2, .inl x2), (3, .inl x3), (4, .inl (H1.1 3 (x2).toNat)), (5, .inl z83), (6, .inr (.inl z90))]) (st' := []) rfl ?_
                  refine k_run 1 (pc' := 107) (l' := [(0, .inr (.inr 2)), (1, .inl x1), (2, .inl x2), (3, .inl x3), (4, .inl (H1.1 3 (x2).toNat)), (5, .inl z83), (6, .inr (.inl z90))]) (st' := [.inl (H1.1 3 (x2).toNat)]) rfl ?_
                  refine h_cs (i := 48) (j := 32) (M' := mt_32) (xs := [.inl (H1.1 3 (x2).toNat)]) (rest := []) rfl rfl rfl rfl rfl (Nat.le_of_ble_eq_true rfl) (Nat.le_of_ble_eq_true rfl) (by omega) (k_Tape_tokenOfSign (by omega)  (by omega)) ?_
                  rintro _ _ ⟨z101, rfl, g97, rfl⟩
                  refine k_run 0 (pc' := 110) (l' := [(0, .inr (.inr 2)), (1, .inl x1), (2, .inl x2), (3, .inl x3), (4, .inl (H1.1 3 (x2).toNat)), (5, .inl z83), (6, .inr (.inl z90))]) (st' := [.inl z101]) rfl ?_
                  refine k_run 3 (pc' := 115) (l' := [(0, .inr (.inr 2)), (1, .inl x1), (2, .inl x2), (3, .inl x3), (4, .inl (H1.1 3 (x2).toNat)), (5, .inl z83), (6, .inr (.inl z90)), (8, .inl z101)]) (st' := [.inl 1, .inl z101]) rfl ?_
                  refine h_ine (off := 7) (t := 122) rfl rfl (by omega) (by decide) (fun c102 => ?_) (fun c102 => ?_)
                  · refine k_run 0 (pc' := 122) (l' := [(0, .inr (.inr 2)), (1, .inl x1), (2, .inl x2), (3, .inl x3), (4, .inl (H1.1 3 (x2).toNat)), (5, .inl z83), (6, .inr (.inl z90)), (8, .inl z101)]) (st' := []) rfl ?_
                    refine k_run 6 (pc' := 130) (l' := [(0, .inr (.inr 2)), (1, .inl 0), (2, .inl x2), (3, .inl x3), (4, .inl (H1.1 3 (x2).toNat)), (5, .inl z83), (6, .inr (.inl z90)), (8, .inl z101)]) (st' := [.inr (.inl z90), .inl x2, .inl z101, .inr (.inr 2)]) rfl ?_
                    refine h_cv (i := 51) (j := 28) (b := 2) (M' := mt_28) (xs := [.inr (.inl z90), .inl x2, .inl z101]) (rest := []) rfl rfl rfl rfl (zs_K (x := kx_2) rfl (by decide)) rfl (Nat.le_of_ble_eq_true rfl) (Nat.le_of_ble_eq_true rfl) (by omega) (k_Tape_addToken (by omega) hI1 (by omega) (by omega)) ?_
                    rintro _ H104 ⟨rfl, hI105, hq106⟩
                    have hf107 : fq [(2, 5)] [4, 5, 6] false H H104 := fq_t hf1 hq106 rfl rfl rfl
                    refine k_run 0 (pc' := 133) (l' := [(0, .inr (.inr 2)), (1, .inl 0), (2, .inl x2), (3, .inl x3), (4, .inl (H1.1 3 (x2).toNat)), (5, .inl z83), (6, .inr (.inl z90)), (8, .inl z101)]) (st' := []) rfl ?_
                    refine k_run 4 (pc' := 11) (l' := [(0, .inr (.inr 2)), (1, .inl 0), (2, .inl z83), (3, .inl (x3 + 1)), (4, .inl (H1.1 3 (x2).toNat)), (5, .inl z83), (6, .inr (.inl z90)), (8, .inl z101)]) (st' := []) rfl ?_
                    refine h_loc [0, 1, 2, 3] rfl ?_
                    exact ih H104 hI105 hf107 (0 : Int) z83 (x3 + 1) (by decide) (by omega) (by omega) (by omega) (by omega) (by omega)
                  · refine k_run 0 (pc' := 118) (l' := [(0, .inr (.inr 2)), (1, .inl x1), (2, .inl x2), (3, .inl x3), (4, .inl (H1.1 3 (x2).toNat)), (5, .inl z83), (6, .inr (.inl z90)), (8, .inl z101)]) (st' := []) rfl ?_
                    refine k_run 7 (pc' := 130) (l' := [(0, .inr (.inr 2)), (1, .inl 1), (2, .inl x2), (3, .inl x3), (4, .inl (H1.1 3 (x2).toNat)), (5, .inl z83), (6, .inr (.inl z90)), (8, .inl z101)]) (st' := [.inr (.inl z90), .inl x2, .inl z101, .inr (.inr 2)]) rfl ?_
                    refine h_cv (i := 51) (j := 28) (b := 2) (M' := mt_28) (xs := [.inr (.inl z90), .inl x2, .inl z101]) (rest := []) rfl rfl rfl rfl (zs_K (x := kx_2) rfl (by decide)) rfl (Nat.le_of_ble_eq_true rfl) (Nat.le_of_ble_eq_true rfl) (by omega) (k_Tape_addToken (by omega) hI1 (by omega) (by omega)) ?_
                    rintro _ H109 ⟨rfl, hI110, hq111⟩
                    have hf112 : fq [(2, 5)] [4, 5, 6] false H H109 := fq_t hf1 hq111 rfl rfl rfl
                    refine k_run 0 (pc' := 133) (l' := [(0, .inr (.inr 2)), (1, .inl 1), (2, .inl x2), (3, .inl x3), (4, .inl (H1.1 3 (x2).toNat)), (5, .inl z83), (6, .inr (.inl z90)), (8, .inl z101)]) (st' := []) rfl ?_
                    refine k_run 4 (pc' := 11) (l' := [(0, .inr (.inr 2)), (1, .inl 1), (2, .inl z83), (3, .inl (x3 + 1)), (4, .inl (H1.1 3 (x2).toNat)), (5, .inl z83), (6, .inr (.inl z90)), (8, .inl z101)]) (st' := []) rfl ?_
                    refine h_loc [0, 1, 2, 3] rfl ?_
                    exact ih H109 hI110 hf112 (1 : Int) z83 (x3 + 1) (by decide) (by omega) (by omega) (by omega) (by omega) (by omega)
                · refine k_run 0 (pc' := 91) (l' := [(0, .inr (.inr 2)), (1, .inl x1), (2, .inl x2), (3, .inl x3), (4, .inl (H1.1 3 (x2).toNat)), (5, .inl z83), (6, .inr (.inl z90))]) (st' := []) rfl ?_
                  refine k_run 5 (pc' := 99) (l' := [(0, .inr (.inr 2)), (1, .inl x1), (2, .inl x2), (3, .inl x3), (4, .inl (H1.1 3 (x2).toNat)), (5, .inl z83), (6, .inr (.inl z90))]) (st' := [.inr (.inl z90), .inl (z83 - x2), .inl (H1.1 3 (x2).toNat)]) rfl ?_
                  refine h_cs (i := 44) (j := 31) (M' := mt_31) (xs := [.inr (.inl z90), .inl (z83 - x2), .inl (H1.1 3 (x2).toNat)]) (rest := []) rfl rfl rfl rfl rfl (Nat.le_of_ble_eq_true rfl) (Nat.le_of_ble_eq_true rfl) (by omega) (k_Tape_tokenOfName (by omega)  (by omega) (by omega)) ?_
                  rintro _ _ ⟨z117, rfl, g113, rfl⟩
                  refine k_run 0 (pc' := 102) (l' := [(0, .inr (.inr 2)), (1, .inl x1), (2, .inl x2), (3, .inl x3), (4, .inl (H1.1 3 (x2).toNat)), (5, .inl z83), (6, .inr (.inl z90))]) (st' := [.inl z117]) rfl ?_
                  refine k_run 4 (pc' := 115) (l' := [(0, .inr (.inr 2)), (1, .inl x1), (2, .inl x2), (3, .inl x3), (4, .inl (H1.1 3 (x2).toNat)), (5, .inl z83), (6, .inr (.inl z90)), (8, .inl z117)]) (st' := [.inl 1, .inl z117]) rfl ?_
                  refine h_ine (off := 7) (t := 122) rfl rfl (by omega) (by decide) (fun c118 => ?_) (fun c118 => ?_)
                  · refine k_run 0 (pc' := 122) (l' := [(0, .inr (.inr 2)), (1, .inl x1), (2, .inl x2), (3, .inl x3), (4, .inl (H1.1 3 (x2).toNat)), (5, .inl z83), (6, .inr (.inl z90)), (8, .inl z117)]) (st' := []) rfl ?_
                    refine k_run 6 (pc' := 130) (l' := [(0, .inr (.inr 2)), (1, .inl 0), (2, .inl x2), (3, .inl x3), (4, .inl (H1.1 3 (x2).toNat)), (5, .inl z83), (6, .inr (.inl z90)), (8, .inl z117)]) (st' := [.inr (.inl z90), .inl x2, .inl z117, .inr (.inr 2)]) rfl ?_
                    refine h_cv (i := 51) (j := 28) (b := 2) (M' := mt_28) (xs := [.inr (.inl z90), .inl x2, .inl z117]) (rest := []) rfl rfl rfl rfl (zs_K (x := kx_2) rfl (by decide)) rfl (Nat.le_of_ble_eq_true rfl) (Nat.le_of_ble_eq_true rfl) (by omega) (k_Tape_addToken (by omega) hI1 (by omega) (by omega)) ?_
                    rintro _ H120 ⟨rfl, hI121, hq122⟩
                    have hf123 : fq [(2, 5)] [4, 5, 6] false H H120 := fq_t hf1 hq122 rfl rfl rfl
                    refine k_run 0 (pc' := 133) (l' := [(0, .inr (.inr 2)), (1, .inl 0), (2, .inl x2), (3, .inl x3), (4, .inl (H1.1 3 (x2).toNat)), (5, .inl z83), (6, .inr (.inl z90)), (8, .inl z117)]) (st' := []) rfl ?_
                    refine k_run 4 (pc' := 11) (l' := [(0, .inr (.inr 2)), (1, .inl 0), (2, .inl z83), (3, .inl (x3 + 1)), (4, .inl (H1.1 3 (x2).toNat)), (5, .inl z83), (6, .inr (.inl z90)), (8, .inl z117)]) (st' := []) rfl ?_
                    refine h_loc [0, 1, 2, 3] rfl ?_
                    exact ih H120 hI121 hf123 (0 : Int) z83 (x3 + 1) (by decide) (by omega) (by omega) (by omega) (by omega) (by omega)
                  · refine k_run 0 (pc' := 118) (l' := [(0, .inr (.inr 2)), (1, .inl x1), (2, .inl x2), (3, .inl x3), (4, .inl (H1.1 3 (x2).toNat)), (5, .inl z83), (6, .inr (.inl z90)), (8, .inl z117)]) (st' := []) rfl ?_
                    refine k_run 7 (pc' := 130) (l' := [(0, .inr (.inr 2)), (1, .inl 1), (2, .inl x2), (3, .inl x3), (4, .inl (H1.1 3 (x2).toNat)), (5, .inl z83), (6, .inr (.inl z90)), (8, .inl z117)]) (st' := [.inr (.inl z90), .inl x2, .inl z117, .inr (.inr 2)]) rfl ?_
                    refine h_cv (i := 51) (j := 28) (b := 2) (M' := mt_28) (xs := [.inr (.inl z90), .inl x2, .inl z117]) (rest := []) rfl rfl rfl rfl (zs_K (x := kx_2) rfl (by decide)) rfl (Nat.le_of_ble_eq_true rfl) (Nat.le_of_ble_eq_true rfl) (by omega) (k_Tape_addToken (by omega) hI1 (by omega) (by omega)) ?_
                    rintro _ H125 ⟨rfl, hI126, hq127⟩
                    have hf128 : fq [(2, 5)] [4, 5, 6] false H H125 := fq_t hf1 hq127 rfl rfl rfl
                    refine k_run 0 (pc' := 133) (l' := [(0, .inr (.inr 2)), (1, .inl 1), (2, .inl x2), (3, .inl x3), (4, .inl (H1.1 3 (x2).toNat)), (5, .inl z83), (6, .inr (.inl z90)), (8, .inl z117)]) (st' := []) rfl ?_
                    refine k_run 4 (pc' := 11) (l' := [(0, .inr (.inr 2)), (1, .inl 1), (2, .inl z83), (3, .inl (x3 + 1)), (4, .inl (H1.1 3 (x2).toNat)), (5, .inl z83), (6, .inr (.inl z90)), (8, .inl z117)]) (st' := []) rfl ?_
                    refine h_loc [0, 1, 2, 3] rfl ?_
                    exact ih H125 hI126 hf128 (1 : Int) z83 (x3 + 1) (by decide) (by omega) (by omega) (by omega) (by omega) (by omega)
set_option maxRecDepth 100000 in
theorem k_Tape_cut {d : Nat} (hd : 3 ≤ d) {H : hp} (hI : Inv H)   : hG (zs zK) d mt_27 0 (zargs 0 [.inr (.inr 2)]) [] H (fun r9 H9 => r9 = none ∧ Inv H9 ∧ fq [(2, 5)] [4, 5, 6] false H H9) := by
  refine k_run 0 (pc' := 0) (l' := [(0, .inr (.inr 2))]) (st' := []) rfl ?_
  refine k_run 2 (pc' := 2) (l' := [(0, .inr (.inr 2))]) (st' := [.inl 0, .inr (.inr 2)]) rfl ?_
  refine k_puti (z := 0) (a := 2) (x := kx_2) rfl rfl rfl (by decide) (by decide) rfl rfl rfl rfl hI (by decide) (show 0 ≤ (0 : Int) ∧ (0 : Int) ≤ 1001 by omega) (fun H1 hI2 hw3 hv4 => ?_)
  have hf5 : fq [(2, 5)] [4, 5, 6] false H H1 := fq_w (fq_rf _ _ _ _) hw3 (fpo (by decide) rfl)
  refine k_run 0 (pc' := 5) (l' := [(0, .inr (.inr 2))]) (st' := []) rfl ?_
  refine k_run 6 (pc' := 11) (l' := [(0, .inr (.inr 2)), (1, .inl 0), (2, .inl 0), (3, .inl 0)]) (st' := []) rfl ?_
  exact (k_Tape_cut_cut hd hI  _) H1 hI2 hf5 (0 : Int) (0 : Int) (0 : Int) (by decide) (by decide) (by decide) (by omega) (by omega) (Nat.lt_succ_self _)

/-! Program.hasLaw -/
set_option maxRecDepth 100000 in
theorem k_Program_hasLaw {d : Nat} (hd : 1 ≤ d) {H : hp} (hI : Inv H) {a : Int} (ha : -2147483648 ≤ a ∧ a ≤ 2147483647) : hG (zs zK) d mt_35 0 (zargs 0 [.inr (.inr 7), .inl a]) [] H (fun r9 H9 => ∃ z : Int, r9 = some (.inl z) ∧ ((0 ≤ z ∧ z ≤ 1) ∧ (z = 0 ∨ (0 ≤ a ∧ a < 16))) ∧ H = H9) := by
  refine k_run 0 (pc' := 0) (l' := [(0, .inr (.inr 7)), (1, .inl a)]) (st' := []) rfl ?_
  refine k_run 1 (pc' := 1) (l' := [(0, .inr (.inr 7)), (1, .inl a)]) (st' := [.inl a]) rfl ?_
  refine h_zlt (off := 24) (t := 25) rfl rfl (by omega) (fun c1 => ?_) (fun c1 => ?_)
  · refine k_run 0 (pc' := 25) (l' := [(0, .inr (.inr 7)), (1, .inl a)]) (st' := []) rfl ?_
    refine k_run 1 (pc' := 26) (l' := [(0, .inr (.inr 7)), (1, .inl a)]) (st' := [.inl 0]) rfl ?_
    refine h_retz (x := 0) rfl rfl (by decide) ?_
    exact ⟨_, rfl, (by omega), rfl⟩
  · refine k_run 0 (pc' := 4) (l' := [(0, .inr (.inr 7)), (1, .inl a)]) (st' := []) rfl ?_
    refine k_run 3 (pc' := 9) (l' := [(0, .inr (.inr 7)), (1, .inl a)]) (st' := [.inl (H.1 7 6), .inl a]) rfl ?_
    have g2 : 0 ≤ (H.1 7 6) ∧ (H.1 7 6) ≤ 16 := kn (x := kx_7) hI rfl 6
    refine h_ige (off := 16) (t := 25) rfl rfl (by omega) (by omega) (fun c3 => ?_) (fun c3 => ?_)
    · refine k_run 0 (pc' := 25) (l' := [(0, .inr (.inr 7)), (1, .inl a)]) (st' := []) rfl ?_
      refine k_run 1 (pc' := 26) (l' := [(0, .inr (.inr 7)), (1, .inl a)]) (st' := [.inl 0]) rfl ?_
      refine h_retz (x := 0) rfl rfl (by decide) ?_
      exact ⟨_, rfl, (by omega), rfl⟩
    · refine k_run 0 (pc' := 12) (l' := [(0, .inr (.inr 7)), (1, .inl a)]) (st' := []) rfl ?_
      refine k_run 3 (pc' := 17) (l' := [(0, .inr (.inr 7)), (1, .inl a)]) (st' := [.inr (.inr 24), .inl a]) rfl ?_
      refine k_alen (c := 24) (x := kx_24) rfl rfl (by decide) rfl ?_
      refine k_run 0 (pc' := 18) (l' := [(0, .inr (.inr 7)), (1, .inl a)]) (st' := [.inl 16, .inl a]) rfl ?_
      refine h_ige (off := 7) (t := 25) rfl rfl (by omega) (by decide) (fun c4 => ?_) (fun c4 => ?_)
      · refine k_run 0 (pc' := 25) (l' := [(0, .inr (.inr 7)), (1, .inl a)]) (st' := []) rfl ?_
        refine k_run 1 (pc' := 26) (l' := [(0, .inr (.inr 7)), (1, .inl a)]) (st' := [.inl 0]) rfl ?_
        refine h_retz (x := 0) rfl rfl (by decide) ?_
        exact ⟨_, rfl, (by omega), rfl⟩
      · refine k_run 0 (pc' := 21) (l' := [(0, .inr (.inr 7)), (1, .inl a)]) (st' := []) rfl ?_
        refine k_run 2 (pc' := 26) (l' := [(0, .inr (.inr 7)), (1, .inl a)]) (st' := [.inl 1]) rfl ?_
        refine h_retz (x := 1) rfl rfl (by decide) ?_
        exact ⟨_, rfl, (by omega), rfl⟩

/-! Program.hasLawNamed -/
set_option maxRecDepth 100000 in
theorem k_Program_hasLawNamed_cut {d : Nat} (hd : 1 ≤ d) {H : hp} (hI : Inv H) {a : Int}  : ∀ w : Nat, (∀ (x3 : Int) , (-2147483648 ≤ x3 ∧ x3 ≤ 2147483647) → (0 ≤ x3) → (((100 - x3).toNat) < w) → hG (zs zK) d mt_36 2 [(0, .inr (.inr 7)), (1, .inr (.inl a)), (3, .inl x3)] [] H (fun r9 H9 => ∃ z : Int, r9 = some (.inl z) ∧ ((0 ≤ z ∧ z ≤ 1)) ∧ H = H9)) := by
  intro w
  induction w with
  | zero => exact fun _ _ _ h => absurd h (Nat.not_lt_zero _)
  | succ w ih =>
    intro x3 hx3 hi0 hw
    refine k_run 3 (pc' := 7) (l' := [(0, .inr (.inr 7)), (1, .inr (.inl a)), (3, .inl x3)]) (st' := [.inl (H.1 7 6), .inl x3]) rfl ?_
    have g1 : 0 ≤ (H.1 7 6) ∧ (H.1 7 6) ≤ 16 := kn (x := kx_7) hI rfl 6
    refine h_ige (off := 25) (t := 32) rfl rfl (by omega) (by omega) (fun c2 => ?_) (fun c2 => ?_)
    · refine k_run 0 (pc' := 32) (l' := [(0, .inr (.inr 7)), (1, .inr (.inl a)), (3, .inl x3)]) (st' := []) rfl ?_
      refine k_run 1 (pc' := 33) (l' := [(0, .inr (.inr 7)), (1, .inr (.inl a)), (3, .inl x3)]) (st' := [.inl 0]) rfl ?_
      refine h_retz (x := 0) rfl rfl (by decide) ?_
      exact ⟨_, rfl, (by omega), rfl⟩
    · refine k_run 0 (pc' := 10) (l' := [(0, .inr (.inr 7)), (1, .inr (.inl a)), (3, .inl x3)]) (st' := []) rfl ?_
      refine k_run 3 (pc' := 15) (l' := [(0, .inr (.inr 7)), (1, .inr (.inl a)), (3, .inl x3)]) (st' := [.inl x3, .inr (.inr 24)]) rfl ?_
      refine k_ald (c := 24) (j := (x3).toNat) (i := x3) (x := kx_24) rfl rfl (by decide) rfl (by decide) (by omega) (by omega) hI (fun h3 => ?_)
      obtain ⟨t4, et6⟩ : ∃ t9, t9 = H.2 24 (x3).toNat := ⟨_, rfl⟩
      rw [← et6] at h3 ⊢
      have k5 : isE t4 := h3
      refine k_run 0 (pc' := 16) (l' := [(0, .inr (.inr 7)), (1, .inr (.inl a)), (3, .inl x3)]) (st' := [.inr (.inr t4)]) rfl ?_
      refine k_get (a := t4) (x := (kEo t4)) (v := .inr (.inl (H.1 t4 5))) rfl rfl k5.1 (iE0 k5) rfl rfl rfl ?_
      have g7 : -9223372036854775808 ≤ (H.1 t4 5) ∧ (H.1 t4 5) ≤ 9223372036854775807 := kn hI k5.1 5
      refine k_run 0 (pc' := 19) (l' := [(0, .inr (.inr 7)), (1, .inr (.inl a)), (3, .inl x3)]) (st' := [.inr (.inl (H.1 t4 5))]) rfl ?_
      refine k_run 2 (pc' := 21) (l' := [(0, .inr (.inr 7)), (1, .inr (.inl a)), (3, .inl x3)]) (st' := [.inl (z_cmp (H.1 t4 5) a)]) rfl ?_
      refine k_nrm (fun y8 hy8 => ?_)
      refine k_run 0 (pc' := 21) (l' := [(0, .inr (.inr 7)), (1, .inr (.inl a)), (3, .inl x3)]) (st' := [.inl y8]) rfl ?_
      refine h_zne (off := 5) (t := 26) rfl rfl (by omega) (fun c9 => ?_) (fun c9 => ?_)
      · refine k_run 0 (pc' := 26) (l' := [(0, .inr (.inr 7)), (1, .inr (.inl a)), (3, .inl x3)]) (st' := []) rfl ?_
        refine k_run 2 (pc' := 2) (l' := [(0, .inr (.inr 7)), (1, .inr (.inl a)), (3, .inl (x3 + 1))]) (st' := []) rfl ?_
        exact ih (x3 + 1) (by omega) (by omega) (by omega)
      · refine k_run 0 (pc' := 24) (l' := [(0, .inr (.inr 7)), (1, .inr (.inl a)), (3, .inl x3)]) (st' := []) rfl ?_
        refine k_run 1 (pc' := 25) (l' := [(0, .inr (.inr 7)), (1, .inr (.inl a)), (3, .inl x3)]) (st' := [.inl 1]) rfl ?_
        refine h_retz (x := 1) rfl rfl (by decide) ?_
        exact ⟨_, rfl, (by omega), rfl⟩
set_option maxRecDepth 100000 in
theorem k_Program_hasLawNamed {d : Nat} (hd : 1 ≤ d) {H : hp} (hI : Inv H) {a : Int}  : hG (zs zK) d mt_36 0 (zargs 0 [.inr (.inr 7), .inr (.inl a)]) [] H (fun r9 H9 => ∃ z : Int, r9 = some (.inl z) ∧ ((0 ≤ z ∧ z ≤ 1)) ∧ H = H9) := by
  refine k_run 0 (pc' := 0) (l' := [(0, .inr (.inr 7)), (1, .inr (.inl a))]) (st' := []) rfl ?_
  refine k_run 2 (pc' := 2) (l' := [(0, .inr (.inr 7)), (1, .inr (.inl a)), (3, .inl 0)]) (st' := []) rfl ?_
  exact (k_Program_hasLawNamed_cut hd hI  _) (0 : Int) (by decide) (by omega) (Nat.lt_succ_self _)

/-! Program.typeOf -/
set_option maxRecDepth 100000 in
theorem k_Program_typeOf {d : Nat} (hd : 2 ≤ d) {H : hp} (hI : Inv H) {a : Int} {b n : Nat} (ha : -2147483648 ≤ a ∧ a ≤ 2147483647) (hb : isA b n) : hG (zs zK) d mt_37 0 (zargs 0 [.inr (.inr 7), .inl a, .inr (.inr b)]) [] H (fun r9 H9 => ∃ z : Int, r9 = some (.inl z) ∧ ((-2147483648 ≤ z ∧ z ≤ 2147483647) ∧ (-2 ≤ z ∧ z ≤ 100)) ∧ H = H9) := by
  have hbb : n ≤ 240 := by obtain ⟨_, _, _, _, h9⟩ := hb; exact h9
  refine k_run 0 (pc' := 0) (l' := [(0, .inr (.inr 7)), (1, .inl a), (2, .inr (.inr b))]) (st' := []) rfl ?_
  refine k_run 1 (pc' := 1) (l' := [(0, .inr (.inr 7)), (1, .inl a), (2, .inr (.inr b))]) (st' := [.inl a]) rfl ?_
  refine h_cs (i := 44) (j := 50) (M' := mt_50) (xs := [.inl a]) (rest := []) rfl rfl rfl rfl rfl (Nat.le_of_ble_eq_true rfl) (Nat.le_of_ble_eq_true rfl) (by omega) (k_Term_indexOf (by omega)  (by omega)) ?_
  rintro _ _ ⟨z5, rfl, g1, rfl⟩
  refine k_run 0 (pc' := 4) (l' := [(0, .inr (.inr 7)), (1, .inl a), (2, .inr (.inr b))]) (st' := [.inl z5]) rfl ?_
  refine k_run 2 (pc' := 6) (l' := [(0, .inr (.inr 7)), (1, .inl a), (2, .inr (.inr b)), (3, .inl z5)]) (st' := [.inl a]) rfl ?_
  refine h_cs (i := 50) (j := 49) (M' := mt_49) (xs := [.inl a]) (rest := []) rfl rfl rfl rfl rfl (Nat.le_of_ble_eq_true rfl) (Nat.le_of_ble_eq_true rfl) (by omega) (k_Term_kindOf (by omega)  (by omega)) ?_
  rintro _ _ ⟨z10, rfl, g6, rfl⟩
  refine k_run 0 (pc' := 9) (l' := [(0, .inr (.inr 7)), (1, .inl a), (2, .inr (.inr b)), (3, .inl z5)]) (st' := [.inl z10]) rfl ?_
  rcases (show z10 < 1 ∨ 3 < z10 ∨ z10 = 1 ∨ z10 = 2 ∨ z10 = 3 by omega) with c11 | c11 | c11 | c11 | c11
  · refine h_tout (t := 102) rfl (by omega) (Or.inl c11) rfl ?_
    refine k_run 1 (pc' := 103) (l' := [(0, .inr (.inr 7)), (1, .inl a), (2, .inr (.inr b)), (3, .inl z5)]) (st' := [.inl (-1)]) rfl ?_
    refine h_reti (x := (-1)) rfl rfl ?_
    exact ⟨_, rfl, (by omega), rfl⟩
  · refine h_tout (t := 102) rfl (by omega) (Or.inr c11) rfl ?_
    refine k_run 1 (pc' := 103) (l' := [(0, .inr (.inr 7)), (1, .inl a), (2, .inr (.inr b)), (3, .inl z5)]) (st' := [.inl (-1)]) rfl ?_
    refine h_reti (x := (-1)) rfl rfl ?_
    exact ⟨_, rfl, (by omega), rfl⟩
  · refine h_tin (k := 0) (t := 36) rfl (by omega) (show z10 = 1 + ((0 : Nat) : Int) by omega) (by decide) rfl rfl ?_
    refine k_run 4 (pc' := 44) (l' := [(0, .inr (.inr 7)), (1, .inl a), (2, .inr (.inr b)), (3, .inl z5)]) (st' := [.inr (.inr 15), .inl z5]) rfl ?_
    refine k_alen (c := 15) (x := kx_15) rfl rfl (by decide) rfl ?_
    refine k_run 0 (pc' := 45) (l' := [(0, .inr (.inr 7)), (1, .inl a), (2, .inr (.inr b)), (3, .inl z5)]) (st' := [.inl 16, .inl z5]) rfl ?_
    refine h_ige (off := 15) (t := 60) rfl rfl (by omega) (by decide) (fun c12 => ?_) (fun c12 => ?_)
    · refine k_run 0 (pc' := 60) (l' := [(0, .inr (.inr 7)), (1, .inl a), (2, .inr (.inr b)), (3, .inl z5)]) (st' := []) rfl ?_
      refine k_run 1 (pc' := 61) (l' := [(0, .inr (.inr 7)), (1, .inl a), (2, .inr (.inr b)), (3, .inl z5)]) (st' := [.inl (-1)]) rfl ?_
      refine h_reti (x := (-1)) rfl rfl ?_
      exact ⟨_, rfl, (by omega), rfl⟩
    · refine k_run 0 (pc' := 48) (l' := [(0, .inr (.inr 7)), (1, .inl a), (2, .inr (.inr b)), (3, .inl z5)]) (st' := []) rfl ?_
      refine k_run 4 (pc' := 56) (l' := [(0, .inr (.inr 7)), (1, .inl a), (2, .inr (.inr b)), (3, .inl z5)]) (st' := [.inl z5, .inr (.inr 15)]) rfl ?_
      refine k_ild (c := 15) (j := (z5).toNat) (i := z5) (x := kx_15) rfl rfl (by decide) rfl (by decide) (by omega) (by omega) ?_
      have g13 : -2 ≤ (H.1 15 (z5).toNat) ∧ (H.1 15 (z5).toNat) ≤ 100 := kn (x := kx_15) hI rfl (z5).toNat
      refine k_run 0 (pc' := 57) (l' := [(0, .inr (.inr 7)), (1, .inl a), (2, .inr (.inr b)), (3, .inl z5)]) (st' := [.inl (H.1 15 (z5).toNat)]) rfl ?_
      refine k_run 1 (pc' := 61) (l' := [(0, .inr (.inr 7)), (1, .inl a), (2, .inr (.inr b)), (3, .inl z5)]) (st' := [.inl (H.1 15 (z5).toNat)]) rfl ?_
      refine h_reti (x := (H.1 15 (z5).toNat)) rfl rfl ?_
      exact ⟨_, rfl, (by omega), rfl⟩
  · refine h_tin (k := 1) (t := 62) rfl (by omega) (show z10 = 1 + ((1 : Nat) : Int) by omega) (by decide) rfl rfl ?_
    refine k_run 4 (pc' := 70) (l' := [(0, .inr (.inr 7)), (1, .inl a), (2, .inr (.inr b)), (3, .inl z5)]) (st' := [.inr (.inr 20), .inl z5]) rfl ?_
    refine k_alen (c := 20) (x := kx_20) rfl rfl (by decide) rfl ?_
    refine k_run 0 (pc' := 71) (l' := [(0, .inr (.inr 7)), (1, .inl a), (2, .inr (.inr b)), (3, .inl z5)]) (st' := [.inl 16, .inl z5]) rfl ?_
    refine h_ige (off := 15) (t := 86) rfl rfl (by omega) (by decide) (fun c14 => ?_) (fun c14 => ?_)
    · refine k_run 0 (pc' := 86) (l' := [(0, .inr (.inr 7)), (1, .inl a), (2, .inr (.inr b)), (3, .inl z5)]) (st' := []) rfl ?_
      refine k_run 1 (pc' := 87) (l' := [(0, .inr (.inr 7)), (1, .inl a), (2, .inr (.inr b)), (3, .inl z5)]) (st' := [.inl (-1)]) rfl ?_
      refine h_reti (x := (-1)) rfl rfl ?_
      exact ⟨_, rfl, (by omega), rfl⟩
    · refine k_run 0 (pc' := 74) (l' := [(0, .inr (.inr 7)), (1, .inl a), (2, .inr (.inr b)), (3, .inl z5)]) (st' := []) rfl ?_
      refine k_run 4 (pc' := 82) (l' := [(0, .inr (.inr 7)), (1, .inl a), (2, .inr (.inr b)), (3, .inl z5)]) (st' := [.inl z5, .inr (.inr 20)]) rfl ?_
      refine k_ild (c := 20) (j := (z5).toNat) (i := z5) (x := kx_20) rfl rfl (by decide) rfl (by decide) (by omega) (by omega) ?_
      have g15 : -2 ≤ (H.1 20 (z5).toNat) ∧ (H.1 20 (z5).toNat) ≤ 100 := kn (x := kx_20) hI rfl (z5).toNat
      refine k_run 0 (pc' := 83) (l' := [(0, .inr (.inr 7)), (1, .inl a), (2, .inr (.inr b)), (3, .inl z5)]) (st' := [.inl (H.1 20 (z5).toNat)]) rfl ?_
      refine k_run 1 (pc' := 87) (l' := [(0, .inr (.inr 7)), (1, .inl a), (2, .inr (.inr b)), (3, .inl z5)]) (st' := [.inl (H.1 20 (z5).toNat)]) rfl ?_
      refine h_reti (x := (H.1 20 (z5).toNat)) rfl rfl ?_
      exact ⟨_, rfl, (by omega), rfl⟩
  · refine h_tin (k := 2) (t := 88) rfl (by omega) (show z10 = 1 + ((2 : Nat) : Int) by omega) (by decide) rfl rfl ?_
    refine k_run 2 (pc' := 90) (l' := [(0, .inr (.inr 7)), (1, .inl a), (2, .inr (.inr b)), (3, .inl z5)]) (st' := [.inr (.inr b), .inl z5]) rfl ?_
    refine h_alen (c := b) rfl (iAs hb) ?_
    refine k_run 0 (pc' := 91) (l' := [(0, .inr (.inr 7)), (1, .inl a), (2, .inr (.inr b)), (3, .inl z5)]) (st' := [.inl (n : Int), .inl z5]) rfl ?_
    refine h_ige (off := 9) (t := 100) rfl rfl (by omega) (by omega) (fun c16 => ?_) (fun c16 => ?_)
    · refine k_run 0 (pc' := 100) (l' := [(0, .inr (.inr 7)), (1, .inl a), (2, .inr (.inr b)), (3, .inl z5)]) (st' := []) rfl ?_
      refine k_run 1 (pc' := 101) (l' := [(0, .inr (.inr 7)), (1, .inl a), (2, .inr (.inr b)), (3, .inl z5)]) (st' := [.inl (-1)]) rfl ?_
      refine h_reti (x := (-1)) rfl rfl ?_
      exact ⟨_, rfl, (by omega), rfl⟩
    · refine k_run 0 (pc' := 94) (l' := [(0, .inr (.inr 7)), (1, .inl a), (2, .inr (.inr b)), (3, .inl z5)]) (st' := []) rfl ?_
      refine k_run 2 (pc' := 96) (l' := [(0, .inr (.inr 7)), (1, .inl a), (2, .inr (.inr b)), (3, .inl z5)]) (st' := [.inl z5, .inr (.inr b)]) rfl ?_
      refine h_ild (c := b) (j := (z5).toNat) (i := z5) rfl (iAs hb) (by omega) (by omega) (by omega) ?_
      have g17 : -2 ≤ (H.1 b (z5).toNat) ∧ (H.1 b (z5).toNat) ≤ 100 := iAz hI hb (z5).toNat
      refine k_run 0 (pc' := 97) (l' := [(0, .inr (.inr 7)), (1, .inl a), (2, .inr (.inr b)), (3, .inl z5)]) (st' := [.inl (H.1 b (z5).toNat)]) rfl ?_
      refine k_run 1 (pc' := 101) (l' := [(0, .inr (.inr 7)), (1, .inl a), (2, .inr (.inr b)), (3, .inl z5)]) (st' := [.inl (H.1 b (z5).toNat)]) rfl ?_
      refine h_reti (x := (H.1 b (z5).toNat)) rfl rfl ?_
      exact ⟨_, rfl, (by omega), rfl⟩

/-! Program.codeOfConstructor -/
set_option maxRecDepth 100000 in
theorem k_Program_codeOfConstructor {d : Nat} (hd : 2 ≤ d) {H : hp} (hI : Inv H) {a : Int} (ha : -2147483648 ≤ a ∧ a ≤ 2147483647) : hG (zs zK) d mt_38 0 (zargs 0 [.inr (.inr 7), .inl a]) [] H (fun r9 H9 => ∃ z : Int, r9 = some (.inl z) ∧ ((-2147483648 ≤ z ∧ z ≤ 2147483647)) ∧ H = H9) := by
  refine k_run 0 (pc' := 0) (l' := [(0, .inr (.inr 7)), (1, .inl a)]) (st' := []) rfl ?_
  refine k_run 3 (pc' := 3) (l' := [(0, .inr (.inr 7)), (1, .inl a)]) (st' := [.inl a, .inl a, .inl 1]) rfl ?_
  refine h_zlt (off := 26) (t := 29) rfl rfl (by omega) (fun c1 => ?_) (fun c1 => ?_)
  · refine k_run 0 (pc' := 29) (l' := [(0, .inr (.inr 7)), (1, .inl a)]) (st' := [.inl a, .inl 1]) rfl ?_
    refine k_run 1 (pc' := 30) (l' := [(0, .inr (.inr 7)), (1, .inl a)]) (st' := [.inl 0, .inl a, .inl 1]) rfl ?_
    refine h_cs (i := 62) (j := 48) (M' := mt_48) (xs := [.inl 0, .inl a, .inl 1]) (rest := []) rfl rfl rfl rfl rfl (Nat.le_of_ble_eq_true rfl) (Nat.le_of_ble_eq_true rfl) (by omega) (k_Term_codeOf (by omega)  (by decide) (by omega) (by decide)) ?_
    rintro _ _ ⟨z6, rfl, g2, rfl⟩
    refine k_run 0 (pc' := 33) (l' := [(0, .inr (.inr 7)), (1, .inl a)]) (st' := [.inl z6]) rfl ?_
    refine h_reti (x := z6) rfl rfl ?_
    exact ⟨_, rfl, (by omega), rfl⟩
  · refine k_run 0 (pc' := 6) (l' := [(0, .inr (.inr 7)), (1, .inl a)]) (st' := [.inl a, .inl 1]) rfl ?_
    refine k_run 4 (pc' := 14) (l' := [(0, .inr (.inr 7)), (1, .inl a)]) (st' := [.inl (H.1 13 4), .inl a, .inl a, .inl 1]) rfl ?_
    have g7 : 0 ≤ (H.1 13 4) ∧ (H.1 13 4) ≤ 16 := kn (x := kx_13) hI rfl 4
    refine h_ige (off := 15) (t := 29) rfl rfl (by omega) (by omega) (fun c8 => ?_) (fun c8 => ?_)
    · refine k_run 0 (pc' := 29) (l' := [(0, .inr (.inr 7)), (1, .inl a)]) (st' := [.inl a, .inl 1]) rfl ?_
      refine k_run 1 (pc' := 30) (l' := [(0, .inr (.inr 7)), (1, .inl a)]) (st' := [.inl 0, .inl a, .inl 1]) rfl ?_
      refine h_cs (i := 62) (j := 48) (M' := mt_48) (xs := [.inl 0, .inl a, .inl 1]) (rest := []) rfl rfl rfl rfl rfl (Nat.le_of_ble_eq_true rfl) (Nat.le_of_ble_eq_true rfl) (by omega) (k_Term_codeOf (by omega)  (by decide) (by omega) (by decide)) ?_
      rintro _ _ ⟨z13, rfl, g9, rfl⟩
      refine k_run 0 (pc' := 33) (l' := [(0, .inr (.inr 7)), (1, .inl a)]) (st' := [.inl z13]) rfl ?_
      refine h_reti (x := z13) rfl rfl ?_
      exact ⟨_, rfl, (by omega), rfl⟩
    · refine k_run 0 (pc' := 17) (l' := [(0, .inr (.inr 7)), (1, .inl a)]) (st' := [.inl a, .inl 1]) rfl ?_
      refine k_run 4 (pc' := 25) (l' := [(0, .inr (.inr 7)), (1, .inl a)]) (st' := [.inl a, .inr (.inr 16), .inl a, .inl 1]) rfl ?_
      refine k_ild (c := 16) (j := (a).toNat) (i := a) (x := kx_16) rfl rfl (by decide) rfl (by decide) (by omega) (by omega) ?_
      have g14 : 0 ≤ (H.1 16 (a).toNat) ∧ (H.1 16 (a).toNat) ≤ 4 := kn (x := kx_16) hI rfl (a).toNat
      refine k_run 0 (pc' := 26) (l' := [(0, .inr (.inr 7)), (1, .inl a)]) (st' := [.inl (H.1 16 (a).toNat), .inl a, .inl 1]) rfl ?_
      refine k_run 1 (pc' := 30) (l' := [(0, .inr (.inr 7)), (1, .inl a)]) (st' := [.inl (H.1 16 (a).toNat), .inl a, .inl 1]) rfl ?_
      refine h_cs (i := 62) (j := 48) (M' := mt_48) (xs := [.inl (H.1 16 (a).toNat), .inl a, .inl 1]) (rest := []) rfl rfl rfl rfl rfl (Nat.le_of_ble_eq_true rfl) (Nat.le_of_ble_eq_true rfl) (by omega) (k_Term_codeOf (by omega)  (by decide) (by omega) (by omega)) ?_
      rintro _ _ ⟨z19, rfl, g15, rfl⟩
      refine k_run 0 (pc' := 33) (l' := [(0, .inr (.inr 7)), (1, .inl a)]) (st' := [.inl z19]) rfl ?_
      refine h_reti (x := z19) rfl rfl ?_
      exact ⟨_, rfl, (by omega), rfl⟩

/-! Program.forgetProofs -/
set_option maxRecDepth 100000 in
theorem k_Program_forgetProofs_cut {d : Nat} (hd : 1 ≤ d) {H : hp} (hI : Inv H)   : ∀ w : Nat, (∀ (H1 : hp), Inv H1 → fq [] [] true H H1 → ∀ (x1 : Int) , (-2147483648 ≤ x1 ∧ x1 ≤ 2147483647) → (0 ≤ x1) → (((100 - x1).toNat) < w) → hG (zs zK) d mt_39 2 [(0, .inr (.inr 7)), (1, .inl x1)] [] H1 (fun r9 H9 => r9 = none ∧ Inv H9 ∧ fq [] [] true H H9)) := by
  intro w
  induction w with
  | zero => exact fun _ _ _ _ _ _ h => absurd h (Nat.not_lt_zero _)
  | succ w ih =>
    intro H1 hI1 hf1 x1 hx1 hi0 hw
    refine k_run 3 (pc' := 7) (l' := [(0, .inr (.inr 7)), (1, .inl x1)]) (st' := [.inl (H1.1 7 6), .inl x1]) rfl ?_
    have g1 : 0 ≤ (H1.1 7 6) ∧ (H1.1 7 6) ≤ 16 := kn (x := kx_7) hI1 rfl 6
    have e2 : (H1.1 7 6) = (H.1 7 6) := (hf1.1 7 6 rfl (by decide) (by decide)).1
    refine h_ige (off := 19) (t := 26) rfl rfl (by omega) (by omega) (fun c3 => ?_) (fun c3 => ?_)
    · refine k_run 0 (pc' := 26) (l' := [(0, .inr (.inr 7)), (1, .inl x1)]) (st' := []) rfl ?_
      refine h_ret rfl rfl ?_
      exact ⟨rfl, hI1, hf1⟩
    · refine k_run 0 (pc' := 10) (l' := [(0, .inr (.inr 7)), (1, .inl x1)]) (st' := []) rfl ?_
      refine k_run 3 (pc' := 15) (l' := [(0, .inr (.inr 7)), (1, .inl x1)]) (st' := [.inl x1, .inr (.inr 24)]) rfl ?_
      refine k_ald (c := 24) (j := (x1).toNat) (i := x1) (x := kx_24) rfl rfl (by decide) rfl (by decide) (by omega) (by omega) hI1 (fun h4 => ?_)
      obtain ⟨t5, et7⟩ : ∃ t9, t9 = H1.2 24 (x1).toNat := ⟨_, rfl⟩
      rw [← et7] at h4 ⊢
      have k6 : isE t5 := h4
      refine k_run 0 (pc' := 16) (l' := [(0, .inr (.inr 7)), (1, .inl x1)]) (st' := [.inr (.inr t5)]) rfl ?_
      refine k_run 1 (pc' := 17) (l' := [(0, .inr (.inr 7)), (1, .inl x1)]) (st' := [.inl 0, .inr (.inr t5)]) rfl ?_
      refine k_putw (a := t5) (x := (kEo t5)) rfl rfl k6.1 (iE0 k6) k6.2.2.2.2.1 rfl rfl rfl rfl hI1 rfl (fun H8 hI9 hw10 => ?_)
      have hf12 : fq [] [] true H H8 := fq_w hf1 hw10 (fpg (iEf k6))
      refine k_run 0 (pc' := 20) (l' := [(0, .inr (.inr 7)), (1, .inl x1)]) (st' := []) rfl ?_
      refine k_run 2 (pc' := 2) (l' := [(0, .inr (.inr 7)), (1, .inl (x1 + 1))]) (st' := []) rfl ?_
      exact ih H8 hI9 hf12 (x1 + 1) (by omega) (by omega) (by omega)
set_option maxRecDepth 100000 in
theorem k_Program_forgetProofs {d : Nat} (hd : 1 ≤ d) {H : hp} (hI : Inv H)   : hG (zs zK) d mt_39 0 (zargs 0 [.inr (.inr 7)]) [] H (fun r9 H9 => r9 = none ∧ Inv H9 ∧ fq [] [] true H H9) := by
  refine k_run 0 (pc' := 0) (l' := [(0, .inr (.inr 7))]) (st' := []) rfl ?_
  refine k_run 2 (pc' := 2) (l' := [(0, .inr (.inr 7)), (1, .inl 0)]) (st' := []) rfl ?_
  exact (k_Program_forgetProofs_cut hd hI  _) H hI (fq_rf _ _ _ _) (0 : Int) (by decide) (by omega) (Nat.lt_succ_self _)

/-! Symbols.find -/
set_option maxRecDepth 100000 in
theorem k_Symbols_find_8_cut {d : Nat} (hd : 1 ≤ d) {H : hp} (hI : Inv H) {a : Int}  : ∀ w : Nat, (∀ (x3 : Int) , (-2147483648 ≤ x3 ∧ x3 ≤ 2147483647) → (0 ≤ x3) → (((100 - x3).toNat) < w) → hG (zs zK) d mt_41 2 [(0, .inr (.inr 8)), (1, .inr (.inl a)), (3, .inl x3)] [] H (fun r9 H9 => ∃ z : Int, r9 = some (.inl z) ∧ ((-2147483648 ≤ z ∧ z ≤ 2147483647) ∧ (-1 ≤ z ∧ z < H.1 8 4)) ∧ H = H9)) := by
  intro w
  induction w with
  | zero => exact fun _ _ _ h => absurd h (Nat.not_lt_zero _)
  | succ w ih =>
    intro x3 hx3 hi0 hw
    refine k_run 3 (pc' := 7) (l' := [(0, .inr (.inr 8)), (1, .inr (.inl a)), (3, .inl x3)]) (st' := [.inl (H.1 8 4), .inl x3]) rfl ?_
    have g1 : 0 ≤ (H.1 8 4) ∧ (H.1 8 4) ≤ 6 := kn (x := kx_8) hI rfl 4
    refine h_ige (off := 31) (t := 38) rfl rfl (by omega) (by omega) (fun c2 => ?_) (fun c2 => ?_)
    · refine k_run 0 (pc' := 38) (l' := [(0, .inr (.inr 8)), (1, .inr (.inl a)), (3, .inl x3)]) (st' := []) rfl ?_
      refine k_run 1 (pc' := 39) (l' := [(0, .inr (.inr 8)), (1, .inr (.inl a)), (3, .inl x3)]) (st' := [.inl (-1)]) rfl ?_
      refine h_reti (x := (-1)) rfl rfl ?_
      exact ⟨_, rfl, (by omega), rfl⟩
    · refine k_run 0 (pc' := 10) (l' := [(0, .inr (.inr 8)), (1, .inr (.inl a)), (3, .inl x3)]) (st' := []) rfl ?_
      refine k_run 3 (pc' := 15) (l' := [(0, .inr (.inr 8)), (1, .inr (.inl a)), (3, .inl x3)]) (st' := [.inr (.inr 9), .inl x3]) rfl ?_
      refine k_alen (c := 9) (x := kx_9) rfl rfl (by decide) rfl ?_
      refine k_run 0 (pc' := 16) (l' := [(0, .inr (.inr 8)), (1, .inr (.inl a)), (3, .inl x3)]) (st' := [.inl 6, .inl x3]) rfl ?_
      refine h_ige (off := 22) (t := 38) rfl rfl (by omega) (by decide) (fun c3 => ?_) (fun c3 => ?_)
      · refine k_run 0 (pc' := 38) (l' := [(0, .inr (.inr 8)), (1, .inr (.inl a)), (3, .inl x3)]) (st' := []) rfl ?_
        refine k_run 1 (pc' := 39) (l' := [(0, .inr (.inr 8)), (1, .inr (.inl a)), (3, .inl x3)]) (st' := [.inl (-1)]) rfl ?_
        refine h_reti (x := (-1)) rfl rfl ?_
        exact ⟨_, rfl, (by omega), rfl⟩
      · refine k_run 0 (pc' := 19) (l' := [(0, .inr (.inr 8)), (1, .inr (.inl a)), (3, .inl x3)]) (st' := []) rfl ?_
        refine k_run 3 (pc' := 24) (l' := [(0, .inr (.inr 8)), (1, .inr (.inl a)), (3, .inl x3)]) (st' := [.inl x3, .inr (.inr 9)]) rfl ?_
        refine k_lld (c := 9) (j := (x3).toNat) (i := x3) (x := kx_9) rfl rfl (by decide) rfl (by decide) (by omega) (by omega) ?_
        have g4 : -9223372036854775808 ≤ (H.1 9 (x3).toNat) ∧ (H.1 9 (x3).toNat) ≤ 9223372036854775807 := kn (x := kx_9) hI rfl (x3).toNat
        refine k_run 0 (pc' := 25) (l' := [(0, .inr (.inr 8)), (1, .inr (.inl a)), (3, .inl x3)]) (st' := [.inr (.inl (H.1 9 (x3).toNat))]) rfl ?_
        refine k_run 2 (pc' := 27) (l' := [(0, .inr (.inr 8)), (1, .inr (.inl a)), (3, .inl x3)]) (st' := [.inl (z_cmp (H.1 9 (x3).toNat) a)]) rfl ?_
        refine k_nrm (fun y5 hy5 => ?_)
        refine k_run 0 (pc' := 27) (l' := [(0, .inr (.inr 8)), (1, .inr (.inl a)), (3, .inl x3)]) (st' := [.inl y5]) rfl ?_
        refine h_zne (off := 5) (t := 32) rfl rfl (by omega) (fun c6 => ?_) (fun c6 => ?_)
        · refine k_run 0 (pc' := 32) (l' := [(0, .inr (.inr 8)), (1, .inr (.inl a)), (3, .inl x3)]) (st' := []) rfl ?_
          refine k_run 2 (pc' := 2) (l' := [(0, .inr (.inr 8)), (1, .inr (.inl a)), (3, .inl (x3 + 1))]) (st' := []) rfl ?_
          exact ih (x3 + 1) (by omega) (by omega) (by omega)
        · refine k_run 0 (pc' := 30) (l' := [(0, .inr (.inr 8)), (1, .inr (.inl a)), (3, .inl x3)]) (st' := []) rfl ?_
          refine k_run 1 (pc' := 31) (l' := [(0, .inr (.inr 8)), (1, .inr (.inl a)), (3, .inl x3)]) (st' := [.inl x3]) rfl ?_
          refine h_reti (x := x3) rfl rfl ?_
          exact ⟨_, rfl, (by omega), rfl⟩
set_option maxRecDepth 100000 in
theorem k_Symbols_find_8 {d : Nat} (hd : 1 ≤ d) {H : hp} (hI : Inv H) {a : Int}  : hG (zs zK) d mt_41 0 (zargs 0 [.inr (.inr 8), .inr (.inl a)]) [] H (fun r9 H9 => ∃ z : Int, r9 = some (.inl z) ∧ ((-2147483648 ≤ z ∧ z ≤ 2147483647) ∧ (-1 ≤ z ∧ z < H.1 8 4)) ∧ H = H9) := by
  refine k_run 0 (pc' := 0) (l' := [(0, .inr (.inr 8)), (1, .inr (.inl a))]) (st' := []) rfl ?_
  refine k_run 2 (pc' := 2) (l' := [(0, .inr (.inr 8)), (1, .inr (.inl a)), (3, .inl 0)]) (st' := []) rfl ?_
  exact (k_Symbols_find_8_cut hd hI  _) (0 : Int) (by decide) (by omega) (Nat.lt_succ_self _)

/-! Symbols.isFull -/
set_option maxRecDepth 100000 in
theorem k_Symbols_isFull_8 {d : Nat} (hd : 1 ≤ d) {H : hp} (hI : Inv H)   : hG (zs zK) d mt_42 0 (zargs 0 [.inr (.inr 8)]) [] H (fun r9 H9 => ∃ z : Int, r9 = some (.inl z) ∧ ((0 ≤ z ∧ z ≤ 1) ∧ (z = 1 ∨ H.1 8 4 < 6)) ∧ H = H9) := by
  refine k_run 0 (pc' := 0) (l' := [(0, .inr (.inr 8))]) (st' := []) rfl ?_
  refine k_run 2 (pc' := 4) (l' := [(0, .inr (.inr 8))]) (st' := [.inl (H.1 8 4)]) rfl ?_
  have g1 : 0 ≤ (H.1 8 4) ∧ (H.1 8 4) ≤ 6 := kn (x := kx_8) hI rfl 4
  refine k_run 2 (pc' := 8) (l' := [(0, .inr (.inr 8))]) (st' := [.inr (.inr 9), .inl (H.1 8 4)]) rfl ?_
  refine k_alen (c := 9) (x := kx_9) rfl rfl (by decide) rfl ?_
  refine k_run 0 (pc' := 9) (l' := [(0, .inr (.inr 8))]) (st' := [.inl 6, .inl (H.1 8 4)]) rfl ?_
  refine h_ilt (off := 7) (t := 16) rfl rfl (by omega) (by decide) (fun c2 => ?_) (fun c2 => ?_)
  · refine k_run 0 (pc' := 16) (l' := [(0, .inr (.inr 8))]) (st' := []) rfl ?_
    refine k_run 1 (pc' := 17) (l' := [(0, .inr (.inr 8))]) (st' := [.inl 0]) rfl ?_
    refine h_retz (x := 0) rfl rfl (by decide) ?_
    exact ⟨_, rfl, (by omega), rfl⟩
  · refine k_run 0 (pc' := 12) (l' := [(0, .inr (.inr 8))]) (st' := []) rfl ?_
    refine k_run 2 (pc' := 17) (l' := [(0, .inr (.inr 8))]) (st' := [.inl 1]) rfl ?_
    refine h_retz (x := 1) rfl rfl (by decide) ?_
    exact ⟨_, rfl, (by omega), rfl⟩

/-! Symbols.add -/
set_option maxRecDepth 100000 in
theorem k_Symbols_add_8 {d : Nat} (hd : 1 ≤ d) {H : hp} (hI : Inv H) {a : Int} {b : Int} (hb : -2147483648 ≤ b ∧ b ≤ 2147483647) (hp0 : -2 ≤ b ∧ b ≤ 100) : hG (zs zK) d mt_43 0 (zargs 0 [.inr (.inr 8), .inr (.inl a), .inl b]) [] H (fun r9 H9 => r9 = none ∧ Inv H9 ∧ fq [(8, 4)] [9, 10, 11] false H H9) := by
  refine k_run 0 (pc' := 0) (l' := [(0, .inr (.inr 8)), (1, .inr (.inl a)), (3, .inl b)]) (st' := []) rfl ?_
  refine k_run 2 (pc' := 4) (l' := [(0, .inr (.inr 8)), (1, .inr (.inl a)), (3, .inl b)]) (st' := [.inl (H.1 8 4)]) rfl ?_
  have g1 : 0 ≤ (H.1 8 4) ∧ (H.1 8 4) ≤ 6 := kn (x := kx_8) hI rfl 4
  refine k_run 2 (pc' := 8) (l' := [(0, .inr (.inr 8)), (1, .inr (.inl a)), (3, .inl b)]) (st' := [.inr (.inr 9), .inl (H.1 8 4)]) rfl ?_
  refine k_alen (c := 9) (x := kx_9) rfl rfl (by decide) rfl ?_
  refine k_run 0 (pc' := 9) (l' := [(0, .inr (.inr 8)), (1, .inr (.inl a)), (3, .inl b)]) (st' := [.inl 6, .inl (H.1 8 4)]) rfl ?_
  refine h_ige (off := 43) (t := 52) rfl rfl (by omega) (by decide) (fun c2 => ?_) (fun c2 => ?_)
  · refine k_run 0 (pc' := 52) (l' := [(0, .inr (.inr 8)), (1, .inr (.inl a)), (3, .inl b)]) (st' := []) rfl ?_
    refine h_ret rfl rfl ?_
    exact ⟨rfl, hI, (fq_rf _ _ _ _)⟩
  · refine k_run 0 (pc' := 12) (l' := [(0, .inr (.inr 8)), (1, .inr (.inl a)), (3, .inl b)]) (st' := []) rfl ?_
    refine k_run 5 (pc' := 21) (l' := [(0, .inr (.inr 8)), (1, .inr (.inl a)), (3, .inl b)]) (st' := [.inr (.inl a), .inl (H.1 8 4), .inr (.inr 9)]) rfl ?_
    refine k_lst (c := 9) (j := ((H.1 8 4)).toNat) (i := (H.1 8 4)) (x := kx_9) rfl rfl (by decide) (by decide) rfl (by decide) (by omega) (by omega) hI rfl (fun H3 hI4 hw5 => ?_)
    have hf7 : fq [(8, 4)] [9, 10, 11] false H H3 := fq_w (fq_rf _ _ _ _) hw5 (fpa (by decide) rfl)
    refine k_run 0 (pc' := 22) (l' := [(0, .inr (.inr 8)), (1, .inr (.inl a)), (3, .inl b)]) (st' := []) rfl ?_
    refine k_run 4 (pc' := 30) (l' := [(0, .inr (.inr 8)), (1, .inr (.inl a)), (3, .inl b)]) (st' := [.inl (H3.1 8 4), .inr (.inr 10)]) rfl ?_
    have g8 : 0 ≤ (H3.1 8 4) ∧ (H3.1 8 4) ≤ 6 := kn (x := kx_8) hI4 rfl 4
    have e9 : (H3.1 8 4) = (H.1 8 4) := hw5.2 _ _ (fun q => absurd q.1 (by decide))
    refine k_run 1 (pc' := 31) (l' := [(0, .inr (.inr 8)), (1, .inr (.inl a)), (3, .inl b)]) (st' := [.inl b, .inl (H3.1 8 4), .inr (.inr 10)]) rfl ?_
    refine k_ist (z := b) (c := 10) (j := ((H3.1 8 4)).toNat) (i := (H3.1 8 4)) (x := kx_10) rfl rfl (by decide) (by decide) rfl (by decide) (by omega) (by omega) hI4 (by omega) (show -2 ≤ b ∧ b ≤ 100 by omega) (fun H10 hI11 hw12 hv13 => ?_)
    have hf14 : fq [(8, 4)] [9, 10, 11] false H H10 := fq_w hf7 hw12 (fpa (by decide) rfl)
    refine k_run 0 (pc' := 32) (l' := [(0, .inr (.inr 8)), (1, .inr (.inl a)), (3, .inl b)]) (st' := []) rfl ?_
    refine k_run 4 (pc' := 40) (l' := [(0, .inr (.inr 8)), (1, .inr (.inl a)), (3, .inl b)]) (st' := [.inl (H10.1 8 4), .inr (.inr 11)]) rfl ?_
    have g15 : 0 ≤ (H10.1 8 4) ∧ (H10.1 8 4) ≤ 6 := kn (x := kx_8) hI11 rfl 4
    have e16 : (H10.1 8 4) = (H3.1 8 4) := hw12.2 _ _ (fun q => absurd q.1 (by decide))
    refine k_run 1 (pc' := 41) (l' := [(0, .inr (.inr 8)), (1, .inr (.inl a)), (3, .inl b)]) (st' := [.inl 0, .inl (H10.1 8 4), .inr (.inr 11)]) rfl ?_
    refine k_ist (z := 0) (c := 11) (j := ((H10.1 8 4)).toNat) (i := (H10.1 8 4)) (x := kx_11) rfl rfl (by decide) (by decide) rfl (by decide) (by omega) (by omega) hI11 (by decide) (show 0 ≤ (0 : Int) ∧ (0 : Int) ≤ 4 by omega) (fun H17 hI18 hw19 hv20 => ?_)
    have hf21 : fq [(8, 4)] [9, 10, 11] false H H17 := fq_w hf14 hw19 (fpa (by decide) rfl)
    refine k_run 0 (pc' := 42) (l' := [(0, .inr (.inr 8)), (1, .inr (.inl a)), (3, .inl b)]) (st' := []) rfl ?_
    refine k_run 3 (pc' := 47) (l' := [(0, .inr (.inr 8)), (1, .inr (.inl a)), (3, .inl b)]) (st' := [.inl (H17.1 8 4), .inr (.inr 8)]) rfl ?_
    have g22 : 0 ≤ (H17.1 8 4) ∧ (H17.1 8 4) ≤ 6 := kn (x := kx_8) hI18 rfl 4
    have e23 : (H17.1 8 4) = (H10.1 8 4) := hw19.2 _ _ (fun q => absurd q.1 (by decide))
    refine k_run 2 (pc' := 49) (l' := [(0, .inr (.inr 8)), (1, .inr (.inl a)), (3, .inl b)]) (st' := [.inl ((H17.1 8 4) + 1), .inr (.inr 8)]) rfl ?_
    refine k_puti (z := ((H17.1 8 4) + 1)) (a := 8) (x := kx_8) rfl rfl rfl (by decide) (by decide) rfl rfl rfl rfl hI18 (by omega) (show 0 ≤ ((H17.1 8 4) + 1) ∧ ((H17.1 8 4) + 1) ≤ 6 by omega) (fun H24 hI25 hw26 hv27 => ?_)
    have hf28 : fq [(8, 4)] [9, 10, 11] false H H24 := fq_w hf21 hw26 (fpo (by decide) rfl)
    refine k_run 0 (pc' := 52) (l' := [(0, .inr (.inr 8)), (1, .inr (.inl a)), (3, .inl b)]) (st' := []) rfl ?_
    refine h_ret rfl rfl ?_
    exact ⟨rfl, hI25, hf28⟩

/-! Symbols.find -/
set_option maxRecDepth 100000 in
theorem k_Symbols_find_13_cut {d : Nat} (hd : 1 ≤ d) {H : hp} (hI : Inv H) {a : Int}  : ∀ w : Nat, (∀ (x3 : Int) , (-2147483648 ≤ x3 ∧ x3 ≤ 2147483647) → (0 ≤ x3) → (((100 - x3).toNat) < w) → hG (zs zK) d mt_41 2 [(0, .inr (.inr 13)), (1, .inr (.inl a)), (3, .inl x3)] [] H (fun r9 H9 => ∃ z : Int, r9 = some (.inl z) ∧ ((-2147483648 ≤ z ∧ z ≤ 2147483647) ∧ (-1 ≤ z ∧ z < H.1 13 4)) ∧ H = H9)) := by
  intro w
  induction w with
  | zero => exact fun _ _ _ h => absurd h (Nat.not_lt_zero _)
  | succ w ih =>
    intro x3 hx3 hi0 hw
    refine k_run 3 (pc' := 7) (l' := [(0, .inr (.inr 13)), (1, .inr (.inl a)), (3, .inl x3)]) (st' := [.inl (H.1 13 4), .inl x3]) rfl ?_
    have g1 : 0 ≤ (H.1 13 4) ∧ (H.1 13 4) ≤ 16 := kn (x := kx_13) hI rfl 4
    refine h_ige (off := 31) (t := 38) rfl rfl (by omega) (by omega) (fun c2 => ?_) (fun c2 => ?_)
    · refine k_run 0 (pc' := 38) (l' := [(0, .inr (.inr 13)), (1, .inr (.inl a)), (3, .inl x3)]) (st' := []) rfl ?_
      refine k_run 1 (pc' := 39) (l' := [(0, .inr (.inr 13)), (1, .inr (.inl a)), (3, .inl x3)]) (st' := [.inl (-1)]) rfl ?_
      refine h_reti (x := (-1)) rfl rfl ?_
      exact ⟨_, rfl, (by omega), rfl⟩
    · refine k_run 0 (pc' := 10) (l' := [(0, .inr (.inr 13)), (1, .inr (.inl a)), (3, .inl x3)]) (st' := []) rfl ?_
      refine k_run 3 (pc' := 15) (l' := [(0, .inr (.inr 13)), (1, .inr (.inl a)), (3, .inl x3)]) (st' := [.inr (.inr 14), .inl x3]) rfl ?_
      refine k_alen (c := 14) (x := kx_14) rfl rfl (by decide) rfl ?_
      refine k_run 0 (pc' := 16) (l' := [(0, .inr (.inr 13)), (1, .inr (.inl a)), (3, .inl x3)]) (st' := [.inl 16, .inl x3]) rfl ?_
      refine h_ige (off := 22) (t := 38) rfl rfl (by omega) (by decide) (fun c3 => ?_) (fun c3 => ?_)
      · refine k_run 0 (pc' := 38) (l' := [(0, .inr (.inr 13)), (1, .inr (.inl a)), (3, .inl x3)]) (st' := []) rfl ?_
        refine k_run 1 (pc' := 39) (l' := [(0, .inr (.inr 13)), (1, .inr (.inl a)), (3, .inl x3)]) (st' := [.inl (-1)]) rfl ?_
        refine h_reti (x := (-1)) rfl rfl ?_
        exact ⟨_, rfl, (by omega), rfl⟩
      · refine k_run 0 (pc' := 19) (l' := [(0, .inr (.inr 13)), (1, .inr (.inl a)), (3, .inl x3)]) (st' := []) rfl ?_
        refine k_run 3 (pc' := 24) (l' := [(0, .inr (.inr 13)), (1, .inr (.inl a)), (3, .inl x3)]) (st' := [.inl x3, .inr (.inr 14)]) rfl ?_
        refine k_lld (c := 14) (j := (x3).toNat) (i := x3) (x := kx_14) rfl rfl (by decide) rfl (by decide) (by omega) (by omega) ?_
        have g4 : -9223372036854775808 ≤ (H.1 14 (x3).toNat) ∧ (H.1 14 (x3).toNat) ≤ 9223372036854775807 := kn (x := kx_14) hI rfl (x3).toNat
        refine k_run 0 (pc' := 25) (l' := [(0, .inr (.inr 13)), (1, .inr (.inl a)), (3, .inl x3)]) (st' := [.inr (.inl (H.1 14 (x3).toNat))]) rfl ?_
        refine k_run 2 (pc' := 27) (l' := [(0, .inr (.inr 13)), (1, .inr (.inl a)), (3, .inl x3)]) (st' := [.inl (z_cmp (H.1 14 (x3).toNat) a)]) rfl ?_
        refine k_nrm (fun y5 hy5 => ?_)
        refine k_run 0 (pc' := 27) (l' := [(0, .inr (.inr 13)), (1, .inr (.inl a)), (3, .inl x3)]) (st' := [.inl y5]) rfl ?_
        refine h_zne (off := 5) (t := 32) rfl rfl (by omega) (fun c6 => ?_) (fun c6 => ?_)
        · refine k_run 0 (pc' := 32) (l' := [(0, .inr (.inr 13)), (1, .inr (.inl a)), (3, .inl x3)]) (st' := []) rfl ?_
          refine k_run 2 (pc' := 2) (l' := [(0, .inr (.inr 13)), (1, .inr (.inl a)), (3, .inl (x3 + 1))]) (st' := []) rfl ?_
          exact ih (x3 + 1) (by omega) (by omega) (by omega)
        · refine k_run 0 (pc' := 30) (l' := [(0, .inr (.inr 13)), (1, .inr (.inl a)), (3, .inl x3)]) (st' := []) rfl ?_
          refine k_run 1 (pc' := 31) (l' := [(0, .inr (.inr 13)), (1, .inr (.inl a)), (3, .inl x3)]) (st' := [.inl x3]) rfl ?_
          refine h_reti (x := x3) rfl rfl ?_
          exact ⟨_, rfl, (by omega), rfl⟩
set_option maxRecDepth 100000 in
theorem k_Symbols_find_13 {d : Nat} (hd : 1 ≤ d) {H : hp} (hI : Inv H) {a : Int}  : hG (zs zK) d mt_41 0 (zargs 0 [.inr (.inr 13), .inr (.inl a)]) [] H (fun r9 H9 => ∃ z : Int, r9 = some (.inl z) ∧ ((-2147483648 ≤ z ∧ z ≤ 2147483647) ∧ (-1 ≤ z ∧ z < H.1 13 4)) ∧ H = H9) := by
  refine k_run 0 (pc' := 0) (l' := [(0, .inr (.inr 13)), (1, .inr (.inl a))]) (st' := []) rfl ?_
  refine k_run 2 (pc' := 2) (l' := [(0, .inr (.inr 13)), (1, .inr (.inl a)), (3, .inl 0)]) (st' := []) rfl ?_
  exact (k_Symbols_find_13_cut hd hI  _) (0 : Int) (by decide) (by omega) (Nat.lt_succ_self _)

/-! Symbols.isFull -/
set_option maxRecDepth 100000 in
theorem k_Symbols_isFull_13 {d : Nat} (hd : 1 ≤ d) {H : hp} (hI : Inv H)   : hG (zs zK) d mt_42 0 (zargs 0 [.inr (.inr 13)]) [] H (fun r9 H9 => ∃ z : Int, r9 = some (.inl z) ∧ ((0 ≤ z ∧ z ≤ 1) ∧ (z = 1 ∨ H.1 13 4 < 16)) ∧ H = H9) := by
  refine k_run 0 (pc' := 0) (l' := [(0, .inr (.inr 13))]) (st' := []) rfl ?_
  refine k_run 2 (pc' := 4) (l' := [(0, .inr (.inr 13))]) (st' := [.inl (H.1 13 4)]) rfl ?_
  have g1 : 0 ≤ (H.1 13 4) ∧ (H.1 13 4) ≤ 16 := kn (x := kx_13) hI rfl 4
  refine k_run 2 (pc' := 8) (l' := [(0, .inr (.inr 13))]) (st' := [.inr (.inr 14), .inl (H.1 13 4)]) rfl ?_
  refine k_alen (c := 14) (x := kx_14) rfl rfl (by decide) rfl ?_
  refine k_run 0 (pc' := 9) (l' := [(0, .inr (.inr 13))]) (st' := [.inl 16, .inl (H.1 13 4)]) rfl ?_
  refine h_ilt (off := 7) (t := 16) rfl rfl (by omega) (by decide) (fun c2 => ?_) (fun c2 => ?_)
  · refine k_run 0 (pc' := 16) (l' := [(0, .inr (.inr 13))]) (st' := []) rfl ?_
    refine k_run 1 (pc' := 17) (l' := [(0, .inr (.inr 13))]) (st' := [.inl 0]) rfl ?_
    refine h_retz (x := 0) rfl rfl (by decide) ?_
    exact ⟨_, rfl, (by omega), rfl⟩
  · refine k_run 0 (pc' := 12) (l' := [(0, .inr (.inr 13))]) (st' := []) rfl ?_
    refine k_run 2 (pc' := 17) (l' := [(0, .inr (.inr 13))]) (st' := [.inl 1]) rfl ?_
    refine h_retz (x := 1) rfl rfl (by decide) ?_
    exact ⟨_, rfl, (by omega), rfl⟩

/-! Symbols.add -/
set_option maxRecDepth 100000 in
theorem k_Symbols_add_13 {d : Nat} (hd : 1 ≤ d) {H : hp} (hI : Inv H) {a : Int} {b : Int} (hb : -2147483648 ≤ b ∧ b ≤ 2147483647) (hp0 : -2 ≤ b ∧ b ≤ 100) : hG (zs zK) d mt_43 0 (zargs 0 [.inr (.inr 13), .inr (.inl a), .inl b]) [] H (fun r9 H9 => r9 = none ∧ Inv H9 ∧ fq [(13, 4)] [14, 15, 16] false H H9) := by
  refine k_run 0 (pc' := 0) (l' := [(0, .inr (.inr 13)), (1, .inr (.inl a)), (3, .inl b)]) (st' := []) rfl ?_
  refine k_run 2 (pc' := 4) (l' := [(0, .inr (.inr 13)), (1, .inr (.inl a)), (3, .inl b)]) (st' := [.inl (H.1 13 4)]) rfl ?_
  have g1 : 0 ≤ (H.1 13 4) ∧ (H.1 13 4) ≤ 16 := kn (x := kx_13) hI rfl 4
  refine k_run 2 (pc' := 8) (l' := [(0, .inr (.inr 13)), (1, .inr (.inl a)), (3, .inl b)]) (st' := [.inr (.inr 14), .inl (H.1 13 4)]) rfl ?_
  refine k_alen (c := 14) (x := kx_14) rfl rfl (by decide) rfl ?_
  refine k_run 0 (pc' := 9) (l' := [(0, .inr (.inr 13)), (1, .inr (.inl a)), (3, .inl b)]) (st' := [.inl 16, .inl (H.1 13 4)]) rfl ?_
  refine h_ige (off := 43) (t := 52) rfl rfl (by omega) (by decide) (fun c2 => ?_) (fun c2 => ?_)
  · refine k_run 0 (pc' := 52) (l' := [(0, .inr (.inr 13)), (1, .inr (.inl a)), (3, .inl b)]) (st' := []) rfl ?_
    refine h_ret rfl rfl ?_
    exact ⟨rfl, hI, (fq_rf _ _ _ _)⟩
  · refine k_run 0 (pc' := 12) (l' := [(0, .inr (.inr 13)), (1, .inr (.inl a)), (3, .inl b)]) (st' := []) rfl ?_
    refine k_run 5 (pc' := 21) (l' := [(0, .inr (.inr 13)), (1, .inr (.inl a)), (3, .inl b)]) (st' := [.inr (.inl a), .inl (H.1 13 4), .inr (.inr 14)]) rfl ?_
    refine k_lst (c := 14) (j := ((H.1 13 4)).toNat) (i := (H.1 13 4)) (x := kx_14) rfl rfl (by decide) (by decide) rfl (by decide) (by omega) (by omega) hI rfl (fun H3 hI4 hw5 => ?_)
    have hf7 : fq [(13, 4)] [14, 15, 16] false H H3 := fq_w (fq_rf _ _ _ _) hw5 (fpa (by decide) rfl)
    refine k_run 0 (pc' := 22) (l' := [(0, .inr (.inr 13)), (1, .inr (.inl a)), (3, .inl b)]) (st' := []) rfl ?_
    refine k_run 4 (pc' := 30) (l' := [(0, .inr (.inr 13)), (1, .inr (.inl a)), (3, .inl b)]) (st' := [.inl (H3.1 13 4), .inr (.inr 15)]) rfl ?_
    have g8 : 0 ≤ (H3.1 13 4) ∧ (H3.1 13 4) ≤ 16 := kn (x := kx_13) hI4 rfl 4
    have e9 : (H3.1 13 4) = (H.1 13 4) := hw5.2 _ _ (fun q => absurd q.1 (by decide))
    refine k_run 1 (pc' := 31) (l' := [(0, .inr (.inr 13)), (1, .inr (.inl a)), (3, .inl b)]) (st' := [.inl b, .inl (H3.1 13 4), .inr (.inr 15)]) rfl ?_
    refine k_ist (z := b) (c := 15) (j := ((H3.1 13 4)).toNat) (i := (H3.1 13 4)) (x := kx_15) rfl rfl (by decide) (by decide) rfl (by decide) (by omega) (by omega) hI4 (by omega) (show -2 ≤ b ∧ b ≤ 100 by omega) (fun H10 hI11 hw12 hv13 => ?_)
    have hf14 : fq [(13, 4)] [14, 15, 16] false H H10 := fq_w hf7 hw12 (fpa (by decide) rfl)
    refine k_run 0 (pc' := 32) (l' := [(0, .inr (.inr 13)), (1, .inr (.inl a)), (3, .inl b)]) (st' := []) rfl ?_
    refine k_run 4 (pc' := 40) (l' := [(0, .inr (.inr 13)), (1, .inr (.inl a)), (3, .inl b)]) (st' := [.inl (H10.1 13 4), .inr (.inr 16)]) rfl ?_
    have g15 : 0 ≤ (H10.1 13 4) ∧ (H10.1 13 4) ≤ 16 := kn (x := kx_13) hI11 rfl 4
    have e16 : (H10.1 13 4) = (H3.1 13 4) := hw12.2 _ _ (fun q => absurd q.1 (by decide))
    refine k_run 1 (pc' := 41) (l' := [(0, .inr (.inr 13)), (1, .inr (.inl a)), (3, .inl b)]) (st' := [.inl 0, .inl (H10.1 13 4), .inr (.inr 16)]) rfl ?_
    refine k_ist (z := 0) (c := 16) (j := ((H10.1 13 4)).toNat) (i := (H10.1 13 4)) (x := kx_16) rfl rfl (by decide) (by decide) rfl (by decide) (by omega) (by omega) hI11 (by decide) (show 0 ≤ (0 : Int) ∧ (0 : Int) ≤ 4 by omega) (fun H17 hI18 hw19 hv20 => ?_)
    have hf21 : fq [(13, 4)] [14, 15, 16] false H H17 := fq_w hf14 hw19 (fpa (by decide) rfl)
    refine k_run 0 (pc' := 42) (l' := [(0, .inr (.inr 13)), (1, .inr (.inl a)), (3, .inl b)]) (st' := []) rfl ?_
    refine k_run 3 (pc' := 47) (l' := [(0, .inr (.inr 13)), (1, .inr (.inl a)), (3, .inl b)]) (st' := [.inl (H17.1 13 4), .inr (.inr 13)]) rfl ?_
    have g22 : 0 ≤ (H17.1 13 4) ∧ (H17.1 13 4) ≤ 16 := kn (x := kx_13) hI18 rfl 4
    have e23 : (H17.1 13 4) = (H10.1 13 4) := hw19.2 _ _ (fun q => absurd q.1 (by decide))
    refine k_run 2 (pc' := 49) (l' := [(0, .inr (.inr 13)), (1, .inr (.inl a)), (3, .inl b)]) (st' := [.inl ((H17.1 13 4) + 1), .inr (.inr 13)]) rfl ?_
    refine k_puti (z := ((H17.1 13 4) + 1)) (a := 13) (x := kx_13) rfl rfl rfl (by decide) (by decide) rfl rfl rfl rfl hI18 (by omega) (show 0 ≤ ((H17.1 13 4) + 1) ∧ ((H17.1 13 4) + 1) ≤ 16 by omega) (fun H24 hI25 hw26 hv27 => ?_)
    have hf28 : fq [(13, 4)] [14, 15, 16] false H H24 := fq_w hf21 hw26 (fpo (by decide) rfl)
    refine k_run 0 (pc' := 52) (l' := [(0, .inr (.inr 13)), (1, .inr (.inl a)), (3, .inl b)]) (st' := []) rfl ?_
    refine h_ret rfl rfl ?_
    exact ⟨rfl, hI25, hf28⟩

/-! Symbols.addArgument -/
set_option maxRecDepth 100000 in
theorem k_Symbols_addArgument_13 {d : Nat} (hd : 1 ≤ d) {H : hp} (hI : Inv H) {b : Int} (hb : -2147483648 ≤ b ∧ b ≤ 2147483647) (hp0 : -2 ≤ b ∧ b ≤ 100) : hG (zs zK) d mt_44 0 (zargs 0 [.inr (.inr 13), .inl b]) [] H (fun r9 H9 => r9 = none ∧ Inv H9 ∧ fq [] [16, 17] false H H9) := by
  refine k_run 0 (pc' := 0) (l' := [(0, .inr (.inr 13)), (1, .inl b)]) (st' := []) rfl ?_
  refine k_run 2 (pc' := 4) (l' := [(0, .inr (.inr 13)), (1, .inl b)]) (st' := [.inl (H.1 13 4)]) rfl ?_
  have g1 : 0 ≤ (H.1 13 4) ∧ (H.1 13 4) ≤ 16 := kn (x := kx_13) hI rfl 4
  refine k_run 4 (pc' := 8) (l' := [(0, .inr (.inr 13)), (1, .inl b), (2, .inl ((H.1 13 4) - 1))]) (st' := [.inl ((H.1 13 4) - 1)]) rfl ?_
  refine h_zlt (off := 39) (t := 47) rfl rfl (by omega) (fun c2 => ?_) (fun c2 => ?_)
  · refine k_run 0 (pc' := 47) (l' := [(0, .inr (.inr 13)), (1, .inl b), (2, .inl ((H.1 13 4) - 1))]) (st' := []) rfl ?_
    refine h_ret rfl rfl ?_
    exact ⟨rfl, hI, (fq_rf _ _ _ _)⟩
  · refine k_run 0 (pc' := 11) (l' := [(0, .inr (.inr 13)), (1, .inl b), (2, .inl ((H.1 13 4) - 1))]) (st' := []) rfl ?_
    refine k_run 3 (pc' := 16) (l' := [(0, .inr (.inr 13)), (1, .inl b), (2, .inl ((H.1 13 4) - 1))]) (st' := [.inl ((H.1 13 4) - 1), .inr (.inr 16)]) rfl ?_
    refine k_ild (c := 16) (j := (((H.1 13 4) - 1)).toNat) (i := ((H.1 13 4) - 1)) (x := kx_16) rfl rfl (by decide) rfl (by decide) (by omega) (by omega) ?_
    have g3 : 0 ≤ (H.1 16 (((H.1 13 4) - 1)).toNat) ∧ (H.1 16 (((H.1 13 4) - 1)).toNat) ≤ 4 := kn (x := kx_16) hI rfl (((H.1 13 4) - 1)).toNat
    refine k_run 0 (pc' := 17) (l' := [(0, .inr (.inr 13)), (1, .inl b), (2, .inl ((H.1 13 4) - 1))]) (st' := [.inl (H.1 16 (((H.1 13 4) - 1)).toNat)]) rfl ?_
    refine k_run 1 (pc' := 18) (l' := [(0, .inr (.inr 13)), (1, .inl b), (2, .inl ((H.1 13 4) - 1))]) (st' := [.inl 4, .inl (H.1 16 (((H.1 13 4) - 1)).toNat)]) rfl ?_
    refine h_ige (off := 29) (t := 47) rfl rfl (by omega) (by decide) (fun c4 => ?_) (fun c4 => ?_)
    · refine k_run 0 (pc' := 47) (l' := [(0, .inr (.inr 13)), (1, .inl b), (2, .inl ((H.1 13 4) - 1))]) (st' := []) rfl ?_
      refine h_ret rfl rfl ?_
      exact ⟨rfl, hI, (fq_rf _ _ _ _)⟩
    · refine k_run 0 (pc' := 21) (l' := [(0, .inr (.inr 13)), (1, .inl b), (2, .inl ((H.1 13 4) - 1))]) (st' := []) rfl ?_
      refine k_run 8 (pc' := 33) (l' := [(0, .inr (.inr 13)), (1, .inl b), (2, .inl ((H.1 13 4) - 1))]) (st' := [.inl ((H.1 13 4) - 1), .inr (.inr 16), .inl (((H.1 13 4) - 1) * 4), .inr (.inr 17)]) rfl ?_
      refine k_ild (c := 16) (j := (((H.1 13 4) - 1)).toNat) (i := ((H.1 13 4) - 1)) (x := kx_16) rfl rfl (by decide) rfl (by decide) (by omega) (by omega) ?_
      refine k_run 0 (pc' := 34) (l' := [(0, .inr (.inr 13)), (1, .inl b), (2, .inl ((H.1 13 4) - 1))]) (st' := [.inl (H.1 16 (((H.1 13 4) - 1)).toNat), .inl (((H.1 13 4) - 1) * 4), .inr (.inr 17)]) rfl ?_
      refine k_run 2 (pc' := 36) (l' := [(0, .inr (.inr 13)), (1, .inl b), (2, .inl ((H.1 13 4) - 1))]) (st' := [.inl b, .inl ((((H.1 13 4) - 1) * 4) + (H.1 16 (((H.1 13 4) - 1)).toNat)), .inr (.inr 17)]) rfl ?_
      refine k_ist (z := b) (c := 17) (j := (((((H.1 13 4) - 1) * 4) + (H.1 16 (((H.1 13 4) - 1)).toNat))).toNat) (i := ((((H.1 13 4) - 1) * 4) + (H.1 16 (((H.1 13 4) - 1)).toNat))) (x := kx_17) rfl rfl (by decide) (by decide) rfl (by decide) (by omega) (by omega) hI (by omega) (show -2 ≤ b ∧ b ≤ 100 by omega) (fun H5 hI6 hw7 hv8 => ?_)
      have hf9 : fq [] [16, 17] false H H5 := fq_w (fq_rf _ _ _ _) hw7 (fpa (by decide) rfl)
      refine k_run 0 (pc' := 37) (l' := [(0, .inr (.inr 13)), (1, .inl b), (2, .inl ((H.1 13 4) - 1))]) (st' := []) rfl ?_
      refine k_run 4 (pc' := 43) (l' := [(0, .inr (.inr 13)), (1, .inl b), (2, .inl ((H.1 13 4) - 1))]) (st' := [.inl ((H.1 13 4) - 1), .inr (.inr 16), .inl ((H.1 13 4) - 1), .inr (.inr 16)]) rfl ?_
      refine k_ild (c := 16) (j := (((H.1 13 4) - 1)).toNat) (i := ((H.1 13 4) - 1)) (x := kx_16) rfl rfl (by decide) rfl (by decide) (by omega) (by omega) ?_
      have g10 : 0 ≤ (H5.1 16 (((H.1 13 4) - 1)).toNat) ∧ (H5.1 16 (((H.1 13 4) - 1)).toNat) ≤ 4 := kn (x := kx_16) hI6 rfl (((H.1 13 4) - 1)).toNat
      have e11 : (H5.1 16 (((H.1 13 4) - 1)).toNat) = (H.1 16 (((H.1 13 4) - 1)).toNat) := hw7.2 _ _ (fun q => absurd q.1 (by decide))
      refine k_run 0 (pc' := 44) (l' := [(0, .inr (.inr 13)), (1, .inl b), (2, .inl ((H.1 13 4) - 1))]) (st' := [.inl (H5.1 16 (((H.1 13 4) - 1)).toNat), .inl ((H.1 13 4) - 1), .inr (.inr 16)]) rfl ?_
      refine k_run 2 (pc' := 46) (l' := [(0, .inr (.inr 13)), (1, .inl b), (2, .inl ((H.1 13 4) - 1))]) (st' := [.inl ((H5.1 16 (((H.1 13 4) - 1)).toNat) + 1), .inl ((H.1 13 4) - 1), .inr (.inr 16)]) rfl ?_
      refine k_ist (z := ((H5.1 16 (((H.1 13 4) - 1)).toNat) + 1)) (c := 16) (j := (((H.1 13 4) - 1)).toNat) (i := ((H.1 13 4) - 1)) (x := kx_16) rfl rfl (by decide) (by decide) rfl (by decide) (by omega) (by omega) hI6 (by omega) (show 0 ≤ ((H5.1 16 (((H.1 13 4) - 1)).toNat) + 1) ∧ ((H5.1 16 (((H.1 13 4) - 1)).toNat) + 1) ≤ 4 by omega) (fun H12 hI13 hw14 hv15 => ?_)
      have hf16 : fq [] [16, 17] false H H12 := fq_w hf9 hw14 (fpa (by decide) rfl)
      refine k_run 0 (pc' := 47) (l' := [(0, .inr (.inr 13)), (1, .inl b), (2, .inl ((H.1 13 4) - 1))]) (st' := []) rfl ?_
      refine h_ret rfl rfl ?_
      exact ⟨rfl, hI13, hf16⟩

/-! Symbols.argument -/
set_option maxRecDepth 100000 in
theorem k_Symbols_argument_13 {d : Nat} (hd : 1 ≤ d) {H : hp} (hI : Inv H) {a : Int} {b : Int} (ha : -2147483648 ≤ a ∧ a ≤ 2147483647) (hb : -2147483648 ≤ b ∧ b ≤ 2147483647) (hp0 : -1000 ≤ a ∧ a ≤ 1000 ∧ -1000 ≤ b ∧ b ≤ 1000) : hG (zs zK) d mt_45 0 (zargs 0 [.inr (.inr 13), .inl a, .inl b]) [] H (fun r9 H9 => ∃ z : Int, r9 = some (.inl z) ∧ ((-2147483648 ≤ z ∧ z ≤ 2147483647) ∧ (-2 ≤ z ∧ z ≤ 100)) ∧ H = H9) := by
  refine k_run 0 (pc' := 0) (l' := [(0, .inr (.inr 13)), (1, .inl a), (2, .inl b)]) (st' := []) rfl ?_
  refine k_run 7 (pc' := 7) (l' := [(0, .inr (.inr 13)), (1, .inl a), (2, .inl b), (3, .inl ((a * 4) + b))]) (st' := [.inl a]) rfl ?_
  refine h_zlt (off := 30) (t := 37) rfl rfl (by omega) (fun c1 => ?_) (fun c1 => ?_)
  · refine k_run 0 (pc' := 37) (l' := [(0, .inr (.inr 13)), (1, .inl a), (2, .inl b), (3, .inl ((a * 4) + b))]) (st' := []) rfl ?_
    refine k_run 1 (pc' := 38) (l' := [(0, .inr (.inr 13)), (1, .inl a), (2, .inl b), (3, .inl ((a * 4) + b))]) (st' := [.inl (-1)]) rfl ?_
    refine h_reti (x := (-1)) rfl rfl ?_
    exact ⟨_, rfl, (by omega), rfl⟩
  · refine k_run 0 (pc' := 10) (l' := [(0, .inr (.inr 13)), (1, .inl a), (2, .inl b), (3, .inl ((a * 4) + b))]) (st' := []) rfl ?_
    refine k_run 1 (pc' := 11) (l' := [(0, .inr (.inr 13)), (1, .inl a), (2, .inl b), (3, .inl ((a * 4) + b))]) (st' := [.inl b]) rfl ?_
    refine h_zlt (off := 26) (t := 37) rfl rfl (by omega) (fun c2 => ?_) (fun c2 => ?_)
    · refine k_run 0 (pc' := 37) (l' := [(0, .inr (.inr 13)), (1, .inl a), (2, .inl b), (3, .inl ((a * 4) + b))]) (st' := []) rfl ?_
      refine k_run 1 (pc' := 38) (l' := [(0, .inr (.inr 13)), (1, .inl a), (2, .inl b), (3, .inl ((a * 4) + b))]) (st' := [.inl (-1)]) rfl ?_
      refine h_reti (x := (-1)) rfl rfl ?_
      exact ⟨_, rfl, (by omega), rfl⟩
    · refine k_run 0 (pc' := 14) (l' := [(0, .inr (.inr 13)), (1, .inl a), (2, .inl b), (3, .inl ((a * 4) + b))]) (st' := []) rfl ?_
      refine k_run 2 (pc' := 16) (l' := [(0, .inr (.inr 13)), (1, .inl a), (2, .inl b), (3, .inl ((a * 4) + b))]) (st' := [.inl 4, .inl b]) rfl ?_
      refine h_ige (off := 21) (t := 37) rfl rfl (by omega) (by decide) (fun c3 => ?_) (fun c3 => ?_)
      · refine k_run 0 (pc' := 37) (l' := [(0, .inr (.inr 13)), (1, .inl a), (2, .inl b), (3, .inl ((a * 4) + b))]) (st' := []) rfl ?_
        refine k_run 1 (pc' := 38) (l' := [(0, .inr (.inr 13)), (1, .inl a), (2, .inl b), (3, .inl ((a * 4) + b))]) (st' := [.inl (-1)]) rfl ?_
        refine h_reti (x := (-1)) rfl rfl ?_
        exact ⟨_, rfl, (by omega), rfl⟩
      · refine k_run 0 (pc' := 19) (l' := [(0, .inr (.inr 13)), (1, .inl a), (2, .inl b), (3, .inl ((a * 4) + b))]) (st' := []) rfl ?_
        refine k_run 3 (pc' := 24) (l' := [(0, .inr (.inr 13)), (1, .inl a), (2, .inl b), (3, .inl ((a * 4) + b))]) (st' := [.inr (.inr 17), .inl ((a * 4) + b)]) rfl ?_
        refine k_alen (c := 17) (x := kx_17) rfl rfl (by decide) rfl ?_
        refine k_run 0 (pc' := 25) (l' := [(0, .inr (.inr 13)), (1, .inl a), (2, .inl b), (3, .inl ((a * 4) + b))]) (st' := [.inl 64, .inl ((a * 4) + b)]) rfl ?_
        refine h_ige (off := 12) (t := 37) rfl rfl (by omega) (by decide) (fun c4 => ?_) (fun c4 => ?_)
        · refine k_run 0 (pc' := 37) (l' := [(0, .inr (.inr 13)), (1, .inl a), (2, .inl b), (3, .inl ((a * 4) + b))]) (st' := []) rfl ?_
          refine k_run 1 (pc' := 38) (l' := [(0, .inr (.inr 13)), (1, .inl a), (2, .inl b), (3, .inl ((a * 4) + b))]) (st' := [.inl (-1)]) rfl ?_
          refine h_reti (x := (-1)) rfl rfl ?_
          exact ⟨_, rfl, (by omega), rfl⟩
        · refine k_run 0 (pc' := 28) (l' := [(0, .inr (.inr 13)), (1, .inl a), (2, .inl b), (3, .inl ((a * 4) + b))]) (st' := []) rfl ?_
          refine k_run 3 (pc' := 33) (l' := [(0, .inr (.inr 13)), (1, .inl a), (2, .inl b), (3, .inl ((a * 4) + b))]) (st' := [.inl ((a * 4) + b), .inr (.inr 17)]) rfl ?_
          refine k_ild (c := 17) (j := (((a * 4) + b)).toNat) (i := ((a * 4) + b)) (x := kx_17) rfl rfl (by decide) rfl (by decide) (by omega) (by omega) ?_
          have g5 : -2 ≤ (H.1 17 (((a * 4) + b)).toNat) ∧ (H.1 17 (((a * 4) + b)).toNat) ≤ 100 := kn (x := kx_17) hI rfl (((a * 4) + b)).toNat
          refine k_run 0 (pc' := 34) (l' := [(0, .inr (.inr 13)), (1, .inl a), (2, .inl b), (3, .inl ((a * 4) + b))]) (st' := [.inl (H.1 17 (((a * 4) + b)).toNat)]) rfl ?_
          refine k_run 1 (pc' := 38) (l' := [(0, .inr (.inr 13)), (1, .inl a), (2, .inl b), (3, .inl ((a * 4) + b))]) (st' := [.inl (H.1 17 (((a * 4) + b)).toNat)]) rfl ?_
          refine h_reti (x := (H.1 17 (((a * 4) + b)).toNat)) rfl rfl ?_
          exact ⟨_, rfl, (by omega), rfl⟩

/-! Symbols.find -/
set_option maxRecDepth 100000 in
theorem k_Symbols_find_18_cut {d : Nat} (hd : 1 ≤ d) {H : hp} (hI : Inv H) {a : Int}  : ∀ w : Nat, (∀ (x3 : Int) , (-2147483648 ≤ x3 ∧ x3 ≤ 2147483647) → (0 ≤ x3) → (((100 - x3).toNat) < w) → hG (zs zK) d mt_41 2 [(0, .inr (.inr 18)), (1, .inr (.inl a)), (3, .inl x3)] [] H (fun r9 H9 => ∃ z : Int, r9 = some (.inl z) ∧ ((-2147483648 ≤ z ∧ z ≤ 2147483647) ∧ (-1 ≤ z ∧ z < H.1 18 4)) ∧ H = H9)) := by
  intro w
  induction w with
  | zero => exact fun _ _ _ h => absurd h (Nat.not_lt_zero _)
  | succ w ih =>
    intro x3 hx3 hi0 hw
    refine k_run 3 (pc' := 7) (l' := [(0, .inr (.inr 18)), (1, .inr (.inl a)), (3, .inl x3)]) (st' := [.inl (H.1 18 4), .inl x3]) rfl ?_
    have g1 : 0 ≤ (H.1 18 4) ∧ (H.1 18 4) ≤ 16 := kn (x := kx_18) hI rfl 4
    refine h_ige (off := 31) (t := 38) rfl rfl (by omega) (by omega) (fun c2 => ?_) (fun c2 => ?_)
    · refine k_run 0 (pc' := 38) (l' := [(0, .inr (.inr 18)), (1, .inr (.inl a)), (3, .inl x3)]) (st' := []) rfl ?_
      refine k_run 1 (pc' := 39) (l' := [(0, .inr (.inr 18)), (1, .inr (.inl a)), (3, .inl x3)]) (st' := [.inl (-1)]) rfl ?_
      refine h_reti (x := (-1)) rfl rfl ?_
      exact ⟨_, rfl, (by omega), rfl⟩
    · refine k_run 0 (pc' := 10) (l' := [(0, .inr (.inr 18)), (1, .inr (.inl a)), (3, .inl x3)]) (st' := []) rfl ?_
      refine k_run 3 (pc' := 15) (l' := [(0, .inr (.inr 18)), (1, .inr (.inl a)), (3, .inl x3)]) (st' := [.inr (.inr 19), .inl x3]) rfl ?_
      refine k_alen (c := 19) (x := kx_19) rfl rfl (by decide) rfl ?_
      refine k_run 0 (pc' := 16) (l' := [(0, .inr (.inr 18)), (1, .inr (.inl a)), (3, .inl x3)]) (st' := [.inl 16, .inl x3]) rfl ?_
      refine h_ige (off := 22) (t := 38) rfl rfl (by omega) (by decide) (fun c3 => ?_) (fun c3 => ?_)
      · refine k_run 0 (pc' := 38) (l' := [(0, .inr (.inr 18)), (1, .inr (.inl a)), (3, .inl x3)]) (st' := []) rfl ?_
        refine k_run 1 (pc' := 39) (l' := [(0, .inr (.inr 18)), (1, .inr (.inl a)), (3, .inl x3)]) (st' := [.inl (-1)]) rfl ?_
        refine h_reti (x := (-1)) rfl rfl ?_
        exact ⟨_, rfl, (by omega), rfl⟩
      · refine k_run 0 (pc' := 19) (l' := [(0, .inr (.inr 18)), (1, .inr (.inl a)), (3, .inl x3)]) (st' := []) rfl ?_
        refine k_run 3 (pc' := 24) (l' := [(0, .inr (.inr 18)), (1, .inr (.inl a)), (3, .inl x3)]) (st' := [.inl x3, .inr (.inr 19)]) rfl ?_
        refine k_lld (c := 19) (j := (x3).toNat) (i := x3) (x := kx_19) rfl rfl (by decide) rfl (by decide) (by omega) (by omega) ?_
        have g4 : -9223372036854775808 ≤ (H.1 19 (x3).toNat) ∧ (H.1 19 (x3).toNat) ≤ 9223372036854775807 := kn (x := kx_19) hI rfl (x3).toNat
        refine k_run 0 (pc' := 25) (l' := [(0, .inr (.inr 18)), (1, .inr (.inl a)), (3, .inl x3)]) (st' := [.inr (.inl (H.1 19 (x3).toNat))]) rfl ?_
        refine k_run 2 (pc' := 27) (l' := [(0, .inr (.inr 18)), (1, .inr (.inl a)), (3, .inl x3)]) (st' := [.inl (z_cmp (H.1 19 (x3).toNat) a)]) rfl ?_
        refine k_nrm (fun y5 hy5 => ?_)
        refine k_run 0 (pc' := 27) (l' := [(0, .inr (.inr 18)), (1, .inr (.inl a)), (3, .inl x3)]) (st' := [.inl y5]) rfl ?_
        refine h_zne (off := 5) (t := 32) rfl rfl (by omega) (fun c6 => ?_) (fun c6 => ?_)
        · refine k_run 0 (pc' := 32) (l' := [(0, .inr (.inr 18)), (1, .inr (.inl a)), (3, .inl x3)]) (st' := []) rfl ?_
          refine k_run 2 (pc' := 2) (l' := [(0, .inr (.inr 18)), (1, .inr (.inl a)), (3, .inl (x3 + 1))]) (st' := []) rfl ?_
          exact ih (x3 + 1) (by omega) (by omega) (by omega)
        · refine k_run 0 (pc' := 30) (l' := [(0, .inr (.inr 18)), (1, .inr (.inl a)), (3, .inl x3)]) (st' := []) rfl ?_
          refine k_run 1 (pc' := 31) (l' := [(0, .inr (.inr 18)), (1, .inr (.inl a)), (3, .inl x3)]) (st' := [.inl x3]) rfl ?_
          refine h_reti (x := x3) rfl rfl ?_
          exact ⟨_, rfl, (by omega), rfl⟩
set_option maxRecDepth 100000 in
theorem k_Symbols_find_18 {d : Nat} (hd : 1 ≤ d) {H : hp} (hI : Inv H) {a : Int}  : hG (zs zK) d mt_41 0 (zargs 0 [.inr (.inr 18), .inr (.inl a)]) [] H (fun r9 H9 => ∃ z : Int, r9 = some (.inl z) ∧ ((-2147483648 ≤ z ∧ z ≤ 2147483647) ∧ (-1 ≤ z ∧ z < H.1 18 4)) ∧ H = H9) := by
  refine k_run 0 (pc' := 0) (l' := [(0, .inr (.inr 18)), (1, .inr (.inl a))]) (st' := []) rfl ?_
  refine k_run 2 (pc' := 2) (l' := [(0, .inr (.inr 18)), (1, .inr (.inl a)), (3, .inl 0)]) (st' := []) rfl ?_
  exact (k_Symbols_find_18_cut hd hI  _) (0 : Int) (by decide) (by omega) (Nat.lt_succ_self _)

/-! Symbols.isFull -/
set_option maxRecDepth 100000 in
theorem k_Symbols_isFull_18 {d : Nat} (hd : 1 ≤ d) {H : hp} (hI : Inv H)   : hG (zs zK) d mt_42 0 (zargs 0 [.inr (.inr 18)]) [] H (fun r9 H9 => ∃ z : Int, r9 = some (.inl z) ∧ ((0 ≤ z ∧ z ≤ 1) ∧ (z = 1 ∨ H.1 18 4 < 16)) ∧ H = H9) := by
  refine k_run 0 (pc' := 0) (l' := [(0, .inr (.inr 18))]) (st' := []) rfl ?_
  refine k_run 2 (pc' := 4) (l' := [(0, .inr (.inr 18))]) (st' := [.inl (H.1 18 4)]) rfl ?_
  have g1 : 0 ≤ (H.1 18 4) ∧ (H.1 18 4) ≤ 16 := kn (x := kx_18) hI rfl 4
  refine k_run 2 (pc' := 8) (l' := [(0, .inr (.inr 18))]) (st' := [.inr (.inr 19), .inl (H.1 18 4)]) rfl ?_
  refine k_alen (c := 19) (x := kx_19) rfl rfl (by decide) rfl ?_
  refine k_run 0 (pc' := 9) (l' := [(0, .inr (.inr 18))]) (st' := [.inl 16, .inl (H.1 18 4)]) rfl ?_
  refine h_ilt (off := 7) (t := 16) rfl rfl (by omega) (by decide) (fun c2 => ?_) (fun c2 => ?_)
  · refine k_run 0 (pc' := 16) (l' := [(0, .inr (.inr 18))]) (st' := []) rfl ?_
    refine k_run 1 (pc' := 17) (l' := [(0, .inr (.inr 18))]) (st' := [.inl 0]) rfl ?_
    refine h_retz (x := 0) rfl rfl (by decide) ?_
    exact ⟨_, rfl, (by omega), rfl⟩
  · refine k_run 0 (pc' := 12) (l' := [(0, .inr (.inr 18))]) (st' := []) rfl ?_
    refine k_run 2 (pc' := 17) (l' := [(0, .inr (.inr 18))]) (st' := [.inl 1]) rfl ?_
    refine h_retz (x := 1) rfl rfl (by decide) ?_
    exact ⟨_, rfl, (by omega), rfl⟩

/-! Symbols.add -/
set_option maxRecDepth 100000 in
theorem k_Symbols_add_18 {d : Nat} (hd : 1 ≤ d) {H : hp} (hI : Inv H) {a : Int} {b : Int} (hb : -2147483648 ≤ b ∧ b ≤ 2147483647) (hp0 : -2 ≤ b ∧ b ≤ 100) : hG (zs zK) d mt_43 0 (zargs 0 [.inr (.inr 18), .inr (.inl a), .inl b]) [] H (fun r9 H9 => r9 = none ∧ Inv H9 ∧ fq [(18, 4)] [19, 20, 21] false H H9) := by
  refine k_run 0 (pc' := 0) (l' := [(0, .inr (.inr 18)), (1, .inr (.inl a)), (3, .inl b)]) (st' := []) rfl ?_
  refine k_run 2 (pc' := 4) (l' := [(0, .inr (.inr 18)), (1, .inr (.inl a)), (3, .inl b)]) (st' := [.inl (H.1 18 4)]) rfl ?_
  have g1 : 0 ≤ (H.1 18 4) ∧ (H.1 18 4) ≤ 16 := kn (x := kx_18) hI rfl 4
  refine k_run 2 (pc' := 8) (l' := [(0, .inr (.inr 18)), (1, .inr (.inl a)), (3, .inl b)]) (st' := [.inr (.inr 19), .inl (H.1 18 4)]) rfl ?_
  refine k_alen (c := 19) (x := kx_19) rfl rfl (by decide) rfl ?_
  refine k_run 0 (pc' := 9) (l' := [(0, .inr (.inr 18)), (1, .inr (.inl a)), (3, .inl b)]) (st' := [.inl 16, .inl (H.1 18 4)]) rfl ?_
  refine h_ige (off := 43) (t := 52) rfl rfl (by omega) (by decide) (fun c2 => ?_) (fun c2 => ?_)
  · refine k_run 0 (pc' := 52) (l' := [(0, .inr (.inr 18)), (1, .inr (.inl a)), (3, .inl b)]) (st' := []) rfl ?_
    refine h_ret rfl rfl ?_
    exact ⟨rfl, hI, (fq_rf _ _ _ _)⟩
  · refine k_run 0 (pc' := 12) (l' := [(0, .inr (.inr 18)), (1, .inr (.inl a)), (3, .inl b)]) (st' := []) rfl ?_
    refine k_run 5 (pc' := 21) (l' := [(0, .inr (.inr 18)), (1, .inr (.inl a)), (3, .inl b)]) (st' := [.inr (.inl a), .inl (H.1 18 4), .inr (.inr 19)]) rfl ?_
    refine k_lst (c := 19) (j := ((H.1 18 4)).toNat) (i := (H.1 18 4)) (x := kx_19) rfl rfl (by decide) (by decide) rfl (by decide) (by omega) (by omega) hI rfl (fun H3 hI4 hw5 => ?_)
    have hf7 : fq [(18, 4)] [19, 20, 21] false H H3 := fq_w (fq_rf _ _ _ _) hw5 (fpa (by decide) rfl)
    refine k_run 0 (pc' := 22) (l' := [(0, .inr (.inr 18)), (1, .inr (.inl a)), (3, .inl b)]) (st' := []) rfl ?_
    refine k_run 4 (pc' := 30) (l' := [(0, .inr (.inr 18)), (1, .inr (.inl a)), (3, .inl b)]) (st' := [.inl (H3.1 18 4), .inr (.inr 20)]) rfl ?_
    have g8 : 0 ≤ (H3.1 18 4) ∧ (H3.1 18 4) ≤ 16 := kn (x := kx_18) hI4 rfl 4
    have e9 : (H3.1 18 4) = (H.1 18 4) := hw5.2 _ _ (fun q => absurd q.1 (by decide))
    refine k_run 1 (pc' := 31) (l' := [(0, .inr (.inr 18)), (1, .inr (.inl a)), (3, .inl b)]) (st' := [.inl b, .inl (H3.1 18 4), .inr (.inr 20)]) rfl ?_
    refine k_ist (z := b) (c := 20) (j := ((H3.1 18 4)).toNat) (i := (H3.1 18 4)) (x := kx_20) rfl rfl (by decide) (by decide) rfl (by decide) (by omega) (by omega) hI4 (by omega) (show -2 ≤ b ∧ b ≤ 100 by omega) (fun H10 hI11 hw12 hv13 => ?_)
    have hf14 : fq [(18, 4)] [19, 20, 21] false H H10 := fq_w hf7 hw12 (fpa (by decide) rfl)
    refine k_run 0 (pc' := 32) (l' := [(0, .inr (.inr 18)), (1, .inr (.inl a)), (3, .inl b)]) (st' := []) rfl ?_
    refine k_run 4 (pc' := 40) (l' := [(0, .inr (.inr 18)), (1, .inr (.inl a)), (3, .inl b)]) (st' := [.inl (H10.1 18 4), .inr (.inr 21)]) rfl ?_
    have g15 : 0 ≤ (H10.1 18 4) ∧ (H10.1 18 4) ≤ 16 := kn (x := kx_18) hI11 rfl 4
    have e16 : (H10.1 18 4) = (H3.1 18 4) := hw12.2 _ _ (fun q => absurd q.1 (by decide))
    refine k_run 1 (pc' := 41) (l' := [(0, .inr (.inr 18)), (1, .inr (.inl a)), (3, .inl b)]) (st' := [.inl 0, .inl (H10.1 18 4), .inr (.inr 21)]) rfl ?_
    refine k_ist (z := 0) (c := 21) (j := ((H10.1 18 4)).toNat) (i := (H10.1 18 4)) (x := kx_21) rfl rfl (by decide) (by decide) rfl (by decide) (by omega) (by omega) hI11 (by decide) (show 0 ≤ (0 : Int) ∧ (0 : Int) ≤ 4 by omega) (fun H17 hI18 hw19 hv20 => ?_)
    have hf21 : fq [(18, 4)] [19, 20, 21] false H H17 := fq_w hf14 hw19 (fpa (by decide) rfl)
    refine k_run 0 (pc' := 42) (l' := [(0, .inr (.inr 18)), (1, .inr (.inl a)), (3, .inl b)]) (st' := []) rfl ?_
    refine k_run 3 (pc' := 47) (l' := [(0, .inr (.inr 18)), (1, .inr (.inl a)), (3, .inl b)]) (st' := [.inl (H17.1 18 4), .inr (.inr 18)]) rfl ?_
    have g22 : 0 ≤ (H17.1 18 4) ∧ (H17.1 18 4) ≤ 16 := kn (x := kx_18) hI18 rfl 4
    have e23 : (H17.1 18 4) = (H10.1 18 4) := hw19.2 _ _ (fun q => absurd q.1 (by decide))
    refine k_run 2 (pc' := 49) (l' := [(0, .inr (.inr 18)), (1, .inr (.inl a)), (3, .inl b)]) (st' := [.inl ((H17.1 18 4) + 1), .inr (.inr 18)]) rfl ?_
    refine k_puti (z := ((H17.1 18 4) + 1)) (a := 18) (x := kx_18) rfl rfl rfl (by decide) (by decide) rfl rfl rfl rfl hI18 (by omega) (show 0 ≤ ((H17.1 18 4) + 1) ∧ ((H17.1 18 4) + 1) ≤ 16 by omega) (fun H24 hI25 hw26 hv27 => ?_)
    have hf28 : fq [(18, 4)] [19, 20, 21] false H H24 := fq_w hf21 hw26 (fpo (by decide) rfl)
    refine k_run 0 (pc' := 52) (l' := [(0, .inr (.inr 18)), (1, .inr (.inl a)), (3, .inl b)]) (st' := []) rfl ?_
    refine h_ret rfl rfl ?_
    exact ⟨rfl, hI25, hf28⟩

/-! Symbols.addArgument -/
set_option maxRecDepth 100000 in
theorem k_Symbols_addArgument_18 {d : Nat} (hd : 1 ≤ d) {H : hp} (hI : Inv H) {b : Int} (hb : -2147483648 ≤ b ∧ b ≤ 2147483647) (hp0 : -2 ≤ b ∧ b ≤ 100) : hG (zs zK) d mt_44 0 (zargs 0 [.inr (.inr 18), .inl b]) [] H (fun r9 H9 => r9 = none ∧ Inv H9 ∧ fq [] [21, 22] false H H9) := by
  refine k_run 0 (pc' := 0) (l' := [(0, .inr (.inr 18)), (1, .inl b)]) (st' := []) rfl ?_
  refine k_run 2 (pc' := 4) (l' := [(0, .inr (.inr 18)), (1, .inl b)]) (st' := [.inl (H.1 18 4)]) rfl ?_
  have g1 : 0 ≤ (H.1 18 4) ∧ (H.1 18 4) ≤ 16 := kn (x := kx_18) hI rfl 4
  refine k_run 4 (pc' := 8) (l' := [(0, .inr (.inr 18)), (1, .inl b), (2, .inl ((H.1 18 4) - 1))]) (st' := [.inl ((H.1 18 4) - 1)]) rfl ?_
  refine h_zlt (off := 39) (t := 47) rfl rfl (by omega) (fun c2 => ?_) (fun c2 => ?_)
  · refine k_run 0 (pc' := 47) (l' := [(0, .inr (.inr 18)), (1, .inl b), (2, .inl ((H.1 18 4) - 1))]) (st' := []) rfl ?_
    refine h_ret rfl rfl ?_
    exact ⟨rfl, hI, (fq_rf _ _ _ _)⟩
  · refine k_run 0 (pc' := 11) (l' := [(0, .inr (.inr 18)), (1, .inl b), (2, .inl ((H.1 18 4) - 1))]) (st' := []) rfl ?_
    refine k_run 3 (pc' := 16) (l' := [(0, .inr (.inr 18)), (1, .inl b), (2, .inl ((H.1 18 4) - 1))]) (st' := [.inl ((H.1 18 4) - 1), .inr (.inr 21)]) rfl ?_
    refine k_ild (c := 21) (j := (((H.1 18 4) - 1)).toNat) (i := ((H.1 18 4) - 1)) (x := kx_21) rfl rfl (by decide) rfl (by decide) (by omega) (by omega) ?_
    have g3 : 0 ≤ (H.1 21 (((H.1 18 4) - 1)).toNat) ∧ (H.1 21 (((H.1 18 4) - 1)).toNat) ≤ 4 := kn (x := kx_21) hI rfl (((H.1 18 4) - 1)).toNat
    refine k_run 0 (pc' := 17) (l' := [(0, .inr (.inr 18)), (1, .inl b), (2, .inl ((H.1 18 4) - 1))]) (st' := [.inl (H.1 21 (((H.1 18 4) - 1)).toNat)]) rfl ?_
    refine k_run 1 (pc' := 18) (l' := [(0, .inr (.inr 18)), (1, .inl b), (2, .inl ((H.1 18 4) - 1))]) (st' := [.inl 4, .inl (H.1 21 (((H.1 18 4) - 1)).toNat)]) rfl ?_
    refine h_ige (off := 29) (t := 47) rfl rfl (by omega) (by decide) (fun c4 => ?_) (fun c4 => ?_)
    · refine k_run 0 (pc' := 47) (l' := [(0, .inr (.inr 18)), (1, .inl b), (2, .inl ((H.1 18 4) - 1))]) (st' := []) rfl ?_
      refine h_ret rfl rfl ?_
      exact ⟨rfl, hI, (fq_rf _ _ _ _)⟩
    · refine k_run 0 (pc' := 21) (l' := [(0, .inr (.inr 18)), (1, .inl b), (2, .inl ((H.1 18 4) - 1))]) (st' := []) rfl ?_
      refine k_run 8 (pc' := 33) (l' := [(0, .inr (.inr 18)), (1, .inl b), (2, .inl ((H.1 18 4) - 1))]) (st' := [.inl ((H.1 18 4) - 1), .inr (.inr 21), .inl (((H.1 18 4) - 1) * 4), .inr (.inr 22)]) rfl ?_
      refine k_ild (c := 21) (j := (((H.1 18 4) - 1)).toNat) (i := ((H.1 18 4) - 1)) (x := kx_21) rfl rfl (by decide) rfl (by decide) (by omega) (by omega) ?_
      refine k_run 0 (pc' := 34) (l' := [(0, .inr (.inr 18)), (1, .inl b), (2, .inl ((H.1 18 4) - 1))]) (st' := [.inl (H.1 21 (((H.1 18 4) - 1)).toNat), .inl (((H.1 18 4) - 1) * 4), .inr (.inr 22)]) rfl ?_
      refine k_run 2 (pc' := 36) (l' := [(0, .inr (.inr 18)), (1, .inl b), (2, .inl ((H.1 18 4) - 1))]) (st' := [.inl b, .inl ((((H.1 18 4) - 1) * 4) + (H.1 21 (((H.1 18 4) - 1)).toNat)), .inr (.inr 22)]) rfl ?_
      refine k_ist (z := b) (c := 22) (j := (((((H.1 18 4) - 1) * 4) + (H.1 21 (((H.1 18 4) - 1)).toNat))).toNat) (i := ((((H.1 18 4) - 1) * 4) + (H.1 21 (((H.1 18 4) - 1)).toNat))) (x := kx_22) rfl rfl (by decide) (by decide) rfl (by decide) (by omega) (by omega) hI (by omega) (show -2 ≤ b ∧ b ≤ 100 by omega) (fun H5 hI6 hw7 hv8 => ?_)
      have hf9 : fq [] [21, 22] false H H5 := fq_w (fq_rf _ _ _ _) hw7 (fpa (by decide) rfl)
      refine k_run 0 (pc' := 37) (l' := [(0, .inr (.inr 18)), (1, .inl b), (2, .inl ((H.1 18 4) - 1))]) (st' := []) rfl ?_
      refine k_run 4 (pc' := 43) (l' := [(0, .inr (.inr 18)), (1, .inl b), (2, .inl ((H.1 18 4) - 1))]) (st' := [.inl ((H.1 18 4) - 1), .inr (.inr 21), .inl ((H.1 18 4) - 1), .inr (.inr 21)]) rfl ?_
      refine k_ild (c := 21) (j := (((H.1 18 4) - 1)).toNat) (i := ((H.1 18 4) - 1)) (x := kx_21) rfl rfl (by decide) rfl (by decide) (by omega) (by omega) ?_
      have g10 : 0 ≤ (H5.1 21 (((H.1 18 4) - 1)).toNat) ∧ (H5.1 21 (((H.1 18 4) - 1)).toNat) ≤ 4 := kn (x := kx_21) hI6 rfl (((H.1 18 4) - 1)).toNat
      have e11 : (H5.1 21 (((H.1 18 4) - 1)).toNat) = (H.1 21 (((H.1 18 4) - 1)).toNat) := hw7.2 _ _ (fun q => absurd q.1 (by decide))
      refine k_run 0 (pc' := 44) (l' := [(0, .inr (.inr 18)), (1, .inl b), (2, .inl ((H.1 18 4) - 1))]) (st' := [.inl (H5.1 21 (((H.1 18 4) - 1)).toNat), .inl ((H.1 18 4) - 1), .inr (.inr 21)]) rfl ?_
      refine k_run 2 (pc' := 46) (l' := [(0, .inr (.inr 18)), (1, .inl b), (2, .inl ((H.1 18 4) - 1))]) (st' := [.inl ((H5.1 21 (((H.1 18 4) - 1)).toNat) + 1), .inl ((H.1 18 4) - 1), .inr (.inr 21)]) rfl ?_
      refine k_ist (z := ((H5.1 21 (((H.1 18 4) - 1)).toNat) + 1)) (c := 21) (j := (((H.1 18 4) - 1)).toNat) (i := ((H.1 18 4) - 1)) (x := kx_21) rfl rfl (by decide) (by decide) rfl (by decide) (by omega) (by omega) hI6 (by omega) (show 0 ≤ ((H5.1 21 (((H.1 18 4) - 1)).toNat) + 1) ∧ ((H5.1 21 (((H.1 18 4) - 1)).toNat) + 1) ≤ 4 by omega) (fun H12 hI13 hw14 hv15 => ?_)
      have hf16 : fq [] [21, 22] false H H12 := fq_w hf9 hw14 (fpa (by decide) rfl)
      refine k_run 0 (pc' := 47) (l' := [(0, .inr (.inr 18)), (1, .inl b), (2, .inl ((H.1 18 4) - 1))]) (st' := []) rfl ?_
      refine h_ret rfl rfl ?_
      exact ⟨rfl, hI13, hf16⟩

/-! Symbols.argument -/
set_option maxRecDepth 100000 in
theorem k_Symbols_argument_18 {d : Nat} (hd : 1 ≤ d) {H : hp} (hI : Inv H) {a : Int} {b : Int} (ha : -2147483648 ≤ a ∧ a ≤ 2147483647) (hb : -2147483648 ≤ b ∧ b ≤ 2147483647) (hp0 : -1000 ≤ a ∧ a ≤ 1000 ∧ -1000 ≤ b ∧ b ≤ 1000) : hG (zs zK) d mt_45 0 (zargs 0 [.inr (.inr 18), .inl a, .inl b]) [] H (fun r9 H9 => ∃ z : Int, r9 = some (.inl z) ∧ ((-2147483648 ≤ z ∧ z ≤ 2147483647) ∧ (-2 ≤ z ∧ z ≤ 100)) ∧ H = H9) := by
  refine k_run 0 (pc' := 0) (l' := [(0, .inr (.inr 18)), (1, .inl a), (2, .inl b)]) (st' := []) rfl ?_
  refine k_run 7 (pc' := 7) (l' := [(0, .inr (.inr 18)), (1, .inl a), (2, .inl b), (3, .inl ((a * 4) + b))]) (st' := [.inl a]) rfl ?_
  refine h_zlt (off := 30) (t := 37) rfl rfl (by omega) (fun c1 => ?_) (fun c1 => ?_)
  · refine k_run 0 (pc' := 37) (l' := [(0, .inr (.inr 18)), (1, .inl a), (2, .inl b), (3, .inl ((a * 4) + b))]) (st' := []) rfl ?_
    refine k_run 1 (pc' := 38) (l' := [(0, .inr (.inr 18)), (1, .inl a), (2, .inl b), (3, .inl ((a * 4) + b))]) (st' := [.inl (-1)]) rfl ?_
    refine h_reti (x := (-1)) rfl rfl ?_
    exact ⟨_, rfl, (by omega), rfl⟩
  · refine k_run 0 (pc' := 10) (l' := [(0, .inr (.inr 18)), (1, .inl a), (2, .inl b), (3, .inl ((a * 4) + b))]) (st' := []) rfl ?_
    refine k_run 1 (pc' := 11) (l' := [(0, .inr (.inr 18)), (1, .inl a), (2, .inl b), (3, .inl ((a * 4) + b))]) (st' := [.inl b]) rfl ?_
    refine h_zlt (off := 26) (t := 37) rfl rfl (by omega) (fun c2 => ?_) (fun c2 => ?_)
    · refine k_run 0 (pc' := 37) (l' := [(0, .inr (.inr 18)), (1, .inl a), (2, .inl b), (3, .inl ((a * 4) + b))]) (st' := []) rfl ?_
      refine k_run 1 (pc' := 38) (l' := [(0, .inr (.inr 18)), (1, .inl a), (2, .inl b), (3, .inl ((a * 4) + b))]) (st' := [.inl (-1)]) rfl ?_
      refine h_reti (x := (-1)) rfl rfl ?_
      exact ⟨_, rfl, (by omega), rfl⟩
    · refine k_run 0 (pc' := 14) (l' := [(0, .inr (.inr 18)), (1, .inl a), (2, .inl b), (3, .inl ((a * 4) + b))]) (st' := []) rfl ?_
      refine k_run 2 (pc' := 16) (l' := [(0, .inr (.inr 18)), (1, .inl a), (2, .inl b), (3, .inl ((a * 4) + b))]) (st' := [.inl 4, .inl b]) rfl ?_
      refine h_ige (off := 21) (t := 37) rfl rfl (by omega) (by decide) (fun c3 => ?_) (fun c3 => ?_)
      · refine k_run 0 (pc' := 37) (l' := [(0, .inr (.inr 18)), (1, .inl a), (2, .inl b), (3, .inl ((a * 4) + b))]) (st' := []) rfl ?_
        refine k_run 1 (pc' := 38) (l' := [(0, .inr (.inr 18)), (1, .inl a), (2, .inl b), (3, .inl ((a * 4) + b))]) (st' := [.inl (-1)]) rfl ?_
        refine h_reti (x := (-1)) rfl rfl ?_
        exact ⟨_, rfl, (by omega), rfl⟩
      · refine k_run 0 (pc' := 19) (l' := [(0, .inr (.inr 18)), (1, .inl a), (2, .inl b), (3, .inl ((a * 4) + b))]) (st' := []) rfl ?_
        refine k_run 3 (pc' := 24) (l' := [(0, .inr (.inr 18)), (1, .inl a), (2, .inl b), (3, .inl ((a * 4) + b))]) (st' := [.inr (.inr 22), .inl ((a * 4) + b)]) rfl ?_
        refine k_alen (c := 22) (x := kx_22) rfl rfl (by decide) rfl ?_
        refine k_run 0 (pc' := 25) (l' := [(0, .inr (.inr 18)), (1, .inl a), (2, .inl b), (3, .inl ((a * 4) + b))]) (st' := [.inl 64, .inl ((a * 4) + b)]) rfl ?_
        refine h_ige (off := 12) (t := 37) rfl rfl (by omega) (by decide) (fun c4 => ?_) (fun c4 => ?_)
        · refine k_run 0 (pc' := 37) (l' := [(0, .inr (.inr 18)), (1, .inl a), (2, .inl b), (3, .inl ((a * 4) + b))]) (st' := []) rfl ?_
          refine k_run 1 (pc' := 38) (l' := [(0, .inr (.inr 18)), (1, .inl a), (2, .inl b), (3, .inl ((a * 4) + b))]) (st' := [.inl (-1)]) rfl ?_
          refine h_reti (x := (-1)) rfl rfl ?_
          exact ⟨_, rfl, (by omega), rfl⟩
        · refine k_run 0 (pc' := 28) (l' := [(0, .inr (.inr 18)), (1, .inl a), (2, .inl b), (3, .inl ((a * 4) + b))]) (st' := []) rfl ?_
          refine k_run 3 (pc' := 33) (l' := [(0, .inr (.inr 18)), (1, .inl a), (2, .inl b), (3, .inl ((a * 4) + b))]) (st' := [.inl ((a * 4) + b), .inr (.inr 22)]) rfl ?_
          refine k_ild (c := 22) (j := (((a * 4) + b)).toNat) (i := ((a * 4) + b)) (x := kx_22) rfl rfl (by decide) rfl (by decide) (by omega) (by omega) ?_
          have g5 : -2 ≤ (H.1 22 (((a * 4) + b)).toNat) ∧ (H.1 22 (((a * 4) + b)).toNat) ≤ 100 := kn (x := kx_22) hI rfl (((a * 4) + b)).toNat
          refine k_run 0 (pc' := 34) (l' := [(0, .inr (.inr 18)), (1, .inl a), (2, .inl b), (3, .inl ((a * 4) + b))]) (st' := [.inl (H.1 22 (((a * 4) + b)).toNat)]) rfl ?_
          refine k_run 1 (pc' := 38) (l' := [(0, .inr (.inr 18)), (1, .inl a), (2, .inl b), (3, .inl ((a * 4) + b))]) (st' := [.inl (H.1 22 (((a * 4) + b)).toNat)]) rfl ?_
          refine h_reti (x := (H.1 22 (((a * 4) + b)).toNat)) rfl rfl ?_
          exact ⟨_, rfl, (by omega), rfl⟩

/-! Printer.putByte -/
set_option maxRecDepth 100000 in
theorem k_Printer_putByte {d : Nat} (hd : 1 ≤ d) {H : hp} (hI : Inv H) {a : Int} (ha : -2147483648 ≤ a ∧ a ≤ 2147483647) : hG (zs zK) d mt_92 0 (zargs 0 [.inr (.inr 363), .inl a]) [] H (fun r9 H9 => r9 = none ∧ Inv H9 ∧ fq [(363, 3)] [364] false H H9) := by
  refine k_run 0 (pc' := 0) (l' := [(0, .inr (.inr 363)), (1, .inl a)]) (st' := []) rfl ?_
  refine k_run 2 (pc' := 4) (l' := [(0, .inr (.inr 363)), (1, .inl a)]) (st' := [.inl (H.1 363 3)]) rfl ?_
  have g1 : 0 ≤ (H.1 363 3) ∧ (H.1 363 3) ≤ 1080 := kn (x := kx_363) hI rfl 3
  refine k_run 2 (pc' := 8) (l' := [(0, .inr (.inr 363)), (1, .inl a)]) (st' := [.inr (.inr 364), .inl (H.1 363 3)]) rfl ?_
  refine k_alen (c := 364) (x := kx_364) rfl rfl (by decide) rfl ?_
  refine k_run 0 (pc' := 9) (l' := [(0, .inr (.inr 363)), (1, .inl a)]) (st' := [.inl 1080, .inl (H.1 363 3)]) rfl ?_
  refine h_ige (off := 23) (t := 32) rfl rfl (by omega) (by decide) (fun c2 => ?_) (fun c2 => ?_)
  · refine k_run 0 (pc' := 32) (l' := [(0, .inr (.inr 363)), (1, .inl a)]) (st' := []) rfl ?_
    refine h_ret rfl rfl ?_
    exact ⟨rfl, hI, (fq_rf _ _ _ _)⟩
  · refine k_run 0 (pc' := 12) (l' := [(0, .inr (.inr 363)), (1, .inl a)]) (st' := []) rfl ?_
    refine k_run 5 (pc' := 21) (l' := [(0, .inr (.inr 363)), (1, .inl a)]) (st' := [.inl a, .inl (H.1 363 3), .inr (.inr 364)]) rfl ?_
    refine k_istw (c := 364) (j := ((H.1 363 3)).toNat) (i := (H.1 363 3)) (x := kx_364) rfl rfl (by decide) (by decide) rfl (by decide) (by omega) (by omega) hI rfl (fun H3 hI4 hw5 => ?_)
    have hf7 : fq [(363, 3)] [364] false H H3 := fq_w (fq_rf _ _ _ _) hw5 (fpa (by decide) rfl)
    refine k_run 0 (pc' := 22) (l' := [(0, .inr (.inr 363)), (1, .inl a)]) (st' := []) rfl ?_
    refine k_run 3 (pc' := 27) (l' := [(0, .inr (.inr 363)), (1, .inl a)]) (st' := [.inl (H3.1 363 3), .inr (.inr 363)]) rfl ?_
    have g8 : 0 ≤ (H3.1 363 3) ∧ (H3.1 363 3) ≤ 1080 := kn (x := kx_363) hI4 rfl 3
    have e9 : (H3.1 363 3) = (H.1 363 3) := hw5.2 _ _ (fun q => absurd q.1 (by decide))
    refine k_run 2 (pc' := 29) (l' := [(0, .inr (.inr 363)), (1, .inl a)]) (st' := [.inl ((H3.1 363 3) + 1), .inr (.inr 363)]) rfl ?_
    refine k_puti (z := ((H3.1 363 3) + 1)) (a := 363) (x := kx_363) rfl rfl rfl (by decide) (by decide) rfl rfl rfl rfl hI4 (by omega) (show 0 ≤ ((H3.1 363 3) + 1) ∧ ((H3.1 363 3) + 1) ≤ 1080 by omega) (fun H10 hI11 hw12 hv13 => ?_)
    have hf14 : fq [(363, 3)] [364] false H H10 := fq_w hf7 hw12 (fpo (by decide) rfl)
    refine k_run 0 (pc' := 32) (l' := [(0, .inr (.inr 363)), (1, .inl a)]) (st' := []) rfl ?_
    refine h_ret rfl rfl ?_
    exact ⟨rfl, hI11, hf14⟩

/-! Printer.putName -/
set_option maxRecDepth 100000 in
theorem k_Printer_putName_cut {d : Nat} (hd : 2 ≤ d) {H : hp} (hI : Inv H) {a : Int}  : ∀ w : Nat, (∀ (H1 : hp), Inv H1 → fq [(363, 3)] [364] false H H1 → ∀ (x3 : Int) , (-2147483648 ≤ x3 ∧ x3 ≤ 2147483647) → (-8 ≤ x3 ∧ x3 ≤ 40) → (((x3 + 100).toNat) < w) → hG (zs zK) d mt_91 3 [(0, .inr (.inr 363)), (1, .inr (.inl a)), (3, .inl x3)] [] H1 (fun r9 H9 => r9 = none ∧ Inv H9 ∧ fq [(363, 3)] [364] false H H9)) := by
  intro w
  induction w with
  | zero => exact fun _ _ _ _ _ _ h => absurd h (Nat.not_lt_zero _)
  | succ w ih =>
    intro H1 hI1 hf1 x3 hx3 hi0 hw
    refine k_run 1 (pc' := 4) (l' := [(0, .inr (.inr 363)), (1, .inr (.inl a)), (3, .inl x3)]) (st' := [.inl x3]) rfl ?_
    refine h_zlt (off := 30) (t := 34) rfl rfl (by omega) (fun c1 => ?_) (fun c1 => ?_)
    · refine k_run 0 (pc' := 34) (l' := [(0, .inr (.inr 363)), (1, .inr (.inl a)), (3, .inl x3)]) (st' := []) rfl ?_
      refine h_ret rfl rfl ?_
      exact ⟨rfl, hI1, hf1⟩
    · refine k_run 0 (pc' := 7) (l' := [(0, .inr (.inr 363)), (1, .inr (.inl a)), (3, .inl x3)]) (st' := []) rfl ?_
      refine k_run 3 (pc' := 10) (l' := [(0, .inr (.inr 363)), (1, .inr (.inl a)), (3, .inl x3)]) (st' := [.inr (.inl (z_lshr a x3))]) rfl ?_
      refine k_nrmj (fun y2 hy2 => ?_)
      refine h_ldc2 (i := 74) (z := 255) rfl rfl rfl ?_
      refine k_run 0 (pc' := 13) (l' := [(0, .inr (.inr 363)), (1, .inr (.inl a)), (3, .inl x3)]) (st' := [.inr (.inl 255), .inr (.inl y2)]) rfl ?_
      refine k_run 1 (pc' := 14) (l' := [(0, .inr (.inr 363)), (1, .inr (.inl a)), (3, .inl x3)]) (st' := [.inr (.inl (z_land y2 255))]) rfl ?_
      refine k_nrmj (fun y3 hy3 => ?_)
      refine k_run 1 (pc' := 15) (l' := [(0, .inr (.inr 363)), (1, .inr (.inl a)), (3, .inl x3)]) (st' := [.inl (z_l2i y3)]) rfl ?_
      refine k_nrm (fun y4 hy4 => ?_)
      refine k_run 0 (pc' := 15) (l' := [(0, .inr (.inr 363)), (1, .inr (.inl a)), (3, .inl x3)]) (st' := [.inl y4]) rfl ?_
      refine k_run 2 (pc' := 19) (l' := [(0, .inr (.inr 363)), (1, .inr (.inl a)), (3, .inl x3), (4, .inl y4)]) (st' := [.inl y4]) rfl ?_
      refine h_zeq (off := 9) (t := 28) rfl rfl (by omega) (fun c5 => ?_) (fun c5 => ?_)
      · refine k_run 0 (pc' := 28) (l' := [(0, .inr (.inr 363)), (1, .inr (.inl a)), (3, .inl x3), (4, .inl y4)]) (st' := []) rfl ?_
        refine k_run 2 (pc' := 3) (l' := [(0, .inr (.inr 363)), (1, .inr (.inl a)), (3, .inl (x3 + (-8))), (4, .inl y4)]) (st' := []) rfl ?_
        refine h_loc [0, 1, 3] rfl ?_
        exact ih H1 hI1 hf1 (x3 + (-8)) (by omega) (by omega) (by omega)
      · refine k_run 0 (pc' := 22) (l' := [(0, .inr (.inr 363)), (1, .inr (.inl a)), (3, .inl x3), (4, .inl y4)]) (st' := []) rfl ?_
        refine k_run 2 (pc' := 25) (l' := [(0, .inr (.inr 363)), (1, .inr (.inl a)), (3, .inl x3), (4, .inl y4)]) (st' := [.inl y4, .inr (.inr 363)]) rfl ?_
        refine h_cv (i := 34) (j := 92) (b := 363) (M' := mt_92) (xs := [.inl y4]) (rest := []) rfl rfl rfl rfl (zs_K (x := kx_363) rfl (by decide)) rfl (Nat.le_of_ble_eq_true rfl) (Nat.le_of_ble_eq_true rfl) (by omega) (k_Printer_putByte (by omega) hI1 (by omega)) ?_
        rintro _ H7 ⟨rfl, hI8, hq9⟩
        have hf10 : fq [(363, 3)] [364] false H H7 := fq_t hf1 hq9 rfl rfl rfl
        refine k_run 0 (pc' := 28) (l' := [(0, .inr (.inr 363)), (1, .inr (.inl a)), (3, .inl x3), (4, .inl y4)]) (st' := []) rfl ?_
        refine k_run 2 (pc' := 3) (l' := [(0, .inr (.inr 363)), (1, .inr (.inl a)), (3, .inl (x3 + (-8))), (4, .inl y4)]) (st' := []) rfl ?_
        refine h_loc [0, 1, 3] rfl ?_
        exact ih H7 hI8 hf10 (x3 + (-8)) (by omega) (by omega) (by omega)
set_option maxRecDepth 100000 in
theorem k_Printer_putName {d : Nat} (hd : 2 ≤ d) {H : hp} (hI : Inv H) {a : Int}  : hG (zs zK) d mt_91 0 (zargs 0 [.inr (.inr 363), .inr (.inl a)]) [] H (fun r9 H9 => r9 = none ∧ Inv H9 ∧ fq [(363, 3)] [364] false H H9) := by
  refine k_run 0 (pc' := 0) (l' := [(0, .inr (.inr 363)), (1, .inr (.inl a))]) (st' := []) rfl ?_
  refine k_run 2 (pc' := 3) (l' := [(0, .inr (.inr 363)), (1, .inr (.inl a)), (3, .inl 40)]) (st' := []) rfl ?_
  exact (k_Printer_putName_cut hd hI  _) H hI (fq_rf _ _ _ _) (40 : Int) (by decide) (by omega) (Nat.lt_succ_self _)

/-! Printer.putNameOf -/
set_option maxRecDepth 100000 in
theorem k_Printer_putNameOf {d : Nat} (hd : 3 ≤ d) {H : hp} (hI : Inv H) {a : Int} {b : Int} (ha : -2147483648 ≤ a ∧ a ≤ 2147483647) : hG (zs zK) d mt_90 0 (zargs 0 [.inr (.inr 363), .inl a, .inr (.inl b)]) [] H (fun r9 H9 => r9 = none ∧ Inv H9 ∧ fq [(363, 3)] [364] false H H9) := by
  refine k_run 0 (pc' := 0) (l' := [(0, .inr (.inr 363)), (1, .inl a), (2, .inr (.inl b))]) (st' := []) rfl ?_
  refine k_run 1 (pc' := 1) (l' := [(0, .inr (.inr 363)), (1, .inl a), (2, .inr (.inl b))]) (st' := [.inl a]) rfl ?_
  refine h_cs (i := 46) (j := 50) (M' := mt_50) (xs := [.inl a]) (rest := []) rfl rfl rfl rfl rfl (Nat.le_of_ble_eq_true rfl) (Nat.le_of_ble_eq_true rfl) (by omega) (k_Term_indexOf (by omega)  (by omega)) ?_
  rintro _ _ ⟨z5, rfl, g1, rfl⟩
  refine k_run 0 (pc' := 4) (l' := [(0, .inr (.inr 363)), (1, .inl a), (2, .inr (.inl b))]) (st' := [.inl z5]) rfl ?_
  refine k_run 2 (pc' := 7) (l' := [(0, .inr (.inr 363)), (1, .inl a), (2, .inr (.inl b)), (4, .inl z5)]) (st' := [.inl a]) rfl ?_
  refine h_cs (i := 49) (j := 49) (M' := mt_49) (xs := [.inl a]) (rest := []) rfl rfl rfl rfl rfl (Nat.le_of_ble_eq_true rfl) (Nat.le_of_ble_eq_true rfl) (by omega) (k_Term_kindOf (by omega)  (by omega)) ?_
  rintro _ _ ⟨z10, rfl, g6, rfl⟩
  refine k_run 0 (pc' := 10) (l' := [(0, .inr (.inr 363)), (1, .inl a), (2, .inr (.inl b)), (4, .inl z5)]) (st' := [.inl z10]) rfl ?_
  rcases (show z10 < 1 ∨ 3 < z10 ∨ z10 = 1 ∨ z10 = 2 ∨ z10 = 3 by omega) with c11 | c11 | c11 | c11 | c11
  · refine h_tout (t := 170) rfl (by omega) (Or.inl c11) rfl ?_
    refine k_run 2 (pc' := 173) (l' := [(0, .inr (.inr 363)), (1, .inl a), (2, .inr (.inl b)), (4, .inl z5)]) (st' := [.inl 95, .inr (.inr 363)]) rfl ?_
    refine h_cv (i := 34) (j := 92) (b := 363) (M' := mt_92) (xs := [.inl 95]) (rest := []) rfl rfl rfl rfl (zs_K (x := kx_363) rfl (by decide)) rfl (Nat.le_of_ble_eq_true rfl) (Nat.le_of_ble_eq_true rfl) (by omega) (k_Printer_putByte (by omega) hI (by decide)) ?_
    rintro _ H13 ⟨rfl, hI14, hq15⟩
    have hf16 : fq [(363, 3)] [364] false H H13 := fq_t (fq_rf _ _ _ _) hq15 rfl rfl rfl
    refine k_run 0 (pc' := 176) (l' := [(0, .inr (.inr 363)), (1, .inl a), (2, .inr (.inl b)), (4, .inl z5)]) (st' := []) rfl ?_
    refine h_ret rfl rfl ?_
    exact ⟨rfl, hI14, hf16⟩
  · refine h_tout (t := 170) rfl (by omega) (Or.inr c11) rfl ?_
    refine k_run 2 (pc' := 173) (l' := [(0, .inr (.inr 363)), (1, .inl a), (2, .inr (.inl b)), (4, .inl z5)]) (st' := [.inl 95, .inr (.inr 363)]) rfl ?_
    refine h_cv (i := 34) (j := 92) (b := 363) (M' := mt_92) (xs := [.inl 95]) (rest := []) rfl rfl rfl rfl (zs_K (x := kx_363) rfl (by decide)) rfl (Nat.le_of_ble_eq_true rfl) (Nat.le_of_ble_eq_true rfl) (by omega) (k_Printer_putByte (by omega) hI (by decide)) ?_
    rintro _ H18 ⟨rfl, hI19, hq20⟩
    have hf21 : fq [(363, 3)] [364] false H H18 := fq_t (fq_rf _ _ _ _) hq20 rfl rfl rfl
    refine k_run 0 (pc' := 176) (l' := [(0, .inr (.inr 363)), (1, .inl a), (2, .inr (.inl b)), (4, .inl z5)]) (st' := []) rfl ?_
    refine h_ret rfl rfl ?_
    exact ⟨rfl, hI19, hf21⟩
  · refine h_tin (k := 0) (t := 36) rfl (by omega) (show z10 = 1 + ((0 : Nat) : Int) by omega) (by decide) rfl rfl ?_
    refine k_run 6 (pc' := 49) (l' := [(0, .inr (.inr 363)), (1, .inl a), (2, .inr (.inl b)), (4, .inl z5)]) (st' := [.inl (H.1 13 4), .inl z5, .inr (.inr 363)]) rfl ?_
    have g22 : 0 ≤ (H.1 13 4) ∧ (H.1 13 4) ≤ 16 := kn (x := kx_13) hI rfl 4
    refine h_ige (off := 19) (t := 68) rfl rfl (by omega) (by omega) (fun c23 => ?_) (fun c23 => ?_)
    · refine k_run 0 (pc' := 68) (l' := [(0, .inr (.inr 363)), (1, .inl a), (2, .inr (.inl b)), (4, .inl z5)]) (st' := [.inr (.inr 363)]) rfl ?_
      refine k_run 1 (pc' := 69) (l' := [(0, .inr (.inr 363)), (1, .inl a), (2, .inr (.inl b)), (4, .inl z5)]) (st' := [.inr (.inl 0), .inr (.inr 363)]) rfl ?_
      refine h_cv (i := 67) (j := 91) (b := 363) (M' := mt_91) (xs := [.inr (.inl 0)]) (rest := []) rfl rfl rfl rfl (zs_K (x := kx_363) rfl (by decide)) rfl (Nat.le_of_ble_eq_true rfl) (Nat.le_of_ble_eq_true rfl) (by omega) (k_Printer_putName (by omega) hI ) ?_
      rintro _ H25 ⟨rfl, hI26, hq27⟩
      have hf28 : fq [(363, 3)] [364] false H H25 := fq_t (fq_rf _ _ _ _) hq27 rfl rfl rfl
      refine k_run 0 (pc' := 72) (l' := [(0, .inr (.inr 363)), (1, .inl a), (2, .inr (.inl b)), (4, .inl z5)]) (st' := []) rfl ?_
      refine k_run 1 (pc' := 176) (l' := [(0, .inr (.inr 363)), (1, .inl a), (2, .inr (.inl b)), (4, .inl z5)]) (st' := []) rfl ?_
      refine h_ret rfl rfl ?_
      exact ⟨rfl, hI26, hf28⟩
    · refine k_run 0 (pc' := 52) (l' := [(0, .inr (.inr 363)), (1, .inl a), (2, .inr (.inl b)), (4, .inl z5)]) (st' := [.inr (.inr 363)]) rfl ?_
      refine k_run 5 (pc' := 64) (l' := [(0, .inr (.inr 363)), (1, .inl a), (2, .inr (.inl b)), (4, .inl z5)]) (st' := [.inl z5, .inr (.inr 14), .inr (.inr 363)]) rfl ?_
      refine k_lld (c := 14) (j := (z5).toNat) (i := z5) (x := kx_14) rfl rfl (by decide) rfl (by decide) (by omega) (by omega) ?_
      have g29 : -9223372036854775808 ≤ (H.1 14 (z5).toNat) ∧ (H.1 14 (z5).toNat) ≤ 9223372036854775807 := kn (x := kx_14) hI rfl (z5).toNat
      refine k_run 0 (pc' := 65) (l' := [(0, .inr (.inr 363)), (1, .inl a), (2, .inr (.inl b)), (4, .inl z5)]) (st' := [.inr (.inl (H.1 14 (z5).toNat)), .inr (.inr 363)]) rfl ?_
      refine k_run 1 (pc' := 69) (l' := [(0, .inr (.inr 363)), (1, .inl a), (2, .inr (.inl b)), (4, .inl z5)]) (st' := [.inr (.inl (H.1 14 (z5).toNat)), .inr (.inr 363)]) rfl ?_
      refine h_cv (i := 67) (j := 91) (b := 363) (M' := mt_91) (xs := [.inr (.inl (H.1 14 (z5).toNat))]) (rest := []) rfl rfl rfl rfl (zs_K (x := kx_363) rfl (by decide)) rfl (Nat.le_of_ble_eq_true rfl) (Nat.le_of_ble_eq_true rfl) (by omega) (k_Printer_putName (by omega) hI ) ?_
      rintro _ H31 ⟨rfl, hI32, hq33⟩
      have hf34 : fq [(363, 3)] [364] false H H31 := fq_t (fq_rf _ _ _ _) hq33 rfl rfl rfl
      refine k_run 0 (pc' := 72) (l' := [(0, .inr (.inr 363)), (1, .inl a), (2, .inr (.inl b)), (4, .inl z5)]) (st' := []) rfl ?_
      refine k_run 1 (pc' := 176) (l' := [(0, .inr (.inr 363)), (1, .inl a), (2, .inr (.inl b)), (4, .inl z5)]) (st' := []) rfl ?_
      refine h_ret rfl rfl ?_
      exact ⟨rfl, hI32, hf34⟩
  · refine h_tin (k := 1) (t := 75) rfl (by omega) (show z10 = 1 + ((1 : Nat) : Int) by omega) (by decide) rfl rfl ?_
    refine k_run 6 (pc' := 88) (l' := [(0, .inr (.inr 363)), (1, .inl a), (2, .inr (.inl b)), (4, .inl z5)]) (st' := [.inl (H.1 18 4), .inl z5, .inr (.inr 363)]) rfl ?_
    have g35 : 0 ≤ (H.1 18 4) ∧ (H.1 18 4) ≤ 16 := kn (x := kx_18) hI rfl 4
    refine h_ige (off := 19) (t := 107) rfl rfl (by omega) (by omega) (fun c36 => ?_) (fun c36 => ?_)
    · refine k_run 0 (pc' := 107) (l' := [(0, .inr (.inr 363)), (1, .inl a), (2, .inr (.inl b)), (4, .inl z5)]) (st' := [.inr (.inr 363)]) rfl ?_
      refine k_run 1 (pc' := 108) (l' := [(0, .inr (.inr 363)), (1, .inl a), (2, .inr (.inl b)), (4, .inl z5)]) (st' := [.inr (.inl 0), .inr (.inr 363)]) rfl ?_
      refine h_cv (i := 67) (j := 91) (b := 363) (M' := mt_91) (xs := [.inr (.inl 0)]) (rest := []) rfl rfl rfl rfl (zs_K (x := kx_363) rfl (by decide)) rfl (Nat.le_of_ble_eq_true rfl) (Nat.le_of_ble_eq_true rfl) (by omega) (k_Printer_putName (by omega) hI ) ?_
      rintro _ H38 ⟨rfl, hI39, hq40⟩
      have hf41 : fq [(363, 3)] [364] false H H38 := fq_t (fq_rf _ _ _ _) hq40 rfl rfl rfl
      refine k_run 0 (pc' := 111) (l' := [(0, .inr (.inr 363)), (1, .inl a), (2, .inr (.inl b)), (4, .inl z5)]) (st' := []) rfl ?_
      refine k_run 1 (pc' := 176) (l' := [(0, .inr (.inr 363)), (1, .inl a), (2, .inr (.inl b)), (4, .inl z5)]) (st' := []) rfl ?_
      refine h_ret rfl rfl ?_
      exact ⟨rfl, hI39, hf41⟩
    · refine k_run 0 (pc' := 91) (l' := [(0, .inr (.inr 363)), (1, .inl a), (2, .inr (.inl b)), (4, .inl z5)]) (st' := [.inr (.inr 363)]) rfl ?_
      refine k_run 5 (pc' := 103) (l' := [(0, .inr (.inr 363)), (1, .inl a), (2, .inr (.inl b)), (4, .inl z5)]) (st' := [.inl z5, .inr (.inr 19), .inr (.inr 363)]) rfl ?_
      refine k_lld (c := 19) (j := (z5).toNat) (i := z5) (x := kx_19) rfl rfl (by decide) rfl (by decide) (by omega) (by omega) ?_
      have g42 : -9223372036854775808 ≤ (H.1 19 (z5).toNat) ∧ (H.1 19 (z5).toNat) ≤ 9223372036854775807 := kn (x := kx_19) hI rfl (z5).toNat
      refine k_run 0 (pc' := 104) (l' := [(0, .inr (.inr 363)), (1, .inl a), (2, .inr (.inl b)), (4, .inl z5)]) (st' := [.inr (.inl (H.1 19 (z5).toNat)), .inr (.inr 363)]) rfl ?_
      refine k_run 1 (pc' := 108) (l' := [(0, .inr (.inr 363)), (1, .inl a), (2, .inr (.inl b)), (4, .inl z5)]) (st' := [.inr (.inl (H.1 19 (z5).toNat)), .inr (.inr 363)]) rfl ?_
      refine h_cv (i := 67) (j := 91) (b := 363) (M' := mt_91) (xs := [.inr (.inl (H.1 19 (z5).toNat))]) (rest := []) rfl rfl rfl rfl (zs_K (x := kx_363) rfl (by decide)) rfl (Nat.le_of_ble_eq_true rfl) (Nat.le_of_ble_eq_true rfl) (by omega) (k_Printer_putName (by omega) hI ) ?_
      rintro _ H44 ⟨rfl, hI45, hq46⟩
      have hf47 : fq [(363, 3)] [364] false H H44 := fq_t (fq_rf _ _ _ _) hq46 rfl rfl rfl
      refine k_run 0 (pc' := 111) (l' := [(0, .inr (.inr 363)), (1, .inl a), (2, .inr (.inl b)), (4, .inl z5)]) (st' := []) rfl ?_
      refine k_run 1 (pc' := 176) (l' := [(0, .inr (.inr 363)), (1, .inl a), (2, .inr (.inl b)), (4, .inl z5)]) (st' := []) rfl ?_
      refine h_ret rfl rfl ?_
      exact ⟨rfl, hI45, hf47⟩
  · refine h_tin (k := 2) (t := 114) rfl (by omega) (show z10 = 1 + ((2 : Nat) : Int) by omega) (by decide) rfl rfl ?_
    refine k_run 4 (pc' := 119) (l' := [(0, .inr (.inr 363)), (1, .inl a), (2, .inr (.inl b)), (4, .inl z5)]) (st' := [.inr (.inl (z_lshr b z5)), .inr (.inr 363)]) rfl ?_
    refine k_nrmj (fun y48 hy48 => ?_)
    refine k_run 2 (pc' := 121) (l' := [(0, .inr (.inr 363)), (1, .inl a), (2, .inr (.inl b)), (4, .inl z5)]) (st' := [.inr (.inl (z_land y48 1)), .inr (.inr 363)]) rfl ?_
    refine k_nrmj (fun y49 hy49 => ?_)
    refine k_run 2 (pc' := 123) (l' := [(0, .inr (.inr 363)), (1, .inl a), (2, .inr (.inl b)), (4, .inl z5)]) (st' := [.inl (z_cmp y49 1), .inr (.inr 363)]) rfl ?_
    refine k_nrm (fun y50 hy50 => ?_)
    refine k_run 0 (pc' := 123) (l' := [(0, .inr (.inr 363)), (1, .inl a), (2, .inr (.inl b)), (4, .inl z5)]) (st' := [.inl y50, .inr (.inr 363)]) rfl ?_
    refine h_zne (off := 8) (t := 131) rfl rfl (by omega) (fun c51 => ?_) (fun c51 => ?_)
    · refine k_run 0 (pc' := 131) (l' := [(0, .inr (.inr 363)), (1, .inl a), (2, .inr (.inl b)), (4, .inl z5)]) (st' := [.inr (.inr 363)]) rfl ?_
      refine k_run 1 (pc' := 133) (l' := [(0, .inr (.inr 363)), (1, .inl a), (2, .inr (.inl b)), (4, .inl z5)]) (st' := [.inl 118, .inr (.inr 363)]) rfl ?_
      refine h_cv (i := 34) (j := 92) (b := 363) (M' := mt_92) (xs := [.inl 118]) (rest := []) rfl rfl rfl rfl (zs_K (x := kx_363) rfl (by decide)) rfl (Nat.le_of_ble_eq_true rfl) (Nat.le_of_ble_eq_true rfl) (by omega) (k_Printer_putByte (by omega) hI (by decide)) ?_
      rintro _ H53 ⟨rfl, hI54, hq55⟩
      have hf56 : fq [(363, 3)] [364] false H H53 := fq_t (fq_rf _ _ _ _) hq55 rfl rfl rfl
      refine k_run 0 (pc' := 136) (l' := [(0, .inr (.inr 363)), (1, .inl a), (2, .inr (.inl b)), (4, .inl z5)]) (st' := []) rfl ?_
      refine k_run 2 (pc' := 140) (l' := [(0, .inr (.inr 363)), (1, .inl a), (2, .inr (.inl b)), (4, .inl z5)]) (st' := [.inl 10, .inl z5]) rfl ?_
      refine h_ilt (off := 15) (t := 155) rfl rfl (by omega) (by decide) (fun c57 => ?_) (fun c57 => ?_)
      · refine k_run 0 (pc' := 155) (l' := [(0, .inr (.inr 363)), (1, .inl a), (2, .inr (.inl b)), (4, .inl z5)]) (st' := []) rfl ?_
        refine k_run 4 (pc' := 162) (l' := [(0, .inr (.inr 363)), (1, .inl a), (2, .inr (.inl b)), (4, .inl z5)]) (st' := [.inl 10, .inl z5, .inl 48, .inr (.inr 363)]) rfl ?_
        refine h_irem (x := z5) (y := 10) rfl (by omega) (by decide) (by omega : (10 : Int) ≠ 0) ?_
        refine k_nrm (fun y58 hy58 => ?_)
        refine k_run 0 (pc' := 163) (l' := [(0, .inr (.inr 363)), (1, .inl a), (2, .inr (.inl b)), (4, .inl z5)]) (st' := [.inl y58, .inl 48, .inr (.inr 363)]) rfl ?_
        refine k_run 1 (pc' := 164) (l' := [(0, .inr (.inr 363)), (1, .inl a), (2, .inr (.inl b)), (4, .inl z5)]) (st' := [.inl (48 + y58), .inr (.inr 363)]) rfl ?_
        refine k_nrm (fun y59 hy59 => ?_)
        refine k_run 0 (pc' := 164) (l' := [(0, .inr (.inr 363)), (1, .inl a), (2, .inr (.inl b)), (4, .inl z5)]) (st' := [.inl y59, .inr (.inr 363)]) rfl ?_
        refine h_cv (i := 34) (j := 92) (b := 363) (M' := mt_92) (xs := [.inl y59]) (rest := []) rfl rfl rfl rfl (zs_K (x := kx_363) rfl (by decide)) rfl (Nat.le_of_ble_eq_true rfl) (Nat.le_of_ble_eq_true rfl) (by omega) (k_Printer_putByte (by omega) hI54 (by omega)) ?_
        rintro _ H61 ⟨rfl, hI62, hq63⟩
        have hf64 : fq [(363, 3)] [364] false H H61 := fq_t hf56 hq63 rfl rfl rfl
        refine k_run 0 (pc' := 167) (l' := [(0, .inr (.inr 363)), (1, .inl a), (2, .inr (.inl b)), (4, .inl z5)]) (st' := []) rfl ?_
        refine k_run 1 (pc' := 176) (l' := [(0, .inr (.inr 363)), (1, .inl a), (2, .inr (.inl b)), (4, .inl z5)]) (st' := []) rfl ?_
        refine h_ret rfl rfl ?_
        exact ⟨rfl, hI62, hf64⟩
      · refine k_run 0 (pc' := 143) (l' := [(0, .inr (.inr 363)), (1, .inl a), (2, .inr (.inl b)), (4, .inl z5)]) (st' := []) rfl ?_
        refine k_run 4 (pc' := 150) (l' := [(0, .inr (.inr 363)), (1, .inl a), (2, .inr (.inl b)), (4, .inl z5)]) (st' := [.inl 10, .inl z5, .inl 48, .inr (.inr 363)]) rfl ?_
        refine h_idiv (x := z5) (y := 10) rfl (by omega) (by decide) (by omega : (10 : Int) ≠ 0) ?_
        refine k_nrm (fun y65 hy65 => ?_)
        refine k_run 0 (pc' := 151) (l' := [(0, .inr (.inr 363)), (1, .inl a), (2, .inr (.inl b)), (4, .inl z5)]) (st' := [.inl y65, .inl 48, .inr (.inr 363)]) rfl ?_
        refine k_run 1 (pc' := 152) (l' := [(0, .inr (.inr 363)), (1, .inl a), (2, .inr (.inl b)), (4, .inl z5)]) (st' := [.inl (48 + y65), .inr (.inr 363)]) rfl ?_
        refine k_nrm (fun y66 hy66 => ?_)
        refine k_run 0 (pc' := 152) (l' := [(0, .inr (.inr 363)), (1, .inl a), (2, .inr (.inl b)), (4, .inl z5)]) (st' := [.inl y66, .inr (.inr 363)]) rfl ?_
        refine h_cv (i := 34) (j := 92) (b := 363) (M' := mt_92) (xs := [.inl y66]) (rest := []) rfl rfl rfl rfl (zs_K (x := kx_363) rfl (by decide)) rfl (Nat.le_of_ble_eq_true rfl) (Nat.le_of_ble_eq_true rfl) (by omega) (k_Printer_putByte (by omega) hI54 (by omega)) ?_
        rintro _ H68 ⟨rfl, hI69, hq70⟩
        have hf71 : fq [(363, 3)] [364] false H H68 := fq_t hf56 hq70 rfl rfl rfl
        refine k_run 0 (pc' := 155) (l' := [(0, .inr (.inr 363)), (1, .inl a), (2, .inr (.inl b)), (4, .inl z5)]) (st' := []) rfl ?_
        refine k_run 4 (pc' := 162) (l' := [(0, .inr (.inr 363)), (1, .inl a), (2, .inr (.inl b)), (4, .inl z5)]) (st' := [.inl 10, .inl z5, .inl 48, .inr (.inr 363)]) rfl ?_
        refine h_irem (x := z5) (y := 10) rfl (by omega) (by decide) (by omega : (10 : Int) ≠ 0) ?_
        refine k_nrm (fun y72 hy72 => ?_)
        refine k_run 0 (pc' := 163) (l' := [(0, .inr (.inr 363)), (1, .inl a), (2, .inr (.inl b)), (4, .inl z5)]) (st' := [.inl y72, .inl 48, .inr (.inr 363)]) rfl ?_
        refine k_run 1 (pc' := 164) (l' := [(0, .inr (.inr 363)), (1, .inl a), (2, .inr (.inl b)), (4, .inl z5)]) (st' := [.inl (48 + y72), .inr (.inr 363)]) rfl ?_
        refine k_nrm (fun y73 hy73 => ?_)
        refine k_run 0 (pc' := 164) (l' := [(0, .inr (.inr 363)), (1, .inl a), (2, .inr (.inl b)), (4, .inl z5)]) (st' := [.inl y73, .inr (.inr 363)]) rfl ?_
        refine h_cv (i := 34) (j := 92) (b := 363) (M' := mt_92) (xs := [.inl y73]) (rest := []) rfl rfl rfl rfl (zs_K (x := kx_363) rfl (by decide)) rfl (Nat.le_of_ble_eq_true rfl) (Nat.le_of_ble_eq_true rfl) (by omega) (k_Printer_putByte (by omega) hI69 (by omega)) ?_
        rintro _ H75 ⟨rfl, hI76, hq77⟩
        have hf78 : fq [(363, 3)] [364] false H H75 := fq_t hf71 hq77 rfl rfl rfl
        refine k_run 0 (pc' := 167) (l' := [(0, .inr (.inr 363)), (1, .inl a), (2, .inr (.inl b)), (4, .inl z5)]) (st' := []) rfl ?_
        refine k_run 1 (pc' := 176) (l' := [(0, .inr (.inr 363)), (1, .inl a), (2, .inr (.inl b)), (4, .inl z5)]) (st' := []) rfl ?_
        refine h_ret rfl rfl ?_
        exact ⟨rfl, hI76, hf78⟩
    · refine k_run 0 (pc' := 126) (l' := [(0, .inr (.inr 363)), (1, .inl a), (2, .inr (.inl b)), (4, .inl z5)]) (st' := [.inr (.inr 363)]) rfl ?_
      refine k_run 2 (pc' := 133) (l' := [(0, .inr (.inr 363)), (1, .inl a), (2, .inr (.inl b)), (4, .inl z5)]) (st' := [.inl 102, .inr (.inr 363)]) rfl ?_
      refine h_cv (i := 34) (j := 92) (b := 363) (M' := mt_92) (xs := [.inl 102]) (rest := []) rfl rfl rfl rfl (zs_K (x := kx_363) rfl (by decide)) rfl (Nat.le_of_ble_eq_true rfl) (Nat.le_of_ble_eq_true rfl) (by omega) (k_Printer_putByte (by omega) hI (by decide)) ?_
      rintro _ H80 ⟨rfl, hI81, hq82⟩
      have hf83 : fq [(363, 3)] [364] false H H80 := fq_t (fq_rf _ _ _ _) hq82 rfl rfl rfl
      refine k_run 0 (pc' := 136) (l' := [(0, .inr (.inr 363)), (1, .inl a), (2, .inr (.inl b)), (4, .inl z5)]) (st' := []) rfl ?_
      refine k_run 2 (pc' := 140) (l' := [(0, .inr (.inr 363)), (1, .inl a), (2, .inr (.inl b)), (4, .inl z5)]) (st' := [.inl 10, .inl z5]) rfl ?_
      refine h_ilt (off := 15) (t := 155) rfl rfl (by omega) (by decide) (fun c84 => ?_) (fun c84 => ?_)
      · refine k_run 0 (pc' := 155) (l' := [(0, .inr (.inr 363)), (1, .inl a), (2, .inr (.inl b)), (4, .inl z5)]) (st' := []) rfl ?_
        refine k_run 4 (pc' := 162) (l' := [(0, .inr (.inr 363)), (1, .inl a), (2, .inr (.inl b)), (4, .inl z5)]) (st' := [.inl 10, .inl z5, .inl 48, .inr (.inr 363)]) rfl ?_
        refine h_irem (x := z5) (y := 10) rfl (by omega) (by decide) (by omega : (10 : Int) ≠ 0) ?_
        refine k_nrm (fun y85 hy85 => ?_)
        refine k_run 0 (pc' := 163) (l' := [(0, .inr (.inr 363)), (1, .inl a), (2, .inr (.inl b)), (4, .inl z5)]) (st' := [.inl y85, .inl 48, .inr (.inr 363)]) rfl ?_
        refine k_run 1 (pc' := 164) (l' := [(0, .inr (.inr 363)), (1, .inl a), (2, .inr (.inl b)), (4, .inl z5)]) (st' := [.inl (48 + y85), .inr (.inr 363)]) rfl ?_
        refine k_nrm (fun y86 hy86 => ?_)
        refine k_run 0 (pc' := 164) (l' := [(0, .inr (.inr 363)), (1, .inl a), (2, .inr (.inl b)), (4, .inl z5)]) (st' := [.inl y86, .inr (.inr 363)]) rfl ?_
        refine h_cv (i := 34) (j := 92) (b := 363) (M' := mt_92) (xs := [.inl y86]) (rest := []) rfl rfl rfl rfl (zs_K (x := kx_363) rfl (by decide)) rfl (Nat.le_of_ble_eq_true rfl) (Nat.le_of_ble_eq_true rfl) (by omega) (k_Printer_putByte (by omega) hI81 (by omega)) ?_
        rintro _ H88 ⟨rfl, hI89, hq90⟩
        have hf91 : fq [(363, 3)] [364] false H H88 := fq_t hf83 hq90 rfl rfl rfl
        refine k_run 0 (pc' := 167) (l' := [(0, .inr (.inr 363)), (1, .inl a), (2, .inr (.inl b)), (4, .inl z5)]) (st' := []) rfl ?_
        refine k_run 1 (pc' := 176) (l' := [(0, .inr (.inr 363)), (1, .inl a), (2, .inr (.inl b)), (4, .inl z5)]) (st' := []) rfl ?_
        refine h_ret rfl rfl ?_
        exact ⟨rfl, hI89, hf91⟩
      · refine k_run 0 (pc' := 143) (l' := [(0, .inr (.inr 363)), (1, .inl a), (2, .inr (.inl b)), (4, .inl z5)]) (st' := []) rfl ?_
        refine k_run 4 (pc' := 150) (l' := [(0, .inr (.inr 363)), (1, .inl a), (2, .inr (.inl b)), (4, .inl z5)]) (st' := [.inl 10, .inl z5, .inl 48, .inr (.inr 363)]) rfl ?_
        refine h_idiv (x := z5) (y := 10) rfl (by omega) (by decide) (by omega : (10 : Int) ≠ 0) ?_
        refine k_nrm (fun y92 hy92 => ?_)
        refine k_run 0 (pc' := 151) (l' := [(0, .inr (.inr 363)), (1, .inl a), (2, .inr (.inl b)), (4, .inl z5)]) (st' := [.inl y92, .inl 48, .inr (.inr 363)]) rfl ?_
        refine k_run 1 (pc' := 152) (l' := [(0, .inr (.inr 363)), (1, .inl a), (2, .inr (.inl b)), (4, .inl z5)]) (st' := [.inl (48 + y92), .inr (.inr 363)]) rfl ?_
        refine k_nrm (fun y93 hy93 => ?_)
        refine k_run 0 (pc' := 152) (l' := [(0, .inr (.inr 363)), (1, .inl a), (2, .inr (.inl b)), (4, .inl z5)]) (st' := [.inl y93, .inr (.inr 363)]) rfl ?_
        refine h_cv (i := 34) (j := 92) (b := 363) (M' := mt_92) (xs := [.inl y93]) (rest := []) rfl rfl rfl rfl (zs_K (x := kx_363) rfl (by decide)) rfl (Nat.le_of_ble_eq_true rfl) (Nat.le_of_ble_eq_true rfl) (by omega) (k_Printer_putByte (by omega) hI81 (by omega)) ?_
        rintro _ H95 ⟨rfl, hI96, hq97⟩
        have hf98 : fq [(363, 3)] [364] false H H95 := fq_t hf83 hq97 rfl rfl rfl
        refine k_run 0 (pc' := 155) (l' := [(0, .inr (.inr 363)), (1, .inl a), (2, .inr (.inl b)), (4, .inl z5)]) (st' := []) rfl ?_
        refine k_run 4 (pc' := 162) (l' := [(0, .inr (.inr 363)), (1, .inl a), (2, .inr (.inl b)), (4, .inl z5)]) (st' := [.inl 10, .inl z5, .inl 48, .inr (.inr 363)]) rfl ?_
        refine h_irem (x := z5) (y := 10) rfl (by omega) (by decide) (by omega : (10 : Int) ≠ 0) ?_
        refine k_nrm (fun y99 hy99 => ?_)
        refine k_run 0 (pc' := 163) (l' := [(0, .inr (.inr 363)), (1, .inl a), (2, .inr (.inl b)), (4, .inl z5)]) (st' := [.inl y99, .inl 48, .inr (.inr 363)]) rfl ?_
        refine k_run 1 (pc' := 164) (l' := [(0, .inr (.inr 363)), (1, .inl a), (2, .inr (.inl b)), (4, .inl z5)]) (st' := [.inl (48 + y99), .inr (.inr 363)]) rfl ?_
        refine k_nrm (fun y100 hy100 => ?_)
        refine k_run 0 (pc' := 164) (l' := [(0, .inr (.inr 363)), (1, .inl a), (2, .inr (.inl b)), (4, .inl z5)]) (st' := [.inl y100, .inr (.inr 363)]) rfl ?_
        refine h_cv (i := 34) (j := 92) (b := 363) (M' := mt_92) (xs := [.inl y100]) (rest := []) rfl rfl rfl rfl (zs_K (x := kx_363) rfl (by decide)) rfl (Nat.le_of_ble_eq_true rfl) (Nat.le_of_ble_eq_true rfl) (by omega) (k_Printer_putByte (by omega) hI96 (by omega)) ?_
        rintro _ H102 ⟨rfl, hI103, hq104⟩
        have hf105 : fq [(363, 3)] [364] false H H102 := fq_t hf98 hq104 rfl rfl rfl
        refine k_run 0 (pc' := 167) (l' := [(0, .inr (.inr 363)), (1, .inl a), (2, .inr (.inl b)), (4, .inl z5)]) (st' := []) rfl ?_
        refine k_run 1 (pc' := 176) (l' := [(0, .inr (.inr 363)), (1, .inl a), (2, .inr (.inl b)), (4, .inl z5)]) (st' := []) rfl ?_
        refine h_ret rfl rfl ?_
        exact ⟨rfl, hI103, hf105⟩

/-! Printer.closeAll -/
set_option maxRecDepth 100000 in
theorem k_Printer_closeAll_cut {d : Nat} (hd : 2 ≤ d) {H : hp} (hI : Inv H) {a : Int} (ha : -2147483648 ≤ a ∧ a ≤ 2147483647) (hp0 : 0 ≤ a ∧ a ≤ 120) : ∀ w : Nat, (∀ (H1 : hp), Inv H1 → fq [(363, 3)] [364, 365] false H H1 → ∀ (x2 : Int) , (-2147483648 ≤ x2 ∧ x2 ≤ 2147483647) → (0 ≤ x2 ∧ x2 ≤ 120) → ((x2.toNat) < w) → hG (zs zK) d mt_89 2 [(0, .inr (.inr 363)), (1, .inl a), (2, .inl x2)] [] H1 (fun r9 H9 => ∃ z : Int, r9 = some (.inl z) ∧ ((-2147483648 ≤ z ∧ z ≤ 2147483647) ∧ (0 ≤ z ∧ z ≤ 120)) ∧ Inv H9 ∧ fq [(363, 3)] [364, 365] false H H9)) := by
  intro w
  induction w with
  | zero => exact fun _ _ _ _ _ _ h => absurd h (Nat.not_lt_zero _)
  | succ w ih =>
    intro H1 hI1 hf1 x2 hx2 hi0 hw
    refine k_run 1 (pc' := 3) (l' := [(0, .inr (.inr 363)), (1, .inl a), (2, .inl x2)]) (st' := [.inl x2]) rfl ?_
    refine h_zle (off := 44) (t := 47) rfl rfl (by omega) (fun c1 => ?_) (fun c1 => ?_)
    · refine k_run 0 (pc' := 47) (l' := [(0, .inr (.inr 363)), (1, .inl a), (2, .inl x2)]) (st' := []) rfl ?_
      refine k_run 1 (pc' := 48) (l' := [(0, .inr (.inr 363)), (1, .inl a), (2, .inl x2)]) (st' := [.inl x2]) rfl ?_
      refine h_reti (x := x2) rfl rfl ?_
      exact ⟨_, rfl, (by omega), hI1, hf1⟩
    · refine k_run 0 (pc' := 6) (l' := [(0, .inr (.inr 363)), (1, .inl a), (2, .inl x2)]) (st' := []) rfl ?_
      refine k_run 6 (pc' := 14) (l' := [(0, .inr (.inr 363)), (1, .inl a), (2, .inl x2)]) (st' := [.inl (x2 - 1), .inr (.inr 365), .inl (x2 - 1), .inr (.inr 365)]) rfl ?_
      refine k_ild (c := 365) (j := ((x2 - 1)).toNat) (i := (x2 - 1)) (x := kx_365) rfl rfl (by decide) rfl (by decide) (by omega) (by omega) ?_
      have g2 : -2147483648 ≤ (H1.1 365 ((x2 - 1)).toNat) ∧ (H1.1 365 ((x2 - 1)).toNat) ≤ 2147483647 := kn (x := kx_365) hI1 rfl ((x2 - 1)).toNat
      refine k_run 0 (pc' := 15) (l' := [(0, .inr (.inr 363)), (1, .inl a), (2, .inl x2)]) (st' := [.inl (H1.1 365 ((x2 - 1)).toNat), .inl (x2 - 1), .inr (.inr 365)]) rfl ?_
      refine k_run 2 (pc' := 17) (l' := [(0, .inr (.inr 363)), (1, .inl a), (2, .inl x2)]) (st' := [.inl ((H1.1 365 ((x2 - 1)).toNat) - 1), .inl (x2 - 1), .inr (.inr 365)]) rfl ?_
      refine k_nrm (fun y3 hy3 => ?_)
      refine k_run 0 (pc' := 17) (l' := [(0, .inr (.inr 363)), (1, .inl a), (2, .inl x2)]) (st' := [.inl y3, .inl (x2 - 1), .inr (.inr 365)]) rfl ?_
      refine k_istw (c := 365) (j := ((x2 - 1)).toNat) (i := (x2 - 1)) (x := kx_365) rfl rfl (by decide) (by decide) rfl (by decide) (by omega) (by omega) hI1 rfl (fun H4 hI5 hw6 => ?_)
      have hf8 : fq [(363, 3)] [364, 365] false H H4 := fq_w hf1 hw6 (fpa (by decide) rfl)
      refine k_run 0 (pc' := 18) (l' := [(0, .inr (.inr 363)), (1, .inl a), (2, .inl x2)]) (st' := []) rfl ?_
      refine k_run 5 (pc' := 25) (l' := [(0, .inr (.inr 363)), (1, .inl a), (2, .inl x2)]) (st' := [.inl (x2 - 1), .inr (.inr 365)]) rfl ?_
      refine k_ild (c := 365) (j := ((x2 - 1)).toNat) (i := (x2 - 1)) (x := kx_365) rfl rfl (by decide) rfl (by decide) (by omega) (by omega) ?_
      have g9 : -2147483648 ≤ (H4.1 365 ((x2 - 1)).toNat) ∧ (H4.1 365 ((x2 - 1)).toNat) ≤ 2147483647 := kn (x := kx_365) hI5 rfl ((x2 - 1)).toNat
      refine k_run 0 (pc' := 26) (l' := [(0, .inr (.inr 363)), (1, .inl a), (2, .inl x2)]) (st' := [.inl (H4.1 365 ((x2 - 1)).toNat)]) rfl ?_
      refine h_zle (off := 5) (t := 31) rfl rfl (by omega) (fun c10 => ?_) (fun c10 => ?_)
      · refine k_run 0 (pc' := 31) (l' := [(0, .inr (.inr 363)), (1, .inl a), (2, .inl x2)]) (st' := []) rfl ?_
        refine k_run 2 (pc' := 35) (l' := [(0, .inr (.inr 363)), (1, .inl a), (2, .inl (x2 + (-1)))]) (st' := [.inl (x2 + (-1))]) rfl ?_
        refine h_zle (off := -33) (t := 2) rfl rfl (by omega) (fun c11 => ?_) (fun c11 => ?_)
        · refine k_run 0 (pc' := 2) (l' := [(0, .inr (.inr 363)), (1, .inl a), (2, .inl (x2 + (-1)))]) (st' := []) rfl ?_
          exact ih H4 hI5 hf8 (x2 + (-1)) (by omega) (by omega) (by omega)
        · refine k_run 0 (pc' := 38) (l' := [(0, .inr (.inr 363)), (1, .inl a), (2, .inl (x2 + (-1)))]) (st' := []) rfl ?_
          refine k_run 2 (pc' := 41) (l' := [(0, .inr (.inr 363)), (1, .inl a), (2, .inl (x2 + (-1)))]) (st' := [.inl 41, .inr (.inr 363)]) rfl ?_
          refine h_cv (i := 34) (j := 92) (b := 363) (M' := mt_92) (xs := [.inl 41]) (rest := []) rfl rfl rfl rfl (zs_K (x := kx_363) rfl (by decide)) rfl (Nat.le_of_ble_eq_true rfl) (Nat.le_of_ble_eq_true rfl) (by omega) (k_Printer_putByte (by omega) hI5 (by decide)) ?_
          rintro _ H13 ⟨rfl, hI14, hq15⟩
          have hf16 : fq [(363, 3)] [364, 365] false H H13 := fq_t hf8 hq15 rfl rfl rfl
          refine k_run 0 (pc' := 44) (l' := [(0, .inr (.inr 363)), (1, .inl a), (2, .inl (x2 + (-1)))]) (st' := []) rfl ?_
          refine k_run 1 (pc' := 2) (l' := [(0, .inr (.inr 363)), (1, .inl a), (2, .inl (x2 + (-1)))]) (st' := []) rfl ?_
          exact ih H13 hI14 hf16 (x2 + (-1)) (by omega) (by omega) (by omega)
      · refine k_run 0 (pc' := 29) (l' := [(0, .inr (.inr 363)), (1, .inl a), (2, .inl x2)]) (st' := []) rfl ?_
        refine k_run 1 (pc' := 30) (l' := [(0, .inr (.inr 363)), (1, .inl a), (2, .inl x2)]) (st' := [.inl x2]) rfl ?_
        refine h_reti (x := x2) rfl rfl ?_
        exact ⟨_, rfl, (by omega), hI5, hf8⟩
set_option maxRecDepth 100000 in
theorem k_Printer_closeAll {d : Nat} (hd : 2 ≤ d) {H : hp} (hI : Inv H) {a : Int} (ha : -2147483648 ≤ a ∧ a ≤ 2147483647) (hp0 : 0 ≤ a ∧ a ≤ 120) : hG (zs zK) d mt_89 0 (zargs 0 [.inr (.inr 363), .inl a]) [] H (fun r9 H9 => ∃ z : Int, r9 = some (.inl z) ∧ ((-2147483648 ≤ z ∧ z ≤ 2147483647) ∧ (0 ≤ z ∧ z ≤ 120)) ∧ Inv H9 ∧ fq [(363, 3)] [364, 365] false H H9) := by
  refine k_run 0 (pc' := 0) (l' := [(0, .inr (.inr 363)), (1, .inl a)]) (st' := []) rfl ?_
  refine k_run 2 (pc' := 2) (l' := [(0, .inr (.inr 363)), (1, .inl a), (2, .inl a)]) (st' := []) rfl ?_
  exact (k_Printer_closeAll_cut hd hI ha hp0 _) H hI (fq_rf _ _ _ _) a (by omega) (by omega) (Nat.lt_succ_self _)

/-! Printer.print -/
set_option maxRecDepth 100000 in
theorem k_Printer_print_cut {d : Nat} (hd : 4 ≤ d) {H : hp} (hI : Inv H) {t n : Nat} {b : Int} (ht : isT t n) : ∀ w : Nat, (∀ (H1 : hp), Inv H1 → fq [(363, 3)] [364, 365] false H H1 → ∀ (x4 : Int) (x5 : Int) , (-2147483648 ≤ x4 ∧ x4 ≤ 2147483647) → (-2147483648 ≤ x5 ∧ x5 ≤ 2147483647) → (0 ≤ x4 ∧ x4 ≤ 120) → (0 ≤ x5) → (((1000 - x5).toNat) < w) → hG (zs zK) d mt_88 11 [(0, .inr (.inr 363)), (1, .inr (.inr t)), (2, .inr (.inl b)), (4, .inl x4), (5, .inl x5)] [] H1 (fun r9 H9 => ∃ z : Int, r9 = some (.inl z) ∧ ((-2147483648 ≤ z ∧ z ≤ 2147483647)) ∧ Inv H9 ∧ fq [(363, 3)] [364, 365] false H H9)) := by
  intro w
  induction w with
  | zero => exact fun _ _ _ _ _ _ _ _ _ h => absurd h (Nat.not_lt_zero _)
  | succ w ih =>
    intro H1 hI1 hf1 x4 x5 hx4 hx5 hi0 hi1 hw
    have htb := ht.2.2.2.2
    refine k_run 2 (pc' := 14) (l' := [(0, .inr (.inr 363)), (1, .inr (.inr t)), (2, .inr (.inl b)), (4, .inl x4), (5, .inl x5)]) (st' := [.inr (.inr t), .inl x5]) rfl ?_
    refine k_get (a := t) (x := (kTo t n)) (v := .inl (H1.1 t 1)) rfl rfl ht.1 (iT0 ht) rfl rfl rfl ?_
    have g6 : 0 ≤ (H1.1 t 1) ∧ (H1.1 t 1) ≤ n := kn hI1 ht.1 1
    refine k_run 0 (pc' := 17) (l' := [(0, .inr (.inr 363)), (1, .inr (.inr t)), (2, .inr (.inl b)), (4, .inl x4), (5, .inl x5)]) (st' := [.inl (H1.1 t 1), .inl x5]) rfl ?_
    refine h_ige (off := 97) (t := 114) rfl rfl (by omega) (by omega) (fun c7 => ?_) (fun c7 => ?_)
    · refine k_run 0 (pc' := 114) (l' := [(0, .inr (.inr 363)), (1, .inr (.inr t)), (2, .inr (.inl b)), (4, .inl x4), (5, .inl x5)]) (st' := []) rfl ?_
      refine k_run 2 (pc' := 118) (l' := [(0, .inr (.inr 363)), (1, .inr (.inr t)), (2, .inr (.inl b)), (4, .inl x4), (5, .inl x5)]) (st' := [.inl (H1.1 363 3)]) rfl ?_
      have g8 : 0 ≤ (H1.1 363 3) ∧ (H1.1 363 3) ≤ 1080 := kn (x := kx_363) hI1 rfl 3
      refine h_reti (x := (H1.1 363 3)) rfl rfl ?_
      exact ⟨_, rfl, (by omega), hI1, hf1⟩
    · refine k_run 0 (pc' := 20) (l' := [(0, .inr (.inr 363)), (1, .inr (.inr t)), (2, .inr (.inl b)), (4, .inl x4), (5, .inl x5)]) (st' := []) rfl ?_
      refine k_run 1 (pc' := 21) (l' := [(0, .inr (.inr 363)), (1, .inr (.inr t)), (2, .inr (.inl b)), (4, .inl x4), (5, .inl x5)]) (st' := [.inr (.inr t)]) rfl ?_
      refine k_get (a := t) (x := (kTo t n)) (v := .inr (.inr (t + 1))) rfl rfl ht.1 (iT0 ht) rfl rfl rfl ?_
      refine k_run 0 (pc' := 24) (l' := [(0, .inr (.inr 363)), (1, .inr (.inr t)), (2, .inr (.inl b)), (4, .inl x4), (5, .inl x5)]) (st' := [.inr (.inr (t + 1))]) rfl ?_
      refine k_run 1 (pc' := 26) (l' := [(0, .inr (.inr 363)), (1, .inr (.inr t)), (2, .inr (.inl b)), (4, .inl x4), (5, .inl x5)]) (st' := [.inl x5, .inr (.inr (t + 1))]) rfl ?_
      refine k_ild (c := (t + 1)) (j := (x5).toNat) (i := x5) (x := (kTc n)) rfl ht.2.1 (iT1 ht) rfl (by omega) (by omega) (by omega) ?_
      have g9 : -2147483648 ≤ (H1.1 (t + 1) (x5).toNat) ∧ (H1.1 (t + 1) (x5).toNat) ≤ 2147483647 := kn hI1 ht.2.1 (x5).toNat
      refine k_run 0 (pc' := 27) (l' := [(0, .inr (.inr 363)), (1, .inr (.inr t)), (2, .inr (.inl b)), (4, .inl x4), (5, .inl x5)]) (st' := [.inl (H1.1 (t + 1) (x5).toNat)]) rfl ?_
      refine k_run 4 (pc' := 34) (l' := [(0, .inr (.inr 363)), (1, .inr (.inr t)), (2, .inr (.inl b)), (4, .inl x4), (5, .inl x5), (6, .inl (H1.1 (t + 1) (x5).toNat))]) (st' := [.inl (z_and (H1.1 (t + 1) (x5).toNat) 7)]) rfl ?_
      have g10 : 0 ≤ (z_and (H1.1 (t + 1) (x5).toNat) 7) ∧ (z_and (H1.1 (t + 1) (x5).toNat) 7) ≤ 7 := z_and_le _ 7 (by decide)
      refine k_run 2 (pc' := 38) (l' := [(0, .inr (.inr 363)), (1, .inr (.inr t)), (2, .inr (.inl b)), (4, .inl x4), (5, .inl x5), (6, .inl (H1.1 (t + 1) (x5).toNat)), (7, .inl (z_and (H1.1 (t + 1) (x5).toNat) 7))]) (st' := [.inl x5]) rfl ?_
      refine h_zle (off := 9) (t := 47) rfl rfl (by omega) (fun c11 => ?_) (fun c11 => ?_)
      · refine k_run 0 (pc' := 47) (l' := [(0, .inr (.inr 363)), (1, .inr (.inr t)), (2, .inr (.inl b)), (4, .inl x4), (5, .inl x5), (6, .inl (H1.1 (t + 1) (x5).toNat)), (7, .inl (z_and (H1.1 (t + 1) (x5).toNat) 7))]) (st' := []) rfl ?_
        refine k_run 1 (pc' := 49) (l' := [(0, .inr (.inr 363)), (1, .inr (.inr t)), (2, .inr (.inl b)), (4, .inl x4), (5, .inl x5), (6, .inl (H1.1 (t + 1) (x5).toNat)), (7, .inl (z_and (H1.1 (t + 1) (x5).toNat) 7))]) (st' := [.inl x5]) rfl ?_
        refine h_zle (off := 14) (t := 63) rfl rfl (by omega) (fun c12 => ?_) (fun c12 => ?_)
        · refine k_run 0 (pc' := 63) (l' := [(0, .inr (.inr 363)), (1, .inr (.inr t)), (2, .inr (.inl b)), (4, .inl x4), (5, .inl x5), (6, .inl (H1.1 (t + 1) (x5).toNat)), (7, .inl (z_and (H1.1 (t + 1) (x5).toNat) 7))]) (st' := []) rfl ?_
          refine k_run 3 (pc' := 67) (l' := [(0, .inr (.inr 363)), (1, .inr (.inr t)), (2, .inr (.inl b)), (4, .inl x4), (5, .inl x5), (6, .inl (H1.1 (t + 1) (x5).toNat)), (7, .inl (z_and (H1.1 (t + 1) (x5).toNat) 7))]) (st' := [.inr (.inl b), .inl (H1.1 (t + 1) (x5).toNat), .inr (.inr 363)]) rfl ?_
          refine h_cv (i := 38) (j := 90) (b := 363) (M' := mt_90) (xs := [.inr (.inl b), .inl (H1.1 (t + 1) (x5).toNat)]) (rest := []) rfl rfl rfl rfl (zs_K (x := kx_363) rfl (by decide)) rfl (Nat.le_of_ble_eq_true rfl) (Nat.le_of_ble_eq_true rfl) (by omega) (k_Printer_putNameOf (by omega) hI1 (by omega)) ?_
          rintro _ H14 ⟨rfl, hI15, hq16⟩
          have hf17 : fq [(363, 3)] [364, 365] false H H14 := fq_t hf1 hq16 rfl rfl rfl
          refine k_run 0 (pc' := 70) (l' := [(0, .inr (.inr 363)), (1, .inr (.inr t)), (2, .inr (.inl b)), (4, .inl x4), (5, .inl x5), (6, .inl (H1.1 (t + 1) (x5).toNat)), (7, .inl (z_and (H1.1 (t + 1) (x5).toNat) 7))]) (st' := []) rfl ?_
          refine k_run 1 (pc' := 72) (l' := [(0, .inr (.inr 363)), (1, .inr (.inr t)), (2, .inr (.inl b)), (4, .inl x4), (5, .inl x5), (6, .inl (H1.1 (t + 1) (x5).toNat)), (7, .inl (z_and (H1.1 (t + 1) (x5).toNat) 7))]) (st' := [.inl (z_and (H1.1 (t + 1) (x5).toNat) 7)]) rfl ?_
          refine h_zle (off := 28) (t := 100) rfl rfl (z_int _) (fun c18 => ?_) (fun c18 => ?_)
          · refine k_run 0 (pc' := 100) (l' := [(0, .inr (.inr 363)), (1, .inr (.inr t)), (2, .inr (.inl b)), (4, .inl x4), (5, .inl x5), (6, .inl (H1.1 (t + 1) (x5).toNat)), (7, .inl (z_and (H1.1 (t + 1) (x5).toNat) 7))]) (st' := []) rfl ?_
            refine k_run 2 (pc' := 103) (l' := [(0, .inr (.inr 363)), (1, .inr (.inr t)), (2, .inr (.inl b)), (4, .inl x4), (5, .inl x5), (6, .inl (H1.1 (t + 1) (x5).toNat)), (7, .inl (z_and (H1.1 (t + 1) (x5).toNat) 7))]) (st' := [.inl x4, .inr (.inr 363)]) rfl ?_
            refine h_cv (i := 42) (j := 89) (b := 363) (M' := mt_89) (xs := [.inl x4]) (rest := []) rfl rfl rfl rfl (zs_K (x := kx_363) rfl (by decide)) rfl (Nat.le_of_ble_eq_true rfl) (Nat.le_of_ble_eq_true rfl) (by omega) (k_Printer_closeAll (by omega) hI15 (by omega) (by omega)) ?_
            rintro _ H20 ⟨z23, rfl, g19, hI21, hq22⟩
            have hf24 : fq [(363, 3)] [364, 365] false H H20 := fq_t hf17 hq22 rfl rfl rfl
            refine k_run 0 (pc' := 106) (l' := [(0, .inr (.inr 363)), (1, .inr (.inr t)), (2, .inr (.inl b)), (4, .inl x4), (5, .inl x5), (6, .inl (H1.1 (t + 1) (x5).toNat)), (7, .inl (z_and (H1.1 (t + 1) (x5).toNat) 7))]) (st' := [.inl z23]) rfl ?_
            refine k_run 3 (pc' := 11) (l' := [(0, .inr (.inr 363)), (1, .inr (.inr t)), (2, .inr (.inl b)), (4, .inl z23), (5, .inl (x5 + 1)), (6, .inl (H1.1 (t + 1) (x5).toNat)), (7, .inl (z_and (H1.1 (t + 1) (x5).toNat) 7))]) (st' := []) rfl ?_
            refine h_loc [0, 1, 2, 4, 5] rfl ?_
            exact ih H20 hI21 hf24 z23 (x5 + 1) (by omega) (by omega) (by omega) (by omega) (by omega)
          · refine k_run 0 (pc' := 75) (l' := [(0, .inr (.inr 363)), (1, .inr (.inr t)), (2, .inr (.inl b)), (4, .inl x4), (5, .inl x5), (6, .inl (H1.1 (t + 1) (x5).toNat)), (7, .inl (z_and (H1.1 (t + 1) (x5).toNat) 7))]) (st' := []) rfl ?_
            refine k_run 3 (pc' := 81) (l' := [(0, .inr (.inr 363)), (1, .inr (.inr t)), (2, .inr (.inl b)), (4, .inl x4), (5, .inl x5), (6, .inl (H1.1 (t + 1) (x5).toNat)), (7, .inl (z_and (H1.1 (t + 1) (x5).toNat) 7))]) (st' := [.inr (.inr 365), .inl x4]) rfl ?_
            refine k_alen (c := 365) (x := kx_365) rfl rfl (by decide) rfl ?_
            refine k_run 0 (pc' := 82) (l' := [(0, .inr (.inr 363)), (1, .inr (.inr t)), (2, .inr (.inl b)), (4, .inl x4), (5, .inl x5), (6, .inl (H1.1 (t + 1) (x5).toNat)), (7, .inl (z_and (H1.1 (t + 1) (x5).toNat) 7))]) (st' := [.inl 120, .inl x4]) rfl ?_
            refine h_ige (off := 18) (t := 100) rfl rfl (by omega) (by decide) (fun c25 => ?_) (fun c25 => ?_)
            · refine k_run 0 (pc' := 100) (l' := [(0, .inr (.inr 363)), (1, .inr (.inr t)), (2, .inr (.inl b)), (4, .inl x4), (5, .inl x5), (6, .inl (H1.1 (t + 1) (x5).toNat)), (7, .inl (z_and (H1.1 (t + 1) (x5).toNat) 7))]) (st' := []) rfl ?_
              refine k_run 2 (pc' := 103) (l' := [(0, .inr (.inr 363)), (1, .inr (.inr t)), (2, .inr (.inl b)), (4, .inl x4), (5, .inl x5), (6, .inl (H1.1 (t + 1) (x5).toNat)), (7, .inl (z_and (H1.1 (t + 1) (x5).toNat) 7))]) (st' := [.inl x4, .inr (.inr 363)]) rfl ?_
              refine h_cv (i := 42) (j := 89) (b := 363) (M' := mt_89) (xs := [.inl x4]) (rest := []) rfl rfl rfl rfl (zs_K (x := kx_363) rfl (by decide)) rfl (Nat.le_of_ble_eq_true rfl) (Nat.le_of_ble_eq_true rfl) (by omega) (k_Printer_closeAll (by omega) hI15 (by omega) (by omega)) ?_
              rintro _ H27 ⟨z30, rfl, g26, hI28, hq29⟩
              have hf31 : fq [(363, 3)] [364, 365] false H H27 := fq_t hf17 hq29 rfl rfl rfl
              refine k_run 0 (pc' := 106) (l' := [(0, .inr (.inr 363)), (1, .inr (.inr t)), (2, .inr (.inl b)), (4, .inl x4), (5, .inl x5), (6, .inl (H1.1 (t + 1) (x5).toNat)), (7, .inl (z_and (H1.1 (t + 1) (x5).toNat) 7))]) (st' := [.inl z30]) rfl ?_
              refine k_run 3 (pc' := 11) (l' := [(0, .inr (.inr 363)), (1, .inr (.inr t)), (2, .inr (.inl b)), (4, .inl z30), (5, .inl (x5 + 1)), (6, .inl (H1.1 (t + 1) (x5).toNat)), (7, .inl (z_and (H1.1 (t + 1) (x5).toNat) 7))]) (st' := []) rfl ?_
              refine h_loc [0, 1, 2, 4, 5] rfl ?_
              exact ih H27 hI28 hf31 z30 (x5 + 1) (by omega) (by omega) (by omega) (by omega) (by omega)
            · refine k_run 0 (pc' := 85) (l' := [(0, .inr (.inr 363)), (1, .inr (.inr t)), (2, .inr (.inl b)), (4, .inl x4), (5, .inl x5), (6, .inl (H1.1 (t + 1) (x5).toNat)), (7, .inl (z_and (H1.1 (t + 1) (x5).toNat) 7))]) (st' := []) rfl ?_
              refine k_run 4 (pc' := 93) (l' := [(0, .inr (.inr 363)), (1, .inr (.inr t)), (2, .inr (.inl b)), (4, .inl x4), (5, .inl x5), (6, .inl (H1.1 (t + 1) (x5).toNat)), (7, .inl (z_and (H1.1 (t + 1) (x5).toNat) 7))]) (st' := [.inl (z_and (H1.1 (t + 1) (x5).toNat) 7), .inl x4, .inr (.inr 365)]) rfl ?_
              refine k_istw (c := 365) (j := (x4).toNat) (i := x4) (x := kx_365) rfl rfl (by decide) (by decide) rfl (by decide) (by omega) (by omega) hI15 rfl (fun H32 hI33 hw34 => ?_)
              have hf36 : fq [(363, 3)] [364, 365] false H H32 := fq_w hf17 hw34 (fpa (by decide) rfl)
              refine k_run 0 (pc' := 94) (l' := [(0, .inr (.inr 363)), (1, .inr (.inr t)), (2, .inr (.inl b)), (4, .inl x4), (5, .inl x5), (6, .inl (H1.1 (t + 1) (x5).toNat)), (7, .inl (z_and (H1.1 (t + 1) (x5).toNat) 7))]) (st' := []) rfl ?_
              refine k_run 4 (pc' := 11) (l' := [(0, .inr (.inr 363)), (1, .inr (.inr t)), (2, .inr (.inl b)), (4, .inl (x4 + 1)), (5, .inl (x5 + 1)), (6, .inl (H1.1 (t + 1) (x5).toNat)), (7, .inl (z_and (H1.1 (t + 1) (x5).toNat) 7))]) (st' := []) rfl ?_
              refine h_loc [0, 1, 2, 4, 5] rfl ?_
              exact ih H32 hI33 hf36 (x4 + 1) (x5 + 1) (by omega) (by omega) (by omega) (by omega) (by omega)
        · exfalso
          omega
      · refine k_run 0 (pc' := 41) (l' := [(0, .inr (.inr 363)), (1, .inr (.inr t)), (2, .inr (.inl b)), (4, .inl x4), (5, .inl x5), (6, .inl (H1.1 (t + 1) (x5).toNat)), (7, .inl (z_and (H1.1 (t + 1) (x5).toNat) 7))]) (st' := []) rfl ?_
        refine k_run 2 (pc' := 44) (l' := [(0, .inr (.inr 363)), (1, .inr (.inr t)), (2, .inr (.inl b)), (4, .inl x4), (5, .inl x5), (6, .inl (H1.1 (t + 1) (x5).toNat)), (7, .inl (z_and (H1.1 (t + 1) (x5).toNat) 7))]) (st' := [.inl 32, .inr (.inr 363)]) rfl ?_
        refine h_cv (i := 34) (j := 92) (b := 363) (M' := mt_92) (xs := [.inl 32]) (rest := []) rfl rfl rfl rfl (zs_K (x := kx_363) rfl (by decide)) rfl (Nat.le_of_ble_eq_true rfl) (Nat.le_of_ble_eq_true rfl) (by omega) (k_Printer_putByte (by omega) hI1 (by decide)) ?_
        rintro _ H38 ⟨rfl, hI39, hq40⟩
        have hf41 : fq [(363, 3)] [364, 365] false H H38 := fq_t hf1 hq40 rfl rfl rfl
        refine k_run 0 (pc' := 47) (l' := [(0, .inr (.inr 363)), (1, .inr (.inr t)), (2, .inr (.inl b)), (4, .inl x4), (5, .inl x5), (6, .inl (H1.1 (t + 1) (x5).toNat)), (7, .inl (z_and (H1.1 (t + 1) (x5).toNat) 7))]) (st' := []) rfl ?_
        refine k_run 1 (pc' := 49) (l' := [(0, .inr (.inr 363)), (1, .inr (.inr t)), (2, .inr (.inl b)), (4, .inl x4), (5, .inl x5), (6, .inl (H1.1 (t + 1) (x5).toNat)), (7, .inl (z_and (H1.1 (t + 1) (x5).toNat) 7))]) (st' := [.inl x5]) rfl ?_
        refine h_zle (off := 14) (t := 63) rfl rfl (by omega) (fun c42 => ?_) (fun c42 => ?_)
        · exfalso
          omega
        · refine k_run 0 (pc' := 52) (l' := [(0, .inr (.inr 363)), (1, .inr (.inr t)), (2, .inr (.inl b)), (4, .inl x4), (5, .inl x5), (6, .inl (H1.1 (t + 1) (x5).toNat)), (7, .inl (z_and (H1.1 (t + 1) (x5).toNat) 7))]) (st' := []) rfl ?_
          refine k_run 1 (pc' := 54) (l' := [(0, .inr (.inr 363)), (1, .inr (.inr t)), (2, .inr (.inl b)), (4, .inl x4), (5, .inl x5), (6, .inl (H1.1 (t + 1) (x5).toNat)), (7, .inl (z_and (H1.1 (t + 1) (x5).toNat) 7))]) (st' := [.inl (z_and (H1.1 (t + 1) (x5).toNat) 7)]) rfl ?_
          refine h_zle (off := 9) (t := 63) rfl rfl (z_int _) (fun c43 => ?_) (fun c43 => ?_)
          · refine k_run 0 (pc' := 63) (l' := [(0, .inr (.inr 363)), (1, .inr (.inr t)), (2, .inr (.inl b)), (4, .inl x4), (5, .inl x5), (6, .inl (H1.1 (t + 1) (x5).toNat)), (7, .inl (z_and (H1.1 (t + 1) (x5).toNat) 7))]) (st' := []) rfl ?_
            refine k_run 3 (pc' := 67) (l' := [(0, .inr (.inr 363)), (1, .inr (.inr t)), (2, .inr (.inl b)), (4, .inl x4), (5, .inl x5), (6, .inl (H1.1 (t + 1) (x5).toNat)), (7, .inl (z_and (H1.1 (t + 1) (x5).toNat) 7))]) (st' := [.inr (.inl b), .inl (H1.1 (t + 1) (x5).toNat), .inr (.inr 363)]) rfl ?_
            refine h_cv (i := 38) (j := 90) (b := 363) (M' := mt_90) (xs := [.inr (.inl b), .inl (H1.1 (t + 1) (x5).toNat)]) (rest := []) rfl rfl rfl rfl (zs_K (x := kx_363) rfl (by decide)) rfl (Nat.le_of_ble_eq_true rfl) (Nat.le_of_ble_eq_true rfl) (by omega) (k_Printer_putNameOf (by omega) hI39 (by omega)) ?_
            rintro _ H45 ⟨rfl, hI46, hq47⟩
            have hf48 : fq [(363, 3)] [364, 365] false H H45 := fq_t hf41 hq47 rfl rfl rfl
            refine k_run 0 (pc' := 70) (l' := [(0, .inr (.inr 363)), (1, .inr (.inr t)), (2, .inr (.inl b)), (4, .inl x4), (5, .inl x5), (6, .inl (H1.1 (t + 1) (x5).toNat)), (7, .inl (z_and (H1.1 (t + 1) (x5).toNat) 7))]) (st' := []) rfl ?_
            refine k_run 1 (pc' := 72) (l' := [(0, .inr (.inr 363)), (1, .inr (.inr t)), (2, .inr (.inl b)), (4, .inl x4), (5, .inl x5), (6, .inl (H1.1 (t + 1) (x5).toNat)), (7, .inl (z_and (H1.1 (t + 1) (x5).toNat) 7))]) (st' := [.inl (z_and (H1.1 (t + 1) (x5).toNat) 7)]) rfl ?_
            refine h_zle (off := 28) (t := 100) rfl rfl (z_int _) (fun c49 => ?_) (fun c49 => ?_)
            · refine k_run 0 (pc' := 100) (l' := [(0, .inr (.inr 363)), (1, .inr (.inr t)), (2, .inr (.inl b)), (4, .inl x4), (5, .inl x5), (6, .inl (H1.1 (t + 1) (x5).toNat)), (7, .inl (z_and (H1.1 (t + 1) (x5).toNat) 7))]) (st' := []) rfl ?_
              refine k_run 2 (pc' := 103) (l' := [(0, .inr (.inr 363)), (1, .inr (.inr t)), (2, .inr (.inl b)), (4, .inl x4), (5, .inl x5), (6, .inl (H1.1 (t + 1) (x5).toNat)), (7, .inl (z_and (H1.1 (t + 1) (x5).toNat) 7))]) (st' := [.inl x4, .inr (.inr 363)]) rfl ?_
              refine h_cv (i := 42) (j := 89) (b := 363) (M' := mt_89) (xs := [.inl x4]) (rest := []) rfl rfl rfl rfl (zs_K (x := kx_363) rfl (by decide)) rfl (Nat.le_of_ble_eq_true rfl) (Nat.le_of_ble_eq_true rfl) (by omega) (k_Printer_closeAll (by omega) hI46 (by omega) (by omega)) ?_
              rintro _ H51 ⟨z54, rfl, g50, hI52, hq53⟩
              have hf55 : fq [(363, 3)] [364, 365] false H H51 := fq_t hf48 hq53 rfl rfl rfl
              refine k_run 0 (pc' := 106) (l' := [(0, .inr (.inr 363)), (1, .inr (.inr t)), (2, .inr (.inl b)), (4, .inl x4), (5, .inl x5), (6, .inl (H1.1 (t + 1) (x5).toNat)), (7, .inl (z_and (H1.1 (t + 1) (x5).toNat) 7))]) (st' := [.inl z54]) rfl ?_
              refine k_run 3 (pc' := 11) (l' := [(0, .inr (.inr 363)), (1, .inr (.inr t)), (2, .inr (.inl b)), (4, .inl z54), (5, .inl (x5 + 1)), (6, .inl (H1.1 (t + 1) (x5).toNat)), (7, .inl (z_and (H1.1 (t + 1) (x5).toNat) 7))]) (st' := []) rfl ?_
              refine h_loc [0, 1, 2, 4, 5] rfl ?_
              exact ih H51 hI52 hf55 z54 (x5 + 1) (by omega) (by omega) (by omega) (by omega) (by omega)
            · exfalso
              omega
          · refine k_run 0 (pc' := 57) (l' := [(0, .inr (.inr 363)), (1, .inr (.inr t)), (2, .inr (.inl b)), (4, .inl x4), (5, .inl x5), (6, .inl (H1.1 (t + 1) (x5).toNat)), (7, .inl (z_and (H1.1 (t + 1) (x5).toNat) 7))]) (st' := []) rfl ?_
            refine k_run 2 (pc' := 60) (l' := [(0, .inr (.inr 363)), (1, .inr (.inr t)), (2, .inr (.inl b)), (4, .inl x4), (5, .inl x5), (6, .inl (H1.1 (t + 1) (x5).toNat)), (7, .inl (z_and (H1.1 (t + 1) (x5).toNat) 7))]) (st' := [.inl 40, .inr (.inr 363)]) rfl ?_
            refine h_cv (i := 34) (j := 92) (b := 363) (M' := mt_92) (xs := [.inl 40]) (rest := []) rfl rfl rfl rfl (zs_K (x := kx_363) rfl (by decide)) rfl (Nat.le_of_ble_eq_true rfl) (Nat.le_of_ble_eq_true rfl) (by omega) (k_Printer_putByte (by omega) hI39 (by decide)) ?_
            rintro _ H57 ⟨rfl, hI58, hq59⟩
            have hf60 : fq [(363, 3)] [364, 365] false H H57 := fq_t hf41 hq59 rfl rfl rfl
            refine k_run 0 (pc' := 63) (l' := [(0, .inr (.inr 363)), (1, .inr (.inr t)), (2, .inr (.inl b)), (4, .inl x4), (5, .inl x5), (6, .inl (H1.1 (t + 1) (x5).toNat)), (7, .inl (z_and (H1.1 (t + 1) (x5).toNat) 7))]) (st' := []) rfl ?_
            refine k_run 3 (pc' := 67) (l' := [(0, .inr (.inr 363)), (1, .inr (.inr t)), (2, .inr (.inl b)), (4, .inl x4), (5, .inl x5), (6, .inl (H1.1 (t + 1) (x5).toNat)), (7, .inl (z_and (H1.1 (t + 1) (x5).toNat) 7))]) (st' := [.inr (.inl b), .inl (H1.1 (t + 1) (x5).toNat), .inr (.inr 363)]) rfl ?_
            refine h_cv (i := 38) (j := 90) (b := 363) (M' := mt_90) (xs := [.inr (.inl b), .inl (H1.1 (t + 1) (x5).toNat)]) (rest := []) rfl rfl rfl rfl (zs_K (x := kx_363) rfl (by decide)) rfl (Nat.le_of_ble_eq_true rfl) (Nat.le_of_ble_eq_true rfl) (by omega) (k_Printer_putNameOf (by omega) hI58 (by omega)) ?_
            rintro _ H62 ⟨rfl, hI63, hq64⟩
            have hf65 : fq [(363, 3)] [364, 365] false H H62 := fq_t hf60 hq64 rfl rfl rfl
            refine k_run 0 (pc' := 70) (l' := [(0, .inr (.inr 363)), (1, .inr (.inr t)), (2, .inr (.inl b)), (4, .inl x4), (5, .inl x5), (6, .inl (H1.1 (t + 1) (x5).toNat)), (7, .inl (z_and (H1.1 (t + 1) (x5).toNat) 7))]) (st' := []) rfl ?_
            refine k_run 1 (pc' := 72) (l' := [(0, .inr (.inr 363)), (1, .inr (.inr t)), (2, .inr (.inl b)), (4, .inl x4), (5, .inl x5), (6, .inl (H1.1 (t + 1) (x5).toNat)), (7, .inl (z_and (H1.1 (t + 1) (x5).toNat) 7))]) (st' := [.inl (z_and (H1.1 (t + 1) (x5).toNat) 7)]) rfl ?_
            refine h_zle (off := 28) (t := 100) rfl rfl (z_int _) (fun c66 => ?_) (fun c66 => ?_)
            · exfalso
              omega
            · refine k_run 0 (pc' := 75) (l' := [(0, .inr (.inr 363)), (1, .inr (.inr t)), (2, .inr (.inl b)), (4, .inl x4), (5, .inl x5), (6, .inl (H1.1 (t + 1) (x5).toNat)), (7, .inl (z_and (H1.1 (t + 1) (x5).toNat) 7))]) (st' := []) rfl ?_
              refine k_run 3 (pc' := 81) (l' := [(0, .inr (.inr 363)), (1, .inr (.inr t)), (2, .inr (.inl b)), (4, .inl x4), (5, .inl x5), (6, .inl (H1.1 (t + 1) (x5).toNat)), (7, .inl (z_and (H1.1 (t + 1) (x5).toNat) 7))]) (st' := [.inr (.inr 365), .inl x4]) rfl ?_
              refine k_alen (c := 365) (x := kx_365) rfl rfl (by decide) rfl ?_
              refine k_run 0 (pc' := 82) (l' := [(0, .inr (.inr 363)), (1, .inr (.inr t)), (2, .inr (.inl b)), (4, .inl x4), (5, .inl x5), (6, .inl (H1.1 (t + 1) (x5).toNat)), (7, .inl (z_and (H1.1 (t + 1) (x5).toNat) 7))]) (st' := [.inl 120, .inl x4]) rfl ?_
              refine h_ige (off := 18) (t := 100) rfl rfl (by omega) (by decide) (fun c67 => ?_) (fun c67 => ?_)
              · refine k_run 0 (pc' := 100) (l' := [(0, .inr (.inr 363)), (1, .inr (.inr t)), (2, .inr (.inl b)), (4, .inl x4), (5, .inl x5), (6, .inl (H1.1 (t + 1) (x5).toNat)), (7, .inl (z_and (H1.1 (t + 1) (x5).toNat) 7))]) (st' := []) rfl ?_
                refine k_run 2 (pc' := 103) (l' := [(0, .inr (.inr 363)), (1, .inr (.inr t)), (2, .inr (.inl b)), (4, .inl x4), (5, .inl x5), (6, .inl (H1.1 (t + 1) (x5).toNat)), (7, .inl (z_and (H1.1 (t + 1) (x5).toNat) 7))]) (st' := [.inl x4, .inr (.inr 363)]) rfl ?_
                refine h_cv (i := 42) (j := 89) (b := 363) (M' := mt_89) (xs := [.inl x4]) (rest := []) rfl rfl rfl rfl (zs_K (x := kx_363) rfl (by decide)) rfl (Nat.le_of_ble_eq_true rfl) (Nat.le_of_ble_eq_true rfl) (by omega) (k_Printer_closeAll (by omega) hI63 (by omega) (by omega)) ?_
                rintro _ H69 ⟨z72, rfl, g68, hI70, hq71⟩
                have hf73 : fq [(363, 3)] [364, 365] false H H69 := fq_t hf65 hq71 rfl rfl rfl
                refine k_run 0 (pc' := 106) (l' := [(0, .inr (.inr 363)), (1, .inr (.inr t)), (2, .inr (.inl b)), (4, .inl x4), (5, .inl x5), (6, .inl (H1.1 (t + 1) (x5).toNat)), (7, .inl (z_and (H1.1 (t + 1) (x5).toNat) 7))]) (st' := [.inl z72]) rfl ?_
                refine k_run 3 (pc' := 11) (l' := [(0, .inr (.inr 363)), (1, .inr (.inr t)), (2, .inr (.inl b)), (4, .inl z72), (5, .inl (x5 + 1)), (6, .inl (H1.1 (t + 1) (x5).toNat)), (7, .inl (z_and (H1.1 (t + 1) (x5).toNat) 7))]) (st' := []) rfl ?_
                refine h_loc [0, 1, 2, 4, 5] rfl ?_
                exact ih H69 hI70 hf73 z72 (x5 + 1) (by omega) (by omega) (by omega) (by omega) (by omega)
              · refine k_run 0 (pc' := 85) (l' := [(0, .inr (.inr 363)), (1, .inr (.inr t)), (2, .inr (.inl b)), (4, .inl x4), (5, .inl x5), (6, .inl (H1.1 (t + 1) (x5).toNat)), (7, .inl (z_and (H1.1 (t + 1) (x5).toNat) 7))]) (st' := []) rfl ?_
                refine k_run 4 (pc' := 93) (l' := [(0, .inr (.inr 363)), (1, .inr (.inr t)), (2, .inr (.inl b)), (4, .inl x4), (5, .inl x5), (6, .inl (H1.1 (t + 1) (x5).toNat)), (7, .inl (z_and (H1.1 (t + 1) (x5).toNat) 7))]) (st' := [.inl (z_and (H1.1 (t + 1) (x5).toNat) 7), .inl x4, .inr (.inr 365)]) rfl ?_
                refine k_istw (c := 365) (j := (x4).toNat) (i := x4) (x := kx_365) rfl rfl (by decide) (by decide) rfl (by decide) (by omega) (by omega) hI63 rfl (fun H74 hI75 hw76 => ?_)
                have hf78 : fq [(363, 3)] [364, 365] false H H74 := fq_w hf65 hw76 (fpa (by decide) rfl)
                refine k_run 0 (pc' := 94) (l' := [(0, .inr (.inr 363)), (1, .inr (.inr t)), (2, .inr (.inl b)), (4, .inl x4), (5, .inl x5), (6, .inl (H1.1 (t + 1) (x5).toNat)), (7, .inl (z_and (H1.1 (t + 1) (x5).toNat) 7))]) (st' := []) rfl ?_
                refine k_run 4 (pc' := 11) (l' := [(0, .inr (.inr 363)), (1, .inr (.inr t)), (2, .inr (.inl b)), (4, .inl (x4 + 1)), (5, .inl (x5 + 1)), (6, .inl (H1.1 (t + 1) (x5).toNat)), (7, .inl (z_and (H1.1 (t + 1) (x5).toNat) 7))]) (st' := []) rfl ?_
                refine h_loc [0, 1, 2, 4, 5] rfl ?_
                exact ih H74 hI75 hf78 (x4 + 1) (x5 + 1) (by omega) (by omega) (by omega) (by omega) (by omega)
set_option maxRecDepth 100000 in
theorem k_Printer_print {d : Nat} (hd : 4 ≤ d) {H : hp} (hI : Inv H) {t n : Nat} {b : Int} (ht : isT t n) : hG (zs zK) d mt_88 0 (zargs 0 [.inr (.inr 363), .inr (.inr t), .inr (.inl b)]) [] H (fun r9 H9 => ∃ z : Int, r9 = some (.inl z) ∧ ((-2147483648 ≤ z ∧ z ≤ 2147483647)) ∧ Inv H9 ∧ fq [(363, 3)] [364, 365] false H H9) := by
  have htb := ht.2.2.2.2
  refine k_run 0 (pc' := 0) (l' := [(0, .inr (.inr 363)), (1, .inr (.inr t)), (2, .inr (.inl b))]) (st' := []) rfl ?_
  refine k_run 2 (pc' := 2) (l' := [(0, .inr (.inr 363)), (1, .inr (.inr t)), (2, .inr (.inl b))]) (st' := [.inl 0, .inr (.inr 363)]) rfl ?_
  refine k_puti (z := 0) (a := 363) (x := kx_363) rfl rfl rfl (by decide) (by decide) rfl rfl rfl rfl hI (by decide) (show 0 ≤ (0 : Int) ∧ (0 : Int) ≤ 1080 by omega) (fun H1 hI2 hw3 hv4 => ?_)
  have hf5 : fq [(363, 3)] [364, 365] false H H1 := fq_w (fq_rf _ _ _ _) hw3 (fpo (by decide) rfl)
  refine k_run 0 (pc' := 5) (l' := [(0, .inr (.inr 363)), (1, .inr (.inr t)), (2, .inr (.inl b))]) (st' := []) rfl ?_
  refine k_run 4 (pc' := 11) (l' := [(0, .inr (.inr 363)), (1, .inr (.inr t)), (2, .inr (.inl b)), (4, .inl 0), (5, .inl 0)]) (st' := []) rfl ?_
  exact (k_Printer_print_cut hd hI ht _) H1 hI2 hf5 (0 : Int) (0 : Int) (by decide) (by decide) (by omega) (by omega) (Nat.lt_succ_self _)
