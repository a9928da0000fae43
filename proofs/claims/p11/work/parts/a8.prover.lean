/-! the class: goals, a proof, its rows -/
/-! Goal.copyRest -/
set_option maxRecDepth 100000 in
theorem k_Goal_copyRest_cut {d : Nat} (hd : 2 ≤ d) {H : hp} (hI : Inv H) {g : Nat} {f : Nat} (hg : isG g) (hf : isG f) : ∀ w : Nat, (∀ (H1 : hp), Inv H1 → fq [] [] true H H1 → ∀ (x2 : Int) , (-2147483648 ≤ x2 ∧ x2 ≤ 2147483647) → (0 ≤ x2) → (((100 - x2).toNat) < w) → hG (zs zK) d mt_150 18 [(0, .inr (.inr g)), (1, .inr (.inr f)), (2, .inl x2)] [] H1 (fun r9 H9 => r9 = none ∧ Inv H9 ∧ fq [] [] true H H9)) := by
  intro w
  induction w with
  | zero => exact fun _ _ _ _ _ _ h => absurd h (Nat.not_lt_zero _)
  | succ w ih =>
    intro H1 hI1 hf1 x2 hx2 hi0 hw
    refine k_run 2 (pc' := 20) (l' := [(0, .inr (.inr g)), (1, .inr (.inr f)), (2, .inl x2)]) (st' := [.inr (.inr g), .inl x2]) rfl ?_
    refine k_get (a := g) (x := (kGo g)) (v := .inl (H1.1 g 2)) rfl rfl hg.1 (iG0 hg) rfl rfl rfl ?_
    have g13 : 0 ≤ (H1.1 g 2) ∧ (H1.1 g 2) ≤ 8 := kn hI1 hg.1 2
    refine k_run 0 (pc' := 23) (l' := [(0, .inr (.inr g)), (1, .inr (.inr f)), (2, .inl x2)]) (st' := [.inl (H1.1 g 2), .inl x2]) rfl ?_
    refine h_ige (off := 76) (t := 99) rfl rfl (by omega) (by omega) (fun c14 => ?_) (fun c14 => ?_)
    · refine k_run 0 (pc' := 99) (l' := [(0, .inr (.inr g)), (1, .inr (.inr f)), (2, .inl x2)]) (st' := []) rfl ?_
      refine h_ret rfl rfl ?_
      exact ⟨rfl, hI1, hf1⟩
    · refine k_run 0 (pc' := 26) (l' := [(0, .inr (.inr g)), (1, .inr (.inr f)), (2, .inl x2)]) (st' := []) rfl ?_
      refine k_run 2 (pc' := 28) (l' := [(0, .inr (.inr g)), (1, .inr (.inr f)), (2, .inl x2)]) (st' := [.inr (.inr g), .inl x2]) rfl ?_
      refine k_get (a := g) (x := (kGo g)) (v := .inr (.inr (g + 2))) rfl rfl hg.1 (iG0 hg) rfl rfl rfl ?_
      refine k_run 0 (pc' := 31) (l' := [(0, .inr (.inr g)), (1, .inr (.inr f)), (2, .inl x2)]) (st' := [.inr (.inr (g + 2)), .inl x2]) rfl ?_
      refine k_alen (c := (g + 2)) (x := kGf) rfl hg.2.2.1 (iG2 hg) rfl ?_
      refine k_run 0 (pc' := 32) (l' := [(0, .inr (.inr g)), (1, .inr (.inr f)), (2, .inl x2)]) (st' := [.inl 8, .inl x2]) rfl ?_
      refine h_ige (off := 67) (t := 99) rfl rfl (by omega) (by decide) (fun c15 => ?_) (fun c15 => ?_)
      · refine k_run 0 (pc' := 99) (l' := [(0, .inr (.inr g)), (1, .inr (.inr f)), (2, .inl x2)]) (st' := []) rfl ?_
        refine h_ret rfl rfl ?_
        exact ⟨rfl, hI1, hf1⟩
      · refine k_run 0 (pc' := 35) (l' := [(0, .inr (.inr g)), (1, .inr (.inr f)), (2, .inl x2)]) (st' := []) rfl ?_
        refine k_run 1 (pc' := 36) (l' := [(0, .inr (.inr g)), (1, .inr (.inr f)), (2, .inl x2)]) (st' := [.inr (.inr g)]) rfl ?_
        refine k_get (a := g) (x := (kGo g)) (v := .inr (.inr (g + 2))) rfl rfl hg.1 (iG0 hg) rfl rfl rfl ?_
        refine k_run 0 (pc' := 39) (l' := [(0, .inr (.inr g)), (1, .inr (.inr f)), (2, .inl x2)]) (st' := [.inr (.inr (g + 2))]) rfl ?_
        refine k_run 2 (pc' := 41) (l' := [(0, .inr (.inr g)), (1, .inr (.inr f)), (2, .inl x2)]) (st' := [.inr (.inr f), .inl x2, .inr (.inr (g + 2))]) rfl ?_
        refine k_get (a := f) (x := (kGo f)) (v := .inr (.inr (f + 2))) rfl rfl hf.1 (iG0 hf) rfl rfl rfl ?_
        refine k_run 0 (pc' := 44) (l' := [(0, .inr (.inr g)), (1, .inr (.inr f)), (2, .inl x2)]) (st' := [.inr (.inr (f + 2)), .inl x2, .inr (.inr (g + 2))]) rfl ?_
        refine k_run 1 (pc' := 45) (l' := [(0, .inr (.inr g)), (1, .inr (.inr f)), (2, .inl x2)]) (st' := [.inl x2, .inr (.inr (f + 2)), .inl x2, .inr (.inr (g + 2))]) rfl ?_
        refine k_lld (c := (f + 2)) (j := (x2).toNat) (i := x2) (x := kGf) rfl hf.2.2.1 (iG2 hf) rfl (by decide) (by omega) (by omega) ?_
        have g16 : -9223372036854775808 ≤ (H1.1 (f + 2) (x2).toNat) ∧ (H1.1 (f + 2) (x2).toNat) ≤ 9223372036854775807 := kn hI1 hf.2.2.1 (x2).toNat
        refine k_run 0 (pc' := 46) (l' := [(0, .inr (.inr g)), (1, .inr (.inr f)), (2, .inl x2)]) (st' := [.inr (.inl (H1.1 (f + 2) (x2).toNat)), .inl x2, .inr (.inr (g + 2))]) rfl ?_
        refine k_lst (c := (g + 2)) (j := (x2).toNat) (i := x2) (x := kGf) rfl hg.2.2.1 (iG2 hg) (by omega) rfl (by decide) (by omega) (by omega) hI1 rfl (fun H17 hI18 hw19 => ?_)
        have hf21 : fq [] [] true H H17 := fq_w hf1 hw19 (fpg (iGg hg))
        refine k_run 0 (pc' := 47) (l' := [(0, .inr (.inr g)), (1, .inr (.inr f)), (2, .inl x2)]) (st' := []) rfl ?_
        refine k_run 1 (pc' := 48) (l' := [(0, .inr (.inr g)), (1, .inr (.inr f)), (2, .inl x2)]) (st' := [.inr (.inr g)]) rfl ?_
        refine k_get (a := g) (x := (kGo g)) (v := .inr (.inr (g + 1))) rfl rfl hg.1 (iG0 hg) rfl rfl rfl ?_
        refine k_run 0 (pc' := 51) (l' := [(0, .inr (.inr g)), (1, .inr (.inr f)), (2, .inl x2)]) (st' := [.inr (.inr (g + 1))]) rfl ?_
        refine k_run 5 (pc' := 56) (l' := [(0, .inr (.inr g)), (1, .inr (.inr f)), (2, .inl x2)]) (st' := [.inl (2 + (2 * x2)), .inr (.inr (g + 1))]) rfl ?_
        refine k_ald (c := (g + 1)) (j := ((2 + (2 * x2))).toNat) (i := (2 + (2 * x2))) (x := kGt) rfl hg.2.1 (iG1 hg) rfl (by decide) (by omega) (by omega) hI18 (fun h22 => ?_)
        obtain ⟨t23, et25⟩ : ∃ t9, t9 = H17.2 (g + 1) ((2 + (2 * x2))).toNat := ⟨_, rfl⟩
        rw [← et25] at h22 ⊢
        obtain ⟨n26, k24⟩ := (show (∃ n, isT t23 n) ∧ 369 < t23 from h22).1
        have k24b := k24.2.2.2.2
        refine k_run 0 (pc' := 57) (l' := [(0, .inr (.inr g)), (1, .inr (.inr f)), (2, .inl x2)]) (st' := [.inr (.inr t23)]) rfl ?_
        refine k_run 1 (pc' := 58) (l' := [(0, .inr (.inr g)), (1, .inr (.inr f)), (2, .inl x2)]) (st' := [.inr (.inr f), .inr (.inr t23)]) rfl ?_
        refine k_get (a := f) (x := (kGo f)) (v := .inr (.inr (f + 1))) rfl rfl hf.1 (iG0 hf) rfl rfl rfl ?_
        refine k_run 0 (pc' := 61) (l' := [(0, .inr (.inr g)), (1, .inr (.inr f)), (2, .inl x2)]) (st' := [.inr (.inr (f + 1)), .inr (.inr t23)]) rfl ?_
        refine k_run 5 (pc' := 66) (l' := [(0, .inr (.inr g)), (1, .inr (.inr f)), (2, .inl x2)]) (st' := [.inl (2 + (2 * x2)), .inr (.inr (f + 1)), .inr (.inr t23)]) rfl ?_
        refine k_ald (c := (f + 1)) (j := ((2 + (2 * x2))).toNat) (i := (2 + (2 * x2))) (x := kGt) rfl hf.2.1 (iG1 hf) rfl (by decide) (by omega) (by omega) hI18 (fun h27 => ?_)
        obtain ⟨t28, et30⟩ : ∃ t9, t9 = H17.2 (f + 1) ((2 + (2 * x2))).toNat := ⟨_, rfl⟩
        rw [← et30] at h27 ⊢
        obtain ⟨n31, k29⟩ := (show (∃ n, isT t28 n) ∧ 369 < t28 from h27).1
        have k29b := k29.2.2.2.2
        refine k_run 0 (pc' := 67) (l' := [(0, .inr (.inr g)), (1, .inr (.inr f)), (2, .inl x2)]) (st' := [.inr (.inr t28), .inr (.inr t23)]) rfl ?_
        refine h_cv (i := 24) (j := 55) (b := t23) (M' := mt_55) (xs := [.inr (.inr t28)]) (rest := []) rfl rfl rfl rfl (by rw [zs_K k24.1 (iT0 k24)]; rfl) rfl (Nat.le_of_ble_eq_true rfl) (Nat.le_of_ble_eq_true rfl) (by omega) (k_Term_copy (by omega) hI18 k24 k29) ?_
        rintro _ H33 ⟨rfl, hI34, hq35⟩
        have hf36 : fq [] [] true H H33 := fq_t hf21 hq35 rfl rfl rfl
        refine k_run 0 (pc' := 70) (l' := [(0, .inr (.inr g)), (1, .inr (.inr f)), (2, .inl x2)]) (st' := []) rfl ?_
        refine k_run 1 (pc' := 71) (l' := [(0, .inr (.inr g)), (1, .inr (.inr f)), (2, .inl x2)]) (st' := [.inr (.inr g)]) rfl ?_
        refine k_get (a := g) (x := (kGo g)) (v := .inr (.inr (g + 1))) rfl rfl hg.1 (iG0 hg) rfl rfl rfl ?_
        refine k_run 0 (pc' := 74) (l' := [(0, .inr (.inr g)), (1, .inr (.inr f)), (2, .inl x2)]) (st' := [.inr (.inr (g + 1))]) rfl ?_
        refine k_run 5 (pc' := 79) (l' := [(0, .inr (.inr g)), (1, .inr (.inr f)), (2, .inl x2)]) (st' := [.inl (3 + (2 * x2)), .inr (.inr (g + 1))]) rfl ?_
        refine k_ald (c := (g + 1)) (j := ((3 + (2 * x2))).toNat) (i := (3 + (2 * x2))) (x := kGt) rfl hg.2.1 (iG1 hg) rfl (by decide) (by omega) (by omega) hI34 (fun h37 => ?_)
        obtain ⟨t38, et40⟩ : ∃ t9, t9 = H33.2 (g + 1) ((3 + (2 * x2))).toNat := ⟨_, rfl⟩
        rw [← et40] at h37 ⊢
        obtain ⟨n41, k39⟩ := (show (∃ n, isT t38 n) ∧ 369 < t38 from h37).1
        have k39b := k39.2.2.2.2
        refine k_run 0 (pc' := 80) (l' := [(0, .inr (.inr g)), (1, .inr (.inr f)), (2, .inl x2)]) (st' := [.inr (.inr t38)]) rfl ?_
        refine k_run 1 (pc' := 81) (l' := [(0, .inr (.inr g)), (1, .inr (.inr f)), (2, .inl x2)]) (st' := [.inr (.inr f), .inr (.inr t38)]) rfl ?_
        refine k_get (a := f) (x := (kGo f)) (v := .inr (.inr (f + 1))) rfl rfl hf.1 (iG0 hf) rfl rfl rfl ?_
        refine k_run 0 (pc' := 84) (l' := [(0, .inr (.inr g)), (1, .inr (.inr f)), (2, .inl x2)]) (st' := [.inr (.inr (f + 1)), .inr (.inr t38)]) rfl ?_
        refine k_run 5 (pc' := 89) (l' := [(0, .inr (.inr g)), (1, .inr (.inr f)), (2, .inl x2)]) (st' := [.inl (3 + (2 * x2)), .inr (.inr (f + 1)), .inr (.inr t38)]) rfl ?_
        refine k_ald (c := (f + 1)) (j := ((3 + (2 * x2))).toNat) (i := (3 + (2 * x2))) (x := kGt) rfl hf.2.1 (iG1 hf) rfl (by decide) (by omega) (by omega) hI34 (fun h42 => ?_)
        obtain ⟨t43, et45⟩ : ∃ t9, t9 = H33.2 (f + 1) ((3 + (2 * x2))).toNat := ⟨_, rfl⟩
        rw [← et45] at h42 ⊢
        obtain ⟨n46, k44⟩ := (show (∃ n, isT t43 n) ∧ 369 < t43 from h42).1
        have k44b := k44.2.2.2.2
        refine k_run 0 (pc' := 90) (l' := [(0, .inr (.inr g)), (1, .inr (.inr f)), (2, .inl x2)]) (st' := [.inr (.inr t43), .inr (.inr t38)]) rfl ?_
        refine h_cv (i := 24) (j := 55) (b := t38) (M' := mt_55) (xs := [.inr (.inr t43)]) (rest := []) rfl rfl rfl rfl (by rw [zs_K k39.1 (iT0 k39)]; rfl) rfl (Nat.le_of_ble_eq_true rfl) (Nat.le_of_ble_eq_true rfl) (by omega) (k_Term_copy (by omega) hI34 k39 k44) ?_
        rintro _ H48 ⟨rfl, hI49, hq50⟩
        have hf51 : fq [] [] true H H48 := fq_t hf36 hq50 rfl rfl rfl
        refine k_run 0 (pc' := 93) (l' := [(0, .inr (.inr g)), (1, .inr (.inr f)), (2, .inl x2)]) (st' := []) rfl ?_
        refine k_run 2 (pc' := 18) (l' := [(0, .inr (.inr g)), (1, .inr (.inr f)), (2, .inl (x2 + 1))]) (st' := []) rfl ?_
        exact ih H48 hI49 hf51 (x2 + 1) (by omega) (by omega) (by omega)
set_option maxRecDepth 100000 in
theorem k_Goal_copyRest {d : Nat} (hd : 2 ≤ d) {H : hp} (hI : Inv H) {g : Nat} {f : Nat} (hg : isG g) (hf : isG f) : hG (zs zK) d mt_150 0 (zargs 0 [.inr (.inr g), .inr (.inr f)]) [] H (fun r9 H9 => r9 = none ∧ Inv H9 ∧ fq [] [] true H H9) := by
  refine k_run 0 (pc' := 0) (l' := [(0, .inr (.inr g)), (1, .inr (.inr f))]) (st' := []) rfl ?_
  refine k_run 2 (pc' := 2) (l' := [(0, .inr (.inr g)), (1, .inr (.inr f))]) (st' := [.inr (.inr f), .inr (.inr g)]) rfl ?_
  refine k_get (a := f) (x := (kGo f)) (v := .inl (H.1 f 2)) rfl rfl hf.1 (iG0 hf) rfl rfl rfl ?_
  have g1 : 0 ≤ (H.1 f 2) ∧ (H.1 f 2) ≤ 8 := kn hI hf.1 2
  refine k_run 0 (pc' := 5) (l' := [(0, .inr (.inr g)), (1, .inr (.inr f))]) (st' := [.inl (H.1 f 2), .inr (.inr g)]) rfl ?_
  refine k_puti (z := (H.1 f 2)) (a := g) (x := (kGo g)) rfl rfl hg.1 (iG0 hg) hg.2.2.2.1 rfl rfl rfl rfl hI (by omega) (show 0 ≤ (H.1 f 2) ∧ (H.1 f 2) ≤ 8 by omega) (fun H2 hI3 hw4 hv5 => ?_)
  have hf6 : fq [] [] true H H2 := fq_w (fq_rf _ _ _ _) hw4 (fpg (iGf hg))
  refine k_run 0 (pc' := 8) (l' := [(0, .inr (.inr g)), (1, .inr (.inr f))]) (st' := []) rfl ?_
  refine k_run 2 (pc' := 10) (l' := [(0, .inr (.inr g)), (1, .inr (.inr f))]) (st' := [.inr (.inr f), .inr (.inr g)]) rfl ?_
  refine k_get (a := f) (x := (kGo f)) (v := .inl (H2.1 f 3)) rfl rfl hf.1 (iG0 hf) rfl rfl rfl ?_
  have g7 : -2147483648 ≤ (H2.1 f 3) ∧ (H2.1 f 3) ≤ 2147483647 := kn hI3 hf.1 3
  refine k_run 0 (pc' := 13) (l' := [(0, .inr (.inr g)), (1, .inr (.inr f))]) (st' := [.inl (H2.1 f 3), .inr (.inr g)]) rfl ?_
  refine k_putw (a := g) (x := (kGo g)) rfl rfl hg.1 (iG0 hg) hg.2.2.2.1 rfl rfl rfl rfl hI3 rfl (fun H8 hI9 hw10 => ?_)
  have hf12 : fq [] [] true H H8 := fq_w hf6 hw10 (fpg (iGf hg))
  refine k_run 0 (pc' := 16) (l' := [(0, .inr (.inr g)), (1, .inr (.inr f))]) (st' := []) rfl ?_
  refine k_run 2 (pc' := 18) (l' := [(0, .inr (.inr g)), (1, .inr (.inr f)), (2, .inl 0)]) (st' := []) rfl ?_
  exact (k_Goal_copyRest_cut hd hI hg hf _) H8 hI9 hf12 (0 : Int) (by decide) (by omega) (Nat.lt_succ_self _)

/-! Goal.copy -/
set_option maxRecDepth 100000 in
theorem k_Goal_copy {d : Nat} (hd : 3 ≤ d) {H : hp} (hI : Inv H) {g : Nat} {f : Nat} (hg : isG g) (hf : isG f) : hG (zs zK) d mt_149 0 (zargs 0 [.inr (.inr g), .inr (.inr f)]) [] H (fun r9 H9 => r9 = none ∧ Inv H9 ∧ fq [] [] true H H9) := by
  refine k_run 0 (pc' := 0) (l' := [(0, .inr (.inr g)), (1, .inr (.inr f))]) (st' := []) rfl ?_
  refine k_run 1 (pc' := 1) (l' := [(0, .inr (.inr g)), (1, .inr (.inr f))]) (st' := [.inr (.inr g)]) rfl ?_
  refine k_get (a := g) (x := (kGo g)) (v := .inr (.inr (g + 1))) rfl rfl hg.1 (iG0 hg) rfl rfl rfl ?_
  refine k_run 0 (pc' := 4) (l' := [(0, .inr (.inr g)), (1, .inr (.inr f))]) (st' := [.inr (.inr (g + 1))]) rfl ?_
  refine k_run 1 (pc' := 5) (l' := [(0, .inr (.inr g)), (1, .inr (.inr f))]) (st' := [.inl 0, .inr (.inr (g + 1))]) rfl ?_
  refine k_ald (c := (g + 1)) (j := 0) (i := 0) (x := kGt) rfl hg.2.1 (iG1 hg) rfl (by decide) rfl (by decide) hI (fun h1 => ?_)
  obtain ⟨t2, et4⟩ : ∃ t9, t9 = H.2 (g + 1) 0 := ⟨_, rfl⟩
  rw [← et4] at h1 ⊢
  obtain ⟨n5, k3⟩ := (show (∃ n, isT t2 n) ∧ 369 < t2 from h1).1
  have k3b := k3.2.2.2.2
  refine k_run 0 (pc' := 6) (l' := [(0, .inr (.inr g)), (1, .inr (.inr f))]) (st' := [.inr (.inr t2)]) rfl ?_
  refine k_run 1 (pc' := 7) (l' := [(0, .inr (.inr g)), (1, .inr (.inr f))]) (st' := [.inr (.inr f), .inr (.inr t2)]) rfl ?_
  refine k_get (a := f) (x := (kGo f)) (v := .inr (.inr (f + 1))) rfl rfl hf.1 (iG0 hf) rfl rfl rfl ?_
  refine k_run 0 (pc' := 10) (l' := [(0, .inr (.inr g)), (1, .inr (.inr f))]) (st' := [.inr (.inr (f + 1)), .inr (.inr t2)]) rfl ?_
  refine k_run 1 (pc' := 11) (l' := [(0, .inr (.inr g)), (1, .inr (.inr f))]) (st' := [.inl 0, .inr (.inr (f + 1)), .inr (.inr t2)]) rfl ?_
  refine k_ald (c := (f + 1)) (j := 0) (i := 0) (x := kGt) rfl hf.2.1 (iG1 hf) rfl (by decide) rfl (by decide) hI (fun h6 => ?_)
  obtain ⟨t7, et9⟩ : ∃ t9, t9 = H.2 (f + 1) 0 := ⟨_, rfl⟩
  rw [← et9] at h6 ⊢
  obtain ⟨n10, k8⟩ := (show (∃ n, isT t7 n) ∧ 369 < t7 from h6).1
  have k8b := k8.2.2.2.2
  refine k_run 0 (pc' := 12) (l' := [(0, .inr (.inr g)), (1, .inr (.inr f))]) (st' := [.inr (.inr t7), .inr (.inr t2)]) rfl ?_
  refine h_cv (i := 24) (j := 55) (b := t2) (M' := mt_55) (xs := [.inr (.inr t7)]) (rest := []) rfl rfl rfl rfl (by rw [zs_K k3.1 (iT0 k3)]; rfl) rfl (Nat.le_of_ble_eq_true rfl) (Nat.le_of_ble_eq_true rfl) (by omega) (k_Term_copy (by omega) hI k3 k8) ?_
  rintro _ H12 ⟨rfl, hI13, hq14⟩
  have hf15 : fq [] [] true H H12 := fq_t (fq_rf _ _ _ _) hq14 rfl rfl rfl
  refine k_run 0 (pc' := 15) (l' := [(0, .inr (.inr g)), (1, .inr (.inr f))]) (st' := []) rfl ?_
  refine k_run 1 (pc' := 16) (l' := [(0, .inr (.inr g)), (1, .inr (.inr f))]) (st' := [.inr (.inr g)]) rfl ?_
  refine k_get (a := g) (x := (kGo g)) (v := .inr (.inr (g + 1))) rfl rfl hg.1 (iG0 hg) rfl rfl rfl ?_
  refine k_run 0 (pc' := 19) (l' := [(0, .inr (.inr g)), (1, .inr (.inr f))]) (st' := [.inr (.inr (g + 1))]) rfl ?_
  refine k_run 1 (pc' := 20) (l' := [(0, .inr (.inr g)), (1, .inr (.inr f))]) (st' := [.inl 1, .inr (.inr (g + 1))]) rfl ?_
  refine k_ald (c := (g + 1)) (j := 1) (i := 1) (x := kGt) rfl hg.2.1 (iG1 hg) rfl (by decide) rfl (by decide) hI13 (fun h16 => ?_)
  obtain ⟨t17, et19⟩ : ∃ t9, t9 = H12.2 (g + 1) 1 := ⟨_, rfl⟩
  rw [← et19] at h16 ⊢
  obtain ⟨n20, k18⟩ := (show (∃ n, isT t17 n) ∧ 369 < t17 from h16).1
  have k18b := k18.2.2.2.2
  refine k_run 0 (pc' := 21) (l' := [(0, .inr (.inr g)), (1, .inr (.inr f))]) (st' := [.inr (.inr t17)]) rfl ?_
  refine k_run 1 (pc' := 22) (l' := [(0, .inr (.inr g)), (1, .inr (.inr f))]) (st' := [.inr (.inr f), .inr (.inr t17)]) rfl ?_
  refine k_get (a := f) (x := (kGo f)) (v := .inr (.inr (f + 1))) rfl rfl hf.1 (iG0 hf) rfl rfl rfl ?_
  refine k_run 0 (pc' := 25) (l' := [(0, .inr (.inr g)), (1, .inr (.inr f))]) (st' := [.inr (.inr (f + 1)), .inr (.inr t17)]) rfl ?_
  refine k_run 1 (pc' := 26) (l' := [(0, .inr (.inr g)), (1, .inr (.inr f))]) (st' := [.inl 1, .inr (.inr (f + 1)), .inr (.inr t17)]) rfl ?_
  refine k_ald (c := (f + 1)) (j := 1) (i := 1) (x := kGt) rfl hf.2.1 (iG1 hf) rfl (by decide) rfl (by decide) hI13 (fun h21 => ?_)
  obtain ⟨t22, et24⟩ : ∃ t9, t9 = H12.2 (f + 1) 1 := ⟨_, rfl⟩
  rw [← et24] at h21 ⊢
  obtain ⟨n25, k23⟩ := (show (∃ n, isT t22 n) ∧ 369 < t22 from h21).1
  have k23b := k23.2.2.2.2
  refine k_run 0 (pc' := 27) (l' := [(0, .inr (.inr g)), (1, .inr (.inr f))]) (st' := [.inr (.inr t22), .inr (.inr t17)]) rfl ?_
  refine h_cv (i := 24) (j := 55) (b := t17) (M' := mt_55) (xs := [.inr (.inr t22)]) (rest := []) rfl rfl rfl rfl (by rw [zs_K k18.1 (iT0 k18)]; rfl) rfl (Nat.le_of_ble_eq_true rfl) (Nat.le_of_ble_eq_true rfl) (by omega) (k_Term_copy (by omega) hI13 k18 k23) ?_
  rintro _ H27 ⟨rfl, hI28, hq29⟩
  have hf30 : fq [] [] true H H27 := fq_t hf15 hq29 rfl rfl rfl
  refine k_run 0 (pc' := 30) (l' := [(0, .inr (.inr g)), (1, .inr (.inr f))]) (st' := []) rfl ?_
  refine k_run 2 (pc' := 32) (l' := [(0, .inr (.inr g)), (1, .inr (.inr f))]) (st' := [.inr (.inr f), .inr (.inr g)]) rfl ?_
  refine h_cv (i := 28) (j := 150) (b := g) (M' := mt_150) (xs := [.inr (.inr f)]) (rest := []) rfl rfl rfl rfl (by rw [zs_K hg.1 (iG0 hg)]; rfl) rfl (Nat.le_of_ble_eq_true rfl) (Nat.le_of_ble_eq_true rfl) (by omega) (k_Goal_copyRest (by omega) hI28 hg hf) ?_
  rintro _ H32 ⟨rfl, hI33, hq34⟩
  have hf35 : fq [] [] true H H32 := fq_t hf30 hq34 rfl rfl rfl
  refine k_run 0 (pc' := 35) (l' := [(0, .inr (.inr g)), (1, .inr (.inr f))]) (st' := []) rfl ?_
  refine h_ret rfl rfl ?_
  exact ⟨rfl, hI33, hf35⟩

/-! Goal.variables -/
set_option maxRecDepth 100000 in
theorem k_Goal_variables {d : Nat} (hd : 3 ≤ d) {H : hp} (hI : Inv H) {g : Nat} (hg : isG g) : hG (zs zK) d mt_151 0 (zargs 0 [.inr (.inr g)]) [] H (fun r9 H9 => ∃ z : Int, r9 = some (.inr (.inl z)) ∧ (-9223372036854775808 ≤ z ∧ z ≤ 9223372036854775807) ∧ H = H9) := by
  refine k_run 0 (pc' := 0) (l' := [(0, .inr (.inr g))]) (st' := []) rfl ?_
  refine k_run 1 (pc' := 1) (l' := [(0, .inr (.inr g))]) (st' := [.inr (.inr g)]) rfl ?_
  refine k_get (a := g) (x := (kGo g)) (v := .inr (.inr (g + 1))) rfl rfl hg.1 (iG0 hg) rfl rfl rfl ?_
  refine k_run 0 (pc' := 4) (l' := [(0, .inr (.inr g))]) (st' := [.inr (.inr (g + 1))]) rfl ?_
  refine k_run 1 (pc' := 5) (l' := [(0, .inr (.inr g))]) (st' := [.inl 0, .inr (.inr (g + 1))]) rfl ?_
  refine k_ald (c := (g + 1)) (j := 0) (i := 0) (x := kGt) rfl hg.2.1 (iG1 hg) rfl (by decide) rfl (by decide) hI (fun h1 => ?_)
  obtain ⟨t2, et4⟩ : ∃ t9, t9 = H.2 (g + 1) 0 := ⟨_, rfl⟩
  rw [← et4] at h1 ⊢
  obtain ⟨n5, k3⟩ := (show (∃ n, isT t2 n) ∧ 369 < t2 from h1).1
  have k3b := k3.2.2.2.2
  refine k_run 0 (pc' := 6) (l' := [(0, .inr (.inr g))]) (st' := [.inr (.inr t2)]) rfl ?_
  refine h_cv (i := 39) (j := 60) (b := t2) (M' := mt_60) (xs := []) (rest := []) rfl rfl rfl rfl (by rw [zs_K k3.1 (iT0 k3)]; rfl) rfl (Nat.le_of_ble_eq_true rfl) (Nat.le_of_ble_eq_true rfl) (by omega) (k_Term_variables (by omega) hI k3) ?_
  rintro _ _ ⟨z10, rfl, g6, rfl⟩
  refine k_run 0 (pc' := 9) (l' := [(0, .inr (.inr g))]) (st' := [.inr (.inl z10)]) rfl ?_
  refine k_run 1 (pc' := 10) (l' := [(0, .inr (.inr g))]) (st' := [.inr (.inr g), .inr (.inl z10)]) rfl ?_
  refine k_get (a := g) (x := (kGo g)) (v := .inr (.inr (g + 1))) rfl rfl hg.1 (iG0 hg) rfl rfl rfl ?_
  refine k_run 0 (pc' := 13) (l' := [(0, .inr (.inr g))]) (st' := [.inr (.inr (g + 1)), .inr (.inl z10)]) rfl ?_
  refine k_run 1 (pc' := 14) (l' := [(0, .inr (.inr g))]) (st' := [.inl 1, .inr (.inr (g + 1)), .inr (.inl z10)]) rfl ?_
  refine k_ald (c := (g + 1)) (j := 1) (i := 1) (x := kGt) rfl hg.2.1 (iG1 hg) rfl (by decide) rfl (by decide) hI (fun h11 => ?_)
  obtain ⟨t12, et14⟩ : ∃ t9, t9 = H.2 (g + 1) 1 := ⟨_, rfl⟩
  rw [← et14] at h11 ⊢
  obtain ⟨n15, k13⟩ := (show (∃ n, isT t12 n) ∧ 369 < t12 from h11).1
  have k13b := k13.2.2.2.2
  refine k_run 0 (pc' := 15) (l' := [(0, .inr (.inr g))]) (st' := [.inr (.inr t12), .inr (.inl z10)]) rfl ?_
  refine h_cv (i := 39) (j := 60) (b := t12) (M' := mt_60) (xs := []) (rest := [.inr (.inl z10)]) rfl rfl rfl rfl (by rw [zs_K k13.1 (iT0 k13)]; rfl) rfl (Nat.le_of_ble_eq_true rfl) (Nat.le_of_ble_eq_true rfl) (by omega) (k_Term_variables (by omega) hI k13) ?_
  rintro _ _ ⟨z20, rfl, g16, rfl⟩
  refine k_run 0 (pc' := 18) (l' := [(0, .inr (.inr g))]) (st' := [.inr (.inl z20), .inr (.inl z10)]) rfl ?_
  refine k_run 1 (pc' := 19) (l' := [(0, .inr (.inr g))]) (st' := [.inr (.inl (z_lor z10 z20))]) rfl ?_
  refine k_nrmj (fun y21 hy21 => ?_)
  refine h_retl (x := y21) rfl rfl ?_
  exact ⟨_, rfl, (by omega), rfl⟩

/-! Proof.forget -/
set_option maxRecDepth 100000 in
theorem k_Proof_forget {d : Nat} (hd : 1 ≤ d) {H : hp} (hI : Inv H)   : hG (zs zK) d mt_144 0 (zargs 0 [.inr (.inr 407)]) [] H (fun r9 H9 => r9 = none ∧ Inv H9 ∧ fq [(407, 2), (407, 3)] [] false H H9) := by
  refine k_run 0 (pc' := 0) (l' := [(0, .inr (.inr 407))]) (st' := []) rfl ?_
  refine k_run 2 (pc' := 2) (l' := [(0, .inr (.inr 407))]) (st' := [.inl 0, .inr (.inr 407)]) rfl ?_
  refine k_puti (z := 0) (a := 407) (x := kx_407) rfl rfl rfl (by decide) (by decide) rfl rfl rfl rfl hI (by decide) (show 0 ≤ (0 : Int) ∧ (0 : Int) ≤ 12 by omega) (fun H1 hI2 hw3 hv4 => ?_)
  have hf5 : fq [(407, 2), (407, 3)] [] false H H1 := fq_w (fq_rf _ _ _ _) hw3 (fpo (by decide) rfl)
  refine k_run 0 (pc' := 5) (l' := [(0, .inr (.inr 407))]) (st' := []) rfl ?_
  refine k_run 2 (pc' := 7) (l' := [(0, .inr (.inr 407))]) (st' := [.inl 0, .inr (.inr 407)]) rfl ?_
  refine k_putw (a := 407) (x := kx_407) rfl rfl rfl (by decide) (by decide) rfl rfl rfl rfl hI2 rfl (fun H6 hI7 hw8 => ?_)
  have hf10 : fq [(407, 2), (407, 3)] [] false H H6 := fq_w hf5 hw8 (fpo (by decide) rfl)
  refine k_run 0 (pc' := 10) (l' := [(0, .inr (.inr 407))]) (st' := []) rfl ?_
  refine h_ret rfl rfl ?_
  exact ⟨rfl, hI7, hf10⟩

/-! Proof.start -/
set_option maxRecDepth 100000 in
theorem k_Proof_start_cut {d : Nat} (hd : 2 ≤ d) {H : hp} (hI : Inv H) {e : Nat} {a : Int} {b : Int} (he : isE e) (ha : -2147483648 ≤ a ∧ a ≤ 2147483647) (hb : 0 ≤ b ∧ b ≤ 1) : ∀ w : Nat, (∀ (H1 : hp), Inv H1 → fq [(407, 2), (407, 3), (407, 4), (407, 5), (407, 6), (407, 7), (407, 8)] [409] true H H1 → ∀ (x4 : Int) , (-2147483648 ≤ x4 ∧ x4 ≤ 2147483647) → (0 ≤ x4) → (((100 - x4).toNat) < w) → hG (zs zK) d mt_145 61 [(0, .inr (.inr 407)), (1, .inr (.inr e)), (2, .inl a), (3, .inl b), (4, .inl x4)] [] H1 (fun r9 H9 => r9 = none ∧ Inv H9 ∧ fq [(407, 2), (407, 3), (407, 4), (407, 5), (407, 6), (407, 7), (407, 8)] [409] true H H9)) := by
  intro w
  induction w with
  | zero => exact fun _ _ _ _ _ _ h => absurd h (Nat.not_lt_zero _)
  | succ w ih =>
    intro H1 hI1 hf1 x4 hx4 hi0 hw
    refine k_run 3 (pc' := 67) (l' := [(0, .inr (.inr 407)), (1, .inr (.inr e)), (2, .inl a), (3, .inl b), (4, .inl x4)]) (st' := [.inl (H1.1 407 6), .inl x4]) rfl ?_
    have g56 : 0 ≤ (H1.1 407 6) ∧ (H1.1 407 6) ≤ 60 := kn (x := kx_407) hI1 rfl 6
    refine h_ige (off := 33) (t := 100) rfl rfl (by omega) (by omega) (fun c57 => ?_) (fun c57 => ?_)
    · refine k_run 0 (pc' := 100) (l' := [(0, .inr (.inr 407)), (1, .inr (.inr e)), (2, .inl a), (3, .inl b), (4, .inl x4)]) (st' := []) rfl ?_
      refine k_run 3 (pc' := 105) (l' := [(0, .inr (.inr 407)), (1, .inr (.inr e)), (2, .inl a), (3, .inl b), (4, .inl x4)]) (st' := [.inl 0, .inr (.inr 408)]) rfl ?_
      refine k_ald (c := 408) (j := 0) (i := 0) (x := kx_408) rfl rfl (by decide) rfl (by decide) rfl (by decide) hI1 (fun h58 => ?_)
      obtain ⟨t59, et61⟩ : ∃ t9, t9 = H1.2 408 0 := ⟨_, rfl⟩
      rw [← et61] at h58 ⊢
      have k60 : isG t59 := h58
      refine k_run 0 (pc' := 106) (l' := [(0, .inr (.inr 407)), (1, .inr (.inr e)), (2, .inl a), (3, .inl b), (4, .inl x4)]) (st' := [.inr (.inr t59)]) rfl ?_
      refine k_run 2 (pc' := 110) (l' := [(0, .inr (.inr 407)), (1, .inr (.inr e)), (2, .inl a), (3, .inl b), (4, .inr (.inr t59))]) (st' := [.inr (.inr t59)]) rfl ?_
      refine k_get (a := t59) (x := (kGo t59)) (v := .inr (.inr (t59 + 1))) rfl rfl k60.1 (iG0 k60) rfl rfl rfl ?_
      refine k_run 0 (pc' := 113) (l' := [(0, .inr (.inr 407)), (1, .inr (.inr e)), (2, .inl a), (3, .inl b), (4, .inr (.inr t59))]) (st' := [.inr (.inr (t59 + 1))]) rfl ?_
      refine k_run 1 (pc' := 114) (l' := [(0, .inr (.inr 407)), (1, .inr (.inr e)), (2, .inl a), (3, .inl b), (4, .inr (.inr t59))]) (st' := [.inl 0, .inr (.inr (t59 + 1))]) rfl ?_
      refine k_ald (c := (t59 + 1)) (j := 0) (i := 0) (x := kGt) rfl k60.2.1 (iG1 k60) rfl (by decide) rfl (by decide) hI1 (fun h62 => ?_)
      obtain ⟨t63, et65⟩ : ∃ t9, t9 = H1.2 (t59 + 1) 0 := ⟨_, rfl⟩
      rw [← et65] at h62 ⊢
      obtain ⟨n66, k64⟩ := (show (∃ n, isT t63 n) ∧ 369 < t63 from h62).1
      have k64b := k64.2.2.2.2
      refine k_run 0 (pc' := 115) (l' := [(0, .inr (.inr 407)), (1, .inr (.inr e)), (2, .inl a), (3, .inl b), (4, .inr (.inr t59))]) (st' := [.inr (.inr t63)]) rfl ?_
      refine k_run 1 (pc' := 116) (l' := [(0, .inr (.inr 407)), (1, .inr (.inr e)), (2, .inl a), (3, .inl b), (4, .inr (.inr t59))]) (st' := [.inr (.inr e), .inr (.inr t63)]) rfl ?_
      refine k_get (a := e) (x := (kEo e)) (v := .inr (.inr (e + 1))) rfl rfl he.1 (iE0 he) rfl rfl rfl ?_
      refine k_run 0 (pc' := 119) (l' := [(0, .inr (.inr 407)), (1, .inr (.inr e)), (2, .inl a), (3, .inl b), (4, .inr (.inr t59))]) (st' := [.inr (.inr (e + 1)), .inr (.inr t63)]) rfl ?_
      refine h_cv (i := 64) (j := 55) (b := t63) (M' := mt_55) (xs := [.inr (.inr (e + 1))]) (rest := []) rfl rfl rfl rfl (by rw [zs_K k64.1 (iT0 k64)]; rfl) rfl (Nat.le_of_ble_eq_true rfl) (Nat.le_of_ble_eq_true rfl) (by omega) (k_Term_copy (by omega) hI1 k64 (iEl he)) ?_
      rintro _ H68 ⟨rfl, hI69, hq70⟩
      have hf71 : fq [(407, 2), (407, 3), (407, 4), (407, 5), (407, 6), (407, 7), (407, 8)] [409] true H H68 := fq_t hf1 hq70 rfl rfl rfl
      refine k_run 0 (pc' := 122) (l' := [(0, .inr (.inr 407)), (1, .inr (.inr e)), (2, .inl a), (3, .inl b), (4, .inr (.inr t59))]) (st' := []) rfl ?_
      refine k_run 1 (pc' := 124) (l' := [(0, .inr (.inr 407)), (1, .inr (.inr e)), (2, .inl a), (3, .inl b), (4, .inr (.inr t59))]) (st' := [.inr (.inr t59)]) rfl ?_
      refine k_get (a := t59) (x := (kGo t59)) (v := .inr (.inr (t59 + 1))) rfl rfl k60.1 (iG0 k60) rfl rfl rfl ?_
      refine k_run 0 (pc' := 127) (l' := [(0, .inr (.inr 407)), (1, .inr (.inr e)), (2, .inl a), (3, .inl b), (4, .inr (.inr t59))]) (st' := [.inr (.inr (t59 + 1))]) rfl ?_
      refine k_run 1 (pc' := 128) (l' := [(0, .inr (.inr 407)), (1, .inr (.inr e)), (2, .inl a), (3, .inl b), (4, .inr (.inr t59))]) (st' := [.inl 1, .inr (.inr (t59 + 1))]) rfl ?_
      refine k_ald (c := (t59 + 1)) (j := 1) (i := 1) (x := kGt) rfl k60.2.1 (iG1 k60) rfl (by decide) rfl (by decide) hI69 (fun h72 => ?_)
      obtain ⟨t73, et75⟩ : ∃ t9, t9 = H68.2 (t59 + 1) 1 := ⟨_, rfl⟩
      rw [← et75] at h72 ⊢
      obtain ⟨n76, k74⟩ := (show (∃ n, isT t73 n) ∧ 369 < t73 from h72).1
      have k74b := k74.2.2.2.2
      refine k_run 0 (pc' := 129) (l' := [(0, .inr (.inr 407)), (1, .inr (.inr e)), (2, .inl a), (3, .inl b), (4, .inr (.inr t59))]) (st' := [.inr (.inr t73)]) rfl ?_
      refine k_run 1 (pc' := 130) (l' := [(0, .inr (.inr 407)), (1, .inr (.inr e)), (2, .inl a), (3, .inl b), (4, .inr (.inr t59))]) (st' := [.inr (.inr e), .inr (.inr t73)]) rfl ?_
      refine k_get (a := e) (x := (kEo e)) (v := .inr (.inr (e + 3))) rfl rfl he.1 (iE0 he) rfl rfl rfl ?_
      refine k_run 0 (pc' := 133) (l' := [(0, .inr (.inr 407)), (1, .inr (.inr e)), (2, .inl a), (3, .inl b), (4, .inr (.inr t59))]) (st' := [.inr (.inr (e + 3)), .inr (.inr t73)]) rfl ?_
      refine h_cv (i := 64) (j := 55) (b := t73) (M' := mt_55) (xs := [.inr (.inr (e + 3))]) (rest := []) rfl rfl rfl rfl (by rw [zs_K k74.1 (iT0 k74)]; rfl) rfl (Nat.le_of_ble_eq_true rfl) (Nat.le_of_ble_eq_true rfl) (by omega) (k_Term_copy (by omega) hI69 k74 (iEr he)) ?_
      rintro _ H78 ⟨rfl, hI79, hq80⟩
      have hf81 : fq [(407, 2), (407, 3), (407, 4), (407, 5), (407, 6), (407, 7), (407, 8)] [409] true H H78 := fq_t hf71 hq80 rfl rfl rfl
      refine k_run 0 (pc' := 136) (l' := [(0, .inr (.inr 407)), (1, .inr (.inr e)), (2, .inl a), (3, .inl b), (4, .inr (.inr t59))]) (st' := []) rfl ?_
      refine k_run 2 (pc' := 139) (l' := [(0, .inr (.inr 407)), (1, .inr (.inr e)), (2, .inl a), (3, .inl b), (4, .inr (.inr t59))]) (st' := [.inl 0, .inr (.inr t59)]) rfl ?_
      refine k_puti (z := 0) (a := t59) (x := (kGo t59)) rfl rfl k60.1 (iG0 k60) k60.2.2.2.1 rfl rfl rfl rfl hI79 (by decide) (show 0 ≤ (0 : Int) ∧ (0 : Int) ≤ 8 by omega) (fun H82 hI83 hw84 hv85 => ?_)
      have hf86 : fq [(407, 2), (407, 3), (407, 4), (407, 5), (407, 6), (407, 7), (407, 8)] [409] true H H82 := fq_w hf81 hw84 (fpg (iGf k60))
      refine k_run 0 (pc' := 142) (l' := [(0, .inr (.inr 407)), (1, .inr (.inr e)), (2, .inl a), (3, .inl b), (4, .inr (.inr t59))]) (st' := []) rfl ?_
      refine k_run 2 (pc' := 145) (l' := [(0, .inr (.inr 407)), (1, .inr (.inr e)), (2, .inl a), (3, .inl b), (4, .inr (.inr t59))]) (st' := [.inl 0, .inr (.inr t59)]) rfl ?_
      refine k_putw (a := t59) (x := (kGo t59)) rfl rfl k60.1 (iG0 k60) k60.2.2.2.1 rfl rfl rfl rfl hI83 rfl (fun H87 hI88 hw89 => ?_)
      have hf91 : fq [(407, 2), (407, 3), (407, 4), (407, 5), (407, 6), (407, 7), (407, 8)] [409] true H H87 := fq_w hf86 hw89 (fpg (iGf k60))
      refine k_run 0 (pc' := 148) (l' := [(0, .inr (.inr 407)), (1, .inr (.inr e)), (2, .inl a), (3, .inl b), (4, .inr (.inr t59))]) (st' := []) rfl ?_
      refine h_ret rfl rfl ?_
      exact ⟨rfl, hI88, hf91⟩
    · refine k_run 0 (pc' := 70) (l' := [(0, .inr (.inr 407)), (1, .inr (.inr e)), (2, .inl a), (3, .inl b), (4, .inl x4)]) (st' := []) rfl ?_
      refine k_run 2 (pc' := 73) (l' := [(0, .inr (.inr 407)), (1, .inr (.inr e)), (2, .inl a), (3, .inl b), (4, .inl x4)]) (st' := [.inr (.inr e), .inl x4]) rfl ?_
      refine k_get (a := e) (x := (kEo e)) (v := .inr (.inr (e + 5))) rfl rfl he.1 (iE0 he) rfl rfl rfl ?_
      refine k_run 0 (pc' := 76) (l' := [(0, .inr (.inr 407)), (1, .inr (.inr e)), (2, .inl a), (3, .inl b), (4, .inl x4)]) (st' := [.inr (.inr (e + 5)), .inl x4]) rfl ?_
      refine k_alen (c := (e + 5)) (x := kEt) rfl he.2.1 (iE5 he) rfl ?_
      refine k_run 0 (pc' := 77) (l' := [(0, .inr (.inr 407)), (1, .inr (.inr e)), (2, .inl a), (3, .inl b), (4, .inl x4)]) (st' := [.inl 40, .inl x4]) rfl ?_
      refine h_ige (off := 23) (t := 100) rfl rfl (by omega) (by decide) (fun c92 => ?_) (fun c92 => ?_)
      · refine k_run 0 (pc' := 100) (l' := [(0, .inr (.inr 407)), (1, .inr (.inr e)), (2, .inl a), (3, .inl b), (4, .inl x4)]) (st' := []) rfl ?_
        refine k_run 3 (pc' := 105) (l' := [(0, .inr (.inr 407)), (1, .inr (.inr e)), (2, .inl a), (3, .inl b), (4, .inl x4)]) (st' := [.inl 0, .inr (.inr 408)]) rfl ?_
        refine k_ald (c := 408) (j := 0) (i := 0) (x := kx_408) rfl rfl (by decide) rfl (by decide) rfl (by decide) hI1 (fun h93 => ?_)
        obtain ⟨t94, et96⟩ : ∃ t9, t9 = H1.2 408 0 := ⟨_, rfl⟩
        rw [← et96] at h93 ⊢
        have k95 : isG t94 := h93
        refine k_run 0 (pc' := 106) (l' := [(0, .inr (.inr 407)), (1, .inr (.inr e)), (2, .inl a), (3, .inl b), (4, .inl x4)]) (st' := [.inr (.inr t94)]) rfl ?_
        refine k_run 2 (pc' := 110) (l' := [(0, .inr (.inr 407)), (1, .inr (.inr e)), (2, .inl a), (3, .inl b), (4, .inr (.inr t94))]) (st' := [.inr (.inr t94)]) rfl ?_
        refine k_get (a := t94) (x := (kGo t94)) (v := .inr (.inr (t94 + 1))) rfl rfl k95.1 (iG0 k95) rfl rfl rfl ?_
        refine k_run 0 (pc' := 113) (l' := [(0, .inr (.inr 407)), (1, .inr (.inr e)), (2, .inl a), (3, .inl b), (4, .inr (.inr t94))]) (st' := [.inr (.inr (t94 + 1))]) rfl ?_
        refine k_run 1 (pc' := 114) (l' := [(0, .inr (.inr 407)), (1, .inr (.inr e)), (2, .inl a), (3, .inl b), (4, .inr (.inr t94))]) (st' := [.inl 0, .inr (.inr (t94 + 1))]) rfl ?_
        refine k_ald (c := (t94 + 1)) (j := 0) (i := 0) (x := kGt) rfl k95.2.1 (iG1 k95) rfl (by decide) rfl (by decide) hI1 (fun h97 => ?_)
        obtain ⟨t98, et100⟩ : ∃ t9, t9 = H1.2 (t94 + 1) 0 := ⟨_, rfl⟩
        rw [← et100] at h97 ⊢
        obtain ⟨n101, k99⟩ := (show (∃ n, isT t98 n) ∧ 369 < t98 from h97).1
        have k99b := k99.2.2.2.2
        refine k_run 0 (pc' := 115) (l' := [(0, .inr (.inr 407)), (1, .inr (.inr e)), (2, .inl a), (3, .inl b), (4, .inr (.inr t94))]) (st' := [.inr (.inr t98)]) rfl ?_
        refine k_run 1 (pc' := 116) (l' := [(0, .inr (.inr 407)), (1, .inr (.inr e)), (2, .inl a), (3, .inl b), (4, .inr (.inr t94))]) (st' := [.inr (.inr e), .inr (.inr t98)]) rfl ?_
        refine k_get (a := e) (x := (kEo e)) (v := .inr (.inr (e + 1))) rfl rfl he.1 (iE0 he) rfl rfl rfl ?_
        refine k_run 0 (pc' := 119) (l' := [(0, .inr (.inr 407)), (1, .inr (.inr e)), (2, .inl a), (3, .inl b), (4, .inr (.inr t94))]) (st' := [.inr (.inr (e + 1)), .inr (.inr t98)]) rfl ?_
        refine h_cv (i := 64) (j := 55) (b := t98) (M' := mt_55) (xs := [.inr (.inr (e + 1))]) (rest := []) rfl rfl rfl rfl (by rw [zs_K k99.1 (iT0 k99)]; rfl) rfl (Nat.le_of_ble_eq_true rfl) (Nat.le_of_ble_eq_true rfl) (by omega) (k_Term_copy (by omega) hI1 k99 (iEl he)) ?_
        rintro _ H103 ⟨rfl, hI104, hq105⟩
        have hf106 : fq [(407, 2), (407, 3), (407, 4), (407, 5), (407, 6), (407, 7), (407, 8)] [409] true H H103 := fq_t hf1 hq105 rfl rfl rfl
        refine k_run 0 (pc' := 122) (l' := [(0, .inr (.inr 407)), (1, .inr (.inr e)), (2, .inl a), (3, .inl b), (4, .inr (.inr t94))]) (st' := []) rfl ?_
        refine k_run 1 (pc' := 124) (l' := [(0, .inr (.inr 407)), (1, .inr (.inr e)), (2, .inl a), (3, .inl b), (4, .inr (.inr t94))]) (st' := [.inr (.inr t94)]) rfl ?_
        refine k_get (a := t94) (x := (kGo t94)) (v := .inr (.inr (t94 + 1))) rfl rfl k95.1 (iG0 k95) rfl rfl rfl ?_
        refine k_run 0 (pc' := 127) (l' := [(0, .inr (.inr 407)), (1, .inr (.inr e)), (2, .inl a), (3, .inl b), (4, .inr (.inr t94))]) (st' := [.inr (.inr (t94 + 1))]) rfl ?_
        refine k_run 1 (pc' := 128) (l' := [(0, .inr (.inr 407)), (1, .inr (.inr e)), (2, .inl a), (3, .inl b), (4, .inr (.inr t94))]) (st' := [.inl 1, .inr (.inr (t94 + 1))]) rfl ?_
        refine k_ald (c := (t94 + 1)) (j := 1) (i := 1) (x := kGt) rfl k95.2.1 (iG1 k95) rfl (by decide) rfl (by decide) hI104 (fun h107 => ?_)
        obtain ⟨t108, et110⟩ : ∃ t9, t9 = H103.2 (t94 + 1) 1 := ⟨_, rfl⟩
        rw [← et110] at h107 ⊢
        obtain ⟨n111, k109⟩ := (show (∃ n, isT t108 n) ∧ 369 < t108 from h107).1
        have k109b := k109.2.2.2.2
        refine k_run 0 (pc' := 129) (l' := [(0, .inr (.inr 407)), (1, .inr (.inr e)), (2, .inl a), (3, .inl b), (4, .inr (.inr t94))]) (st' := [.inr (.inr t108)]) rfl ?_
        refine k_run 1 (pc' := 130) (l' := [(0, .inr (.inr 407)), (1, .inr (.inr e)), (2, .inl a), (3, .inl b), (4, .inr (.inr t94))]) (st' := [.inr (.inr e), .inr (.inr t108)]) rfl ?_
        refine k_get (a := e) (x := (kEo e)) (v := .inr (.inr (e + 3))) rfl rfl he.1 (iE0 he) rfl rfl rfl ?_
        refine k_run 0 (pc' := 133) (l' := [(0, .inr (.inr 407)), (1, .inr (.inr e)), (2, .inl a), (3, .inl b), (4, .inr (.inr t94))]) (st' := [.inr (.inr (e + 3)), .inr (.inr t108)]) rfl ?_
        refine h_cv (i := 64) (j := 55) (b := t108) (M' := mt_55) (xs := [.inr (.inr (e + 3))]) (rest := []) rfl rfl rfl rfl (by rw [zs_K k109.1 (iT0 k109)]; rfl) rfl (Nat.le_of_ble_eq_true rfl) (Nat.le_of_ble_eq_true rfl) (by omega) (k_Term_copy (by omega) hI104 k109 (iEr he)) ?_
        rintro _ H113 ⟨rfl, hI114, hq115⟩
        have hf116 : fq [(407, 2), (407, 3), (407, 4), (407, 5), (407, 6), (407, 7), (407, 8)] [409] true H H113 := fq_t hf106 hq115 rfl rfl rfl
        refine k_run 0 (pc' := 136) (l' := [(0, .inr (.inr 407)), (1, .inr (.inr e)), (2, .inl a), (3, .inl b), (4, .inr (.inr t94))]) (st' := []) rfl ?_
        refine k_run 2 (pc' := 139) (l' := [(0, .inr (.inr 407)), (1, .inr (.inr e)), (2, .inl a), (3, .inl b), (4, .inr (.inr t94))]) (st' := [.inl 0, .inr (.inr t94)]) rfl ?_
        refine k_puti (z := 0) (a := t94) (x := (kGo t94)) rfl rfl k95.1 (iG0 k95) k95.2.2.2.1 rfl rfl rfl rfl hI114 (by decide) (show 0 ≤ (0 : Int) ∧ (0 : Int) ≤ 8 by omega) (fun H117 hI118 hw119 hv120 => ?_)
        have hf121 : fq [(407, 2), (407, 3), (407, 4), (407, 5), (407, 6), (407, 7), (407, 8)] [409] true H H117 := fq_w hf116 hw119 (fpg (iGf k95))
        refine k_run 0 (pc' := 142) (l' := [(0, .inr (.inr 407)), (1, .inr (.inr e)), (2, .inl a), (3, .inl b), (4, .inr (.inr t94))]) (st' := []) rfl ?_
        refine k_run 2 (pc' := 145) (l' := [(0, .inr (.inr 407)), (1, .inr (.inr e)), (2, .inl a), (3, .inl b), (4, .inr (.inr t94))]) (st' := [.inl 0, .inr (.inr t94)]) rfl ?_
        refine k_putw (a := t94) (x := (kGo t94)) rfl rfl k95.1 (iG0 k95) k95.2.2.2.1 rfl rfl rfl rfl hI118 rfl (fun H122 hI123 hw124 => ?_)
        have hf126 : fq [(407, 2), (407, 3), (407, 4), (407, 5), (407, 6), (407, 7), (407, 8)] [409] true H H122 := fq_w hf121 hw124 (fpg (iGf k95))
        refine k_run 0 (pc' := 148) (l' := [(0, .inr (.inr 407)), (1, .inr (.inr e)), (2, .inl a), (3, .inl b), (4, .inr (.inr t94))]) (st' := []) rfl ?_
        refine h_ret rfl rfl ?_
        exact ⟨rfl, hI123, hf126⟩
      · refine k_run 0 (pc' := 80) (l' := [(0, .inr (.inr 407)), (1, .inr (.inr e)), (2, .inl a), (3, .inl b), (4, .inl x4)]) (st' := []) rfl ?_
        refine k_run 4 (pc' := 87) (l' := [(0, .inr (.inr 407)), (1, .inr (.inr e)), (2, .inl a), (3, .inl b), (4, .inl x4)]) (st' := [.inr (.inr e), .inl x4, .inr (.inr 409)]) rfl ?_
        refine k_get (a := e) (x := (kEo e)) (v := .inr (.inr (e + 5))) rfl rfl he.1 (iE0 he) rfl rfl rfl ?_
        refine k_run 0 (pc' := 90) (l' := [(0, .inr (.inr 407)), (1, .inr (.inr e)), (2, .inl a), (3, .inl b), (4, .inl x4)]) (st' := [.inr (.inr (e + 5)), .inl x4, .inr (.inr 409)]) rfl ?_
        refine k_run 1 (pc' := 92) (l' := [(0, .inr (.inr 407)), (1, .inr (.inr e)), (2, .inl a), (3, .inl b), (4, .inl x4)]) (st' := [.inl x4, .inr (.inr (e + 5)), .inl x4, .inr (.inr 409)]) rfl ?_
        refine k_ild (c := (e + 5)) (j := (x4).toNat) (i := x4) (x := kEt) rfl he.2.1 (iE5 he) rfl (by decide) (by omega) (by omega) ?_
        have g127 : -2 ≤ (H1.1 (e + 5) (x4).toNat) ∧ (H1.1 (e + 5) (x4).toNat) ≤ 100 := kn hI1 he.2.1 (x4).toNat
        refine k_run 0 (pc' := 93) (l' := [(0, .inr (.inr 407)), (1, .inr (.inr e)), (2, .inl a), (3, .inl b), (4, .inl x4)]) (st' := [.inl (H1.1 (e + 5) (x4).toNat), .inl x4, .inr (.inr 409)]) rfl ?_
        refine k_ist (z := (H1.1 (e + 5) (x4).toNat)) (c := 409) (j := (x4).toNat) (i := x4) (x := kx_409) rfl rfl (by decide) (by decide) rfl (by decide) (by omega) (by omega) hI1 (by omega) (show -2 ≤ (H1.1 (e + 5) (x4).toNat) ∧ (H1.1 (e + 5) (x4).toNat) ≤ 100 by omega) (fun H128 hI129 hw130 hv131 => ?_)
        have hf132 : fq [(407, 2), (407, 3), (407, 4), (407, 5), (407, 6), (407, 7), (407, 8)] [409] true H H128 := fq_w hf1 hw130 (fpa (by decide) rfl)
        refine k_run 0 (pc' := 94) (l' := [(0, .inr (.inr 407)), (1, .inr (.inr e)), (2, .inl a), (3, .inl b), (4, .inl x4)]) (st' := []) rfl ?_
        refine k_run 2 (pc' := 61) (l' := [(0, .inr (.inr 407)), (1, .inr (.inr e)), (2, .inl a), (3, .inl b), (4, .inl (x4 + 1))]) (st' := []) rfl ?_
        exact ih H128 hI129 hf132 (x4 + 1) (by omega) (by omega) (by omega)
set_option maxRecDepth 100000 in
theorem k_Proof_start {d : Nat} (hd : 2 ≤ d) {H : hp} (hI : Inv H) {e : Nat} {a : Int} {b : Int} (he : isE e) (ha : -2147483648 ≤ a ∧ a ≤ 2147483647) (hb : 0 ≤ b ∧ b ≤ 1) : hG (zs zK) d mt_145 0 (zargs 0 [.inr (.inr 407), .inr (.inr e), .inl a, .inl b]) [] H (fun r9 H9 => r9 = none ∧ Inv H9 ∧ fq [(407, 2), (407, 3), (407, 4), (407, 5), (407, 6), (407, 7), (407, 8)] [409] true H H9) := by
  refine k_run 0 (pc' := 0) (l' := [(0, .inr (.inr 407)), (1, .inr (.inr e)), (2, .inl a), (3, .inl b)]) (st' := []) rfl ?_
  refine k_run 2 (pc' := 2) (l' := [(0, .inr (.inr 407)), (1, .inr (.inr e)), (2, .inl a), (3, .inl b)]) (st' := [.inl a, .inr (.inr 407)]) rfl ?_
  refine k_putw (a := 407) (x := kx_407) rfl rfl rfl (by decide) (by decide) rfl rfl rfl rfl hI rfl (fun H1 hI2 hw3 => ?_)
  have hf5 : fq [(407, 2), (407, 3), (407, 4), (407, 5), (407, 6), (407, 7), (407, 8)] [409] true H H1 := fq_w (fq_rf _ _ _ _) hw3 (fpo (by decide) rfl)
  refine k_run 0 (pc' := 5) (l' := [(0, .inr (.inr 407)), (1, .inr (.inr e)), (2, .inl a), (3, .inl b)]) (st' := []) rfl ?_
  refine k_run 2 (pc' := 7) (l' := [(0, .inr (.inr 407)), (1, .inr (.inr e)), (2, .inl a), (3, .inl b)]) (st' := [.inl b, .inr (.inr 407)]) rfl ?_
  refine k_putz (z := b) (a := 407) (x := kx_407) rfl rfl rfl (by decide) (by decide) rfl rfl rfl rfl hI2 (by omega) rfl (fun H6 hI7 hw8 hv9 => ?_)
  have hf10 : fq [(407, 2), (407, 3), (407, 4), (407, 5), (407, 6), (407, 7), (407, 8)] [409] true H H6 := fq_w hf5 hw8 (fpo (by decide) rfl)
  refine k_run 0 (pc' := 10) (l' := [(0, .inr (.inr 407)), (1, .inr (.inr e)), (2, .inl a), (3, .inl b)]) (st' := []) rfl ?_
  refine k_run 2 (pc' := 12) (l' := [(0, .inr (.inr 407)), (1, .inr (.inr e)), (2, .inl a), (3, .inl b)]) (st' := [.inl 0, .inr (.inr 407)]) rfl ?_
  refine k_putw (a := 407) (x := kx_407) rfl rfl rfl (by decide) (by decide) rfl rfl rfl rfl hI7 rfl (fun H11 hI12 hw13 => ?_)
  have hf15 : fq [(407, 2), (407, 3), (407, 4), (407, 5), (407, 6), (407, 7), (407, 8)] [409] true H H11 := fq_w hf10 hw13 (fpo (by decide) rfl)
  refine k_run 0 (pc' := 15) (l' := [(0, .inr (.inr 407)), (1, .inr (.inr e)), (2, .inl a), (3, .inl b)]) (st' := []) rfl ?_
  refine k_run 2 (pc' := 17) (l' := [(0, .inr (.inr 407)), (1, .inr (.inr e)), (2, .inl a), (3, .inl b)]) (st' := [.inl 1, .inr (.inr 407)]) rfl ?_
  refine k_puti (z := 1) (a := 407) (x := kx_407) rfl rfl rfl (by decide) (by decide) rfl rfl rfl rfl hI12 (by decide) (show 0 ≤ (1 : Int) ∧ (1 : Int) ≤ 12 by omega) (fun H16 hI17 hw18 hv19 => ?_)
  have hf20 : fq [(407, 2), (407, 3), (407, 4), (407, 5), (407, 6), (407, 7), (407, 8)] [409] true H H16 := fq_w hf15 hw18 (fpo (by decide) rfl)
  refine k_run 0 (pc' := 20) (l' := [(0, .inr (.inr 407)), (1, .inr (.inr e)), (2, .inl a), (3, .inl b)]) (st' := []) rfl ?_
  refine k_run 2 (pc' := 22) (l' := [(0, .inr (.inr 407)), (1, .inr (.inr e)), (2, .inl a), (3, .inl b)]) (st' := [.inr (.inr e), .inr (.inr 407)]) rfl ?_
  refine k_get (a := e) (x := (kEo e)) (v := .inl (H16.1 e 3)) rfl rfl he.1 (iE0 he) rfl rfl rfl ?_
  have g21 : 0 ≤ (H16.1 e 3) ∧ (H16.1 e 3) ≤ 40 := kn hI17 he.1 3
  have e22 : (H16.1 e 3) = (H11.1 e 3) := hw18.2 _ _ (fun q => by have h9 := (iEf he); rw [q.1] at h9; exact absurd h9 (by decide))
  have e23 : (H11.1 e 3) = (H6.1 e 3) := hw13.2 _ _ (fun q => by have h9 := (iEf he); rw [q.1] at h9; exact absurd h9 (by decide))
  have e24 : (H6.1 e 3) = (H1.1 e 3) := hw8.2 _ _ (fun q => by have h9 := (iEf he); rw [q.1] at h9; exact absurd h9 (by decide))
  have e25 : (H1.1 e 3) = (H.1 e 3) := hw3.2 _ _ (fun q => by have h9 := (iEf he); rw [q.1] at h9; exact absurd h9 (by decide))
  refine k_run 0 (pc' := 25) (l' := [(0, .inr (.inr 407)), (1, .inr (.inr e)), (2, .inl a), (3, .inl b)]) (st' := [.inl (H16.1 e 3), .inr (.inr 407)]) rfl ?_
  refine k_run 1 (pc' := 27) (l' := [(0, .inr (.inr 407)), (1, .inr (.inr e)), (2, .inl a), (3, .inl b)]) (st' := [.inl 60, .inl (H16.1 e 3), .inr (.inr 407)]) rfl ?_
  refine k_min (i := 41) (x := (H16.1 e 3)) (y := 60) rfl rfl (Nat.le_of_ble_eq_true rfl) (by omega) (by omega) (by decide) (fun z26 hz26 => ?_)
  refine k_run 0 (pc' := 30) (l' := [(0, .inr (.inr 407)), (1, .inr (.inr e)), (2, .inl a), (3, .inl b)]) (st' := [.inl z26, .inr (.inr 407)]) rfl ?_
  refine k_puti (z := z26) (a := 407) (x := kx_407) rfl rfl rfl (by decide) (by decide) rfl rfl rfl rfl hI17 (by omega) (show 0 ≤ z26 ∧ z26 ≤ 60 by omega) (fun H27 hI28 hw29 hv30 => ?_)
  have hf31 : fq [(407, 2), (407, 3), (407, 4), (407, 5), (407, 6), (407, 7), (407, 8)] [409] true H H27 := fq_w hf20 hw29 (fpo (by decide) rfl)
  refine k_run 0 (pc' := 33) (l' := [(0, .inr (.inr 407)), (1, .inr (.inr e)), (2, .inl a), (3, .inl b)]) (st' := []) rfl ?_
  refine k_run 2 (pc' := 35) (l' := [(0, .inr (.inr 407)), (1, .inr (.inr e)), (2, .inl a), (3, .inl b)]) (st' := [.inl b, .inr (.inr 407)]) rfl ?_
  refine h_zeq (off := 7) (t := 42) rfl rfl (by omega) (fun c32 => ?_) (fun c32 => ?_)
  · refine k_run 0 (pc' := 42) (l' := [(0, .inr (.inr 407)), (1, .inr (.inr e)), (2, .inl a), (3, .inl b)]) (st' := [.inr (.inr 407)]) rfl ?_
    refine k_run 3 (pc' := 47) (l' := [(0, .inr (.inr 407)), (1, .inr (.inr e)), (2, .inl a), (3, .inl b)]) (st' := [.inl (H27.1 407 6), .inr (.inl 1), .inr (.inr 407)]) rfl ?_
    have g33 : 0 ≤ (H27.1 407 6) ∧ (H27.1 407 6) ≤ 60 := kn (x := kx_407) hI28 rfl 6
    refine k_run 1 (pc' := 48) (l' := [(0, .inr (.inr 407)), (1, .inr (.inr e)), (2, .inl a), (3, .inl b)]) (st' := [.inr (.inl (z_lshl 1 (H27.1 407 6))), .inr (.inr 407)]) rfl ?_
    refine k_nrmj (fun y34 hy34 => ?_)
    refine k_run 2 (pc' := 50) (l' := [(0, .inr (.inr 407)), (1, .inr (.inr e)), (2, .inl a), (3, .inl b)]) (st' := [.inr (.inl (y34 - 1)), .inr (.inr 407)]) rfl ?_
    refine k_nrmj (fun y35 hy35 => ?_)
    refine k_putl (a := 407) (x := kx_407) rfl rfl rfl (by decide) (by decide) rfl rfl rfl rfl hI28 rfl (fun H36 hI37 hw38 => ?_)
    have hf40 : fq [(407, 2), (407, 3), (407, 4), (407, 5), (407, 6), (407, 7), (407, 8)] [409] true H H36 := fq_w hf31 hw38 (fpo (by decide) rfl)
    refine k_run 0 (pc' := 53) (l' := [(0, .inr (.inr 407)), (1, .inr (.inr e)), (2, .inl a), (3, .inl b)]) (st' := []) rfl ?_
    refine k_run 2 (pc' := 55) (l' := [(0, .inr (.inr 407)), (1, .inr (.inr e)), (2, .inl a), (3, .inl b)]) (st' := [.inr (.inl 0), .inr (.inr 407)]) rfl ?_
    refine k_putl (a := 407) (x := kx_407) rfl rfl rfl (by decide) (by decide) rfl rfl rfl rfl hI37 rfl (fun H41 hI42 hw43 => ?_)
    have hf45 : fq [(407, 2), (407, 3), (407, 4), (407, 5), (407, 6), (407, 7), (407, 8)] [409] true H H41 := fq_w hf40 hw43 (fpo (by decide) rfl)
    refine k_run 0 (pc' := 58) (l' := [(0, .inr (.inr 407)), (1, .inr (.inr e)), (2, .inl a), (3, .inl b)]) (st' := []) rfl ?_
    refine k_run 2 (pc' := 61) (l' := [(0, .inr (.inr 407)), (1, .inr (.inr e)), (2, .inl a), (3, .inl b), (4, .inl 0)]) (st' := []) rfl ?_
    exact (k_Proof_start_cut hd hI he ha hb _) H41 hI42 hf45 (0 : Int) (by decide) (by omega) (Nat.lt_succ_self _)
  · refine k_run 0 (pc' := 38) (l' := [(0, .inr (.inr 407)), (1, .inr (.inr e)), (2, .inl a), (3, .inl b)]) (st' := [.inr (.inr 407)]) rfl ?_
    refine k_run 2 (pc' := 50) (l' := [(0, .inr (.inr 407)), (1, .inr (.inr e)), (2, .inl a), (3, .inl b)]) (st' := [.inr (.inl 0), .inr (.inr 407)]) rfl ?_
    refine k_putl (a := 407) (x := kx_407) rfl rfl rfl (by decide) (by decide) rfl rfl rfl rfl hI28 rfl (fun H46 hI47 hw48 => ?_)
    have hf50 : fq [(407, 2), (407, 3), (407, 4), (407, 5), (407, 6), (407, 7), (407, 8)] [409] true H H46 := fq_w hf31 hw48 (fpo (by decide) rfl)
    refine k_run 0 (pc' := 53) (l' := [(0, .inr (.inr 407)), (1, .inr (.inr e)), (2, .inl a), (3, .inl b)]) (st' := []) rfl ?_
    refine k_run 2 (pc' := 55) (l' := [(0, .inr (.inr 407)), (1, .inr (.inr e)), (2, .inl a), (3, .inl b)]) (st' := [.inr (.inl 0), .inr (.inr 407)]) rfl ?_
    refine k_putl (a := 407) (x := kx_407) rfl rfl rfl (by decide) (by decide) rfl rfl rfl rfl hI47 rfl (fun H51 hI52 hw53 => ?_)
    have hf55 : fq [(407, 2), (407, 3), (407, 4), (407, 5), (407, 6), (407, 7), (407, 8)] [409] true H H51 := fq_w hf50 hw53 (fpo (by decide) rfl)
    refine k_run 0 (pc' := 58) (l' := [(0, .inr (.inr 407)), (1, .inr (.inr e)), (2, .inl a), (3, .inl b)]) (st' := []) rfl ?_
    refine k_run 2 (pc' := 61) (l' := [(0, .inr (.inr 407)), (1, .inr (.inr e)), (2, .inl a), (3, .inl b), (4, .inl 0)]) (st' := []) rfl ?_
    exact (k_Proof_start_cut hd hI he ha hb _) H51 hI52 hf55 (0 : Int) (by decide) (by omega) (Nat.lt_succ_self _)

/-! Proof.isFixed -/
set_option maxRecDepth 100000 in
theorem k_Proof_isFixed {d : Nat} (hd : 1 ≤ d) {H : hp} (hI : Inv H) {a : Int} (ha : -2147483648 ≤ a ∧ a ≤ 2147483647) : hG (zs zK) d mt_146 0 (zargs 0 [.inr (.inr 407), .inl a]) [] H (fun r9 H9 => ∃ z : Int, r9 = some (.inl z) ∧ ((0 ≤ z ∧ z ≤ 1)) ∧ H = H9) := by
  refine k_run 0 (pc' := 0) (l' := [(0, .inr (.inr 407)), (1, .inl a)]) (st' := []) rfl ?_
  refine k_run 2 (pc' := 4) (l' := [(0, .inr (.inr 407)), (1, .inl a)]) (st' := [.inr (.inl (H.1 407 8))]) rfl ?_
  have g1 : -9223372036854775808 ≤ (H.1 407 8) ∧ (H.1 407 8) ≤ 9223372036854775807 := kn (x := kx_407) hI rfl 8
  refine k_run 2 (pc' := 6) (l' := [(0, .inr (.inr 407)), (1, .inl a)]) (st' := [.inr (.inl (z_lshr (H.1 407 8) a))]) rfl ?_
  refine k_nrmj (fun y2 hy2 => ?_)
  refine k_run 2 (pc' := 8) (l' := [(0, .inr (.inr 407)), (1, .inl a)]) (st' := [.inr (.inl (z_land y2 1))]) rfl ?_
  refine k_nrmj (fun y3 hy3 => ?_)
  refine k_run 2 (pc' := 10) (l' := [(0, .inr (.inr 407)), (1, .inl a)]) (st' := [.inl (z_cmp y3 1)]) rfl ?_
  refine k_nrm (fun y4 hy4 => ?_)
  refine k_run 0 (pc' := 10) (l' := [(0, .inr (.inr 407)), (1, .inl a)]) (st' := [.inl y4]) rfl ?_
  refine h_zne (off := 7) (t := 17) rfl rfl (by omega) (fun c5 => ?_) (fun c5 => ?_)
  · refine k_run 0 (pc' := 17) (l' := [(0, .inr (.inr 407)), (1, .inl a)]) (st' := []) rfl ?_
    refine k_run 1 (pc' := 18) (l' := [(0, .inr (.inr 407)), (1, .inl a)]) (st' := [.inl 0]) rfl ?_
    refine h_retz (x := 0) rfl rfl (by decide) ?_
    exact ⟨_, rfl, (by omega), rfl⟩
  · refine k_run 0 (pc' := 13) (l' := [(0, .inr (.inr 407)), (1, .inl a)]) (st' := []) rfl ?_
    refine k_run 2 (pc' := 18) (l' := [(0, .inr (.inr 407)), (1, .inl a)]) (st' := [.inl 1]) rfl ?_
    refine h_retz (x := 1) rfl rfl (by decide) ?_
    exact ⟨_, rfl, (by omega), rfl⟩

/-! Proof.copy -/
set_option maxRecDepth 100000 in
theorem k_Proof_copy_407_cut {d : Nat} (hd : 4 ≤ d) {H : hp} (hI : Inv H)   : ∀ w : Nat, (∀ (H1 : hp), Inv H1 → fq [(407, 2), (407, 3), (407, 4), (407, 5), (407, 6), (407, 7), (407, 8)] [409] true H H1 → ∀ (x2 : Int) , (-2147483648 ≤ x2 ∧ x2 ≤ 2147483647) → (0 ≤ x2 ∧ x2 ≤ 60) → (((1000 - x2).toNat) < w) → hG (zs zK) d mt_147 58 [(0, .inr (.inr 407)), (1, .inr (.inr 878)), (2, .inl x2)] [] H1 (fun r9 H9 => r9 = none ∧ Inv H9 ∧ fq [(407, 2), (407, 3), (407, 4), (407, 5), (407, 6), (407, 7), (407, 8)] [409] true H H9)) ∧ (∀ (H1 : hp), Inv H1 → fq [(407, 2), (407, 3), (407, 4), (407, 5), (407, 6), (407, 7), (407, 8)] [409] true H H1 → ∀ (x2 : Int) , (-2147483648 ≤ x2 ∧ x2 ≤ 2147483647) → (0 ≤ x2) → (((100 - x2).toNat) < w) → hG (zs zK) d mt_147 95 [(0, .inr (.inr 407)), (1, .inr (.inr 878)), (2, .inl x2)] [] H1 (fun r9 H9 => r9 = none ∧ Inv H9 ∧ fq [(407, 2), (407, 3), (407, 4), (407, 5), (407, 6), (407, 7), (407, 8)] [409] true H H9)) := by
  intro w
  induction w with
  | zero => exact ⟨fun _ _ _ _ _ _ h => absurd h (Nat.not_lt_zero _), fun _ _ _ _ _ _ h => absurd h (Nat.not_lt_zero _)⟩
  | succ w ih =>
    refine ⟨?_, ?_⟩
    · intro H1 hI1 hf1 x2 hx2 hi0 hw
      refine k_run 3 (pc' := 63) (l' := [(0, .inr (.inr 407)), (1, .inr (.inr 878)), (2, .inl x2)]) (st' := [.inl (H1.1 407 6), .inl x2]) rfl ?_
      have g64 : 0 ≤ (H1.1 407 6) ∧ (H1.1 407 6) ≤ 60 := kn (x := kx_407) hI1 rfl 6
      refine h_ige (off := 30) (t := 93) rfl rfl (by omega) (by omega) (fun c65 => ?_) (fun c65 => ?_)
      · refine k_run 0 (pc' := 93) (l' := [(0, .inr (.inr 407)), (1, .inr (.inr 878)), (2, .inl x2)]) (st' := []) rfl ?_
        refine k_run 2 (pc' := 95) (l' := [(0, .inr (.inr 407)), (1, .inr (.inr 878)), (2, .inl 0)]) (st' := []) rfl ?_
        exact ih.2 H1 hI1 hf1 (0 : Int) (by decide) (by omega) (by omega)
      · refine k_run 0 (pc' := 66) (l' := [(0, .inr (.inr 407)), (1, .inr (.inr 878)), (2, .inl x2)]) (st' := []) rfl ?_
        refine k_run 3 (pc' := 71) (l' := [(0, .inr (.inr 407)), (1, .inr (.inr 878)), (2, .inl x2)]) (st' := [.inr (.inr 409), .inl x2]) rfl ?_
        refine k_alen (c := 409) (x := kx_409) rfl rfl (by decide) rfl ?_
        refine k_run 0 (pc' := 72) (l' := [(0, .inr (.inr 407)), (1, .inr (.inr 878)), (2, .inl x2)]) (st' := [.inl 60, .inl x2]) rfl ?_
        refine h_ige (off := 21) (t := 93) rfl rfl (by omega) (by decide) (fun c66 => ?_) (fun c66 => ?_)
        · refine k_run 0 (pc' := 93) (l' := [(0, .inr (.inr 407)), (1, .inr (.inr 878)), (2, .inl x2)]) (st' := []) rfl ?_
          refine k_run 2 (pc' := 95) (l' := [(0, .inr (.inr 407)), (1, .inr (.inr 878)), (2, .inl 0)]) (st' := []) rfl ?_
          exact ih.2 H1 hI1 hf1 (0 : Int) (by decide) (by omega) (by omega)
        · refine k_run 0 (pc' := 75) (l' := [(0, .inr (.inr 407)), (1, .inr (.inr 878)), (2, .inl x2)]) (st' := []) rfl ?_
          refine k_run 6 (pc' := 85) (l' := [(0, .inr (.inr 407)), (1, .inr (.inr 878)), (2, .inl x2)]) (st' := [.inl x2, .inr (.inr 880), .inl x2, .inr (.inr 409)]) rfl ?_
          refine k_ild (c := 880) (j := (x2).toNat) (i := x2) (x := kx_880) rfl rfl (by decide) rfl (by decide) (by omega) (by omega) ?_
          have g67 : -2 ≤ (H1.1 880 (x2).toNat) ∧ (H1.1 880 (x2).toNat) ≤ 100 := kn (x := kx_880) hI1 rfl (x2).toNat
          have e68 : (H1.1 880 (x2).toNat) = (H.1 880 (x2).toNat) := (hf1.1 880 (x2).toNat rfl (by decide) (fun q => by simp at q)).1
          refine k_run 0 (pc' := 86) (l' := [(0, .inr (.inr 407)), (1, .inr (.inr 878)), (2, .inl x2)]) (st' := [.inl (H1.1 880 (x2).toNat), .inl x2, .inr (.inr 409)]) rfl ?_
          refine k_ist (z := (H1.1 880 (x2).toNat)) (c := 409) (j := (x2).toNat) (i := x2) (x := kx_409) rfl rfl (by decide) (by decide) rfl (by decide) (by omega) (by omega) hI1 (by omega) (show -2 ≤ (H1.1 880 (x2).toNat) ∧ (H1.1 880 (x2).toNat) ≤ 100 by omega) (fun H69 hI70 hw71 hv72 => ?_)
          have hf73 : fq [(407, 2), (407, 3), (407, 4), (407, 5), (407, 6), (407, 7), (407, 8)] [409] true H H69 := fq_w hf1 hw71 (fpa (by decide) rfl)
          refine k_run 0 (pc' := 87) (l' := [(0, .inr (.inr 407)), (1, .inr (.inr 878)), (2, .inl x2)]) (st' := []) rfl ?_
          refine k_run 2 (pc' := 58) (l' := [(0, .inr (.inr 407)), (1, .inr (.inr 878)), (2, .inl (x2 + 1))]) (st' := []) rfl ?_
          exact ih.1 H69 hI70 hf73 (x2 + 1) (by omega) (by omega) (by omega)
    · intro H1 hI1 hf1 x2 hx2 hi0 hw
      refine k_run 3 (pc' := 100) (l' := [(0, .inr (.inr 407)), (1, .inr (.inr 878)), (2, .inl x2)]) (st' := [.inl (H1.1 407 2), .inl x2]) rfl ?_
      have g74 : 0 ≤ (H1.1 407 2) ∧ (H1.1 407 2) ≤ 12 := kn (x := kx_407) hI1 rfl 2
      refine h_ige (off := 33) (t := 133) rfl rfl (by omega) (by omega) (fun c75 => ?_) (fun c75 => ?_)
      · refine k_run 0 (pc' := 133) (l' := [(0, .inr (.inr 407)), (1, .inr (.inr 878)), (2, .inl x2)]) (st' := []) rfl ?_
        refine h_ret rfl rfl ?_
        exact ⟨rfl, hI1, hf1⟩
      · refine k_run 0 (pc' := 103) (l' := [(0, .inr (.inr 407)), (1, .inr (.inr 878)), (2, .inl x2)]) (st' := []) rfl ?_
        refine k_run 3 (pc' := 108) (l' := [(0, .inr (.inr 407)), (1, .inr (.inr 878)), (2, .inl x2)]) (st' := [.inr (.inr 408), .inl x2]) rfl ?_
        refine k_alen (c := 408) (x := kx_408) rfl rfl (by decide) rfl ?_
        refine k_run 0 (pc' := 109) (l' := [(0, .inr (.inr 407)), (1, .inr (.inr 878)), (2, .inl x2)]) (st' := [.inl 12, .inl x2]) rfl ?_
        refine h_ige (off := 24) (t := 133) rfl rfl (by omega) (by decide) (fun c76 => ?_) (fun c76 => ?_)
        · refine k_run 0 (pc' := 133) (l' := [(0, .inr (.inr 407)), (1, .inr (.inr 878)), (2, .inl x2)]) (st' := []) rfl ?_
          refine h_ret rfl rfl ?_
          exact ⟨rfl, hI1, hf1⟩
        · refine k_run 0 (pc' := 112) (l' := [(0, .inr (.inr 407)), (1, .inr (.inr 878)), (2, .inl x2)]) (st' := []) rfl ?_
          refine k_run 3 (pc' := 117) (l' := [(0, .inr (.inr 407)), (1, .inr (.inr 878)), (2, .inl x2)]) (st' := [.inl x2, .inr (.inr 408)]) rfl ?_
          refine k_ald (c := 408) (j := (x2).toNat) (i := x2) (x := kx_408) rfl rfl (by decide) rfl (by decide) (by omega) (by omega) hI1 (fun h77 => ?_)
          obtain ⟨t78, et80⟩ : ∃ t9, t9 = H1.2 408 (x2).toNat := ⟨_, rfl⟩
          rw [← et80] at h77 ⊢
          have k79 : isG t78 := h77
          refine k_run 0 (pc' := 118) (l' := [(0, .inr (.inr 407)), (1, .inr (.inr 878)), (2, .inl x2)]) (st' := [.inr (.inr t78)]) rfl ?_
          refine k_run 3 (pc' := 123) (l' := [(0, .inr (.inr 407)), (1, .inr (.inr 878)), (2, .inl x2)]) (st' := [.inl x2, .inr (.inr 879), .inr (.inr t78)]) rfl ?_
          refine k_ald (c := 879) (j := (x2).toNat) (i := x2) (x := kx_879) rfl rfl (by decide) rfl (by decide) (by omega) (by omega) hI1 (fun h81 => ?_)
          obtain ⟨t82, et84⟩ : ∃ t9, t9 = H1.2 879 (x2).toNat := ⟨_, rfl⟩
          rw [← et84] at h81 ⊢
          have k83 : isG t82 := h81
          refine k_run 0 (pc' := 124) (l' := [(0, .inr (.inr 407)), (1, .inr (.inr 878)), (2, .inl x2)]) (st' := [.inr (.inr t82), .inr (.inr t78)]) rfl ?_
          refine h_cv (i := 79) (j := 149) (b := t78) (M' := mt_149) (xs := [.inr (.inr t82)]) (rest := []) rfl rfl rfl rfl (by rw [zs_K k79.1 (iG0 k79)]; rfl) rfl (Nat.le_of_ble_eq_true rfl) (Nat.le_of_ble_eq_true rfl) (by omega) (k_Goal_copy (by omega) hI1 k79 k83) ?_
          rintro _ H86 ⟨rfl, hI87, hq88⟩
          have hf89 : fq [(407, 2), (407, 3), (407, 4), (407, 5), (407, 6), (407, 7), (407, 8)] [409] true H H86 := fq_t hf1 hq88 rfl rfl rfl
          refine k_run 0 (pc' := 127) (l' := [(0, .inr (.inr 407)), (1, .inr (.inr 878)), (2, .inl x2)]) (st' := []) rfl ?_
          refine k_run 2 (pc' := 95) (l' := [(0, .inr (.inr 407)), (1, .inr (.inr 878)), (2, .inl (x2 + 1))]) (st' := []) rfl ?_
          exact ih.2 H86 hI87 hf89 (x2 + 1) (by omega) (by omega) (by omega)
set_option maxRecDepth 100000 in
theorem k_Proof_copy_407 {d : Nat} (hd : 4 ≤ d) {H : hp} (hI : Inv H)   : hG (zs zK) d mt_147 0 (zargs 0 [.inr (.inr 407), .inr (.inr 878)]) [] H (fun r9 H9 => r9 = none ∧ Inv H9 ∧ fq [(407, 2), (407, 3), (407, 4), (407, 5), (407, 6), (407, 7), (407, 8)] [409] true H H9) := by
  refine k_run 0 (pc' := 0) (l' := [(0, .inr (.inr 407)), (1, .inr (.inr 878))]) (st' := []) rfl ?_
  refine k_run 3 (pc' := 5) (l' := [(0, .inr (.inr 407)), (1, .inr (.inr 878))]) (st' := [.inl (H.1 878 2), .inr (.inr 407)]) rfl ?_
  have g1 : 0 ≤ (H.1 878 2) ∧ (H.1 878 2) ≤ 12 := kn (x := kx_878) hI rfl 2
  refine k_puti (z := (H.1 878 2)) (a := 407) (x := kx_407) rfl rfl rfl (by decide) (by decide) rfl rfl rfl rfl hI (by omega) (show 0 ≤ (H.1 878 2) ∧ (H.1 878 2) ≤ 12 by omega) (fun H2 hI3 hw4 hv5 => ?_)
  have hf6 : fq [(407, 2), (407, 3), (407, 4), (407, 5), (407, 6), (407, 7), (407, 8)] [409] true H H2 := fq_w (fq_rf _ _ _ _) hw4 (fpo (by decide) rfl)
  refine k_run 0 (pc' := 8) (l' := [(0, .inr (.inr 407)), (1, .inr (.inr 878))]) (st' := []) rfl ?_
  refine k_run 3 (pc' := 13) (l' := [(0, .inr (.inr 407)), (1, .inr (.inr 878))]) (st' := [.inl (H2.1 878 3), .inr (.inr 407)]) rfl ?_
  have g7 : -2147483648 ≤ (H2.1 878 3) ∧ (H2.1 878 3) ≤ 2147483647 := kn (x := kx_878) hI3 rfl 3
  have e8 : (H2.1 878 3) = (H.1 878 3) := hw4.2 _ _ (fun q => absurd q.1 (by decide))
  refine k_putw (a := 407) (x := kx_407) rfl rfl rfl (by decide) (by decide) rfl rfl rfl rfl hI3 rfl (fun H9 hI10 hw11 => ?_)
  have hf13 : fq [(407, 2), (407, 3), (407, 4), (407, 5), (407, 6), (407, 7), (407, 8)] [409] true H H9 := fq_w hf6 hw11 (fpo (by decide) rfl)
  refine k_run 0 (pc' := 16) (l' := [(0, .inr (.inr 407)), (1, .inr (.inr 878))]) (st' := []) rfl ?_
  refine k_run 3 (pc' := 21) (l' := [(0, .inr (.inr 407)), (1, .inr (.inr 878))]) (st' := [.inl (H9.1 878 4), .inr (.inr 407)]) rfl ?_
  have g14 : -2147483648 ≤ (H9.1 878 4) ∧ (H9.1 878 4) ≤ 2147483647 := kn (x := kx_878) hI10 rfl 4
  have e15 : (H9.1 878 4) = (H2.1 878 4) := hw11.2 _ _ (fun q => absurd q.1 (by decide))
  have e16 : (H2.1 878 4) = (H.1 878 4) := hw4.2 _ _ (fun q => absurd q.1 (by decide))
  refine k_putw (a := 407) (x := kx_407) rfl rfl rfl (by decide) (by decide) rfl rfl rfl rfl hI10 rfl (fun H17 hI18 hw19 => ?_)
  have hf21 : fq [(407, 2), (407, 3), (407, 4), (407, 5), (407, 6), (407, 7), (407, 8)] [409] true H H17 := fq_w hf13 hw19 (fpo (by decide) rfl)
  refine k_run 0 (pc' := 24) (l' := [(0, .inr (.inr 407)), (1, .inr (.inr 878))]) (st' := []) rfl ?_
  refine k_run 3 (pc' := 29) (l' := [(0, .inr (.inr 407)), (1, .inr (.inr 878))]) (st' := [.inl (H17.1 878 5), .inr (.inr 407)]) rfl ?_
  have g22 : 0 ≤ (H17.1 878 5) ∧ (H17.1 878 5) ≤ 1 := kn (x := kx_878) hI18 rfl 5
  have e23 : (H17.1 878 5) = (H9.1 878 5) := hw19.2 _ _ (fun q => absurd q.1 (by decide))
  have e24 : (H9.1 878 5) = (H2.1 878 5) := hw11.2 _ _ (fun q => absurd q.1 (by decide))
  have e25 : (H2.1 878 5) = (H.1 878 5) := hw4.2 _ _ (fun q => absurd q.1 (by decide))
  refine k_putz (z := (H17.1 878 5)) (a := 407) (x := kx_407) rfl rfl rfl (by decide) (by decide) rfl rfl rfl rfl hI18 (by omega) rfl (fun H26 hI27 hw28 hv29 => ?_)
  have hf30 : fq [(407, 2), (407, 3), (407, 4), (407, 5), (407, 6), (407, 7), (407, 8)] [409] true H H26 := fq_w hf21 hw28 (fpo (by decide) rfl)
  refine k_run 0 (pc' := 32) (l' := [(0, .inr (.inr 407)), (1, .inr (.inr 878))]) (st' := []) rfl ?_
  refine k_run 3 (pc' := 37) (l' := [(0, .inr (.inr 407)), (1, .inr (.inr 878))]) (st' := [.inl (H26.1 878 6), .inr (.inr 407)]) rfl ?_
  have g31 : 0 ≤ (H26.1 878 6) ∧ (H26.1 878 6) ≤ 60 := kn (x := kx_878) hI27 rfl 6
  have e32 : (H26.1 878 6) = (H17.1 878 6) := hw28.2 _ _ (fun q => absurd q.1 (by decide))
  have e33 : (H17.1 878 6) = (H9.1 878 6) := hw19.2 _ _ (fun q => absurd q.1 (by decide))
  have e34 : (H9.1 878 6) = (H2.1 878 6) := hw11.2 _ _ (fun q => absurd q.1 (by decide))
  have e35 : (H2.1 878 6) = (H.1 878 6) := hw4.2 _ _ (fun q => absurd q.1 (by decide))
  refine k_puti (z := (H26.1 878 6)) (a := 407) (x := kx_407) rfl rfl rfl (by decide) (by decide) rfl rfl rfl rfl hI27 (by omega) (show 0 ≤ (H26.1 878 6) ∧ (H26.1 878 6) ≤ 60 by omega) (fun H36 hI37 hw38 hv39 => ?_)
  have hf40 : fq [(407, 2), (407, 3), (407, 4), (407, 5), (407, 6), (407, 7), (407, 8)] [409] true H H36 := fq_w hf30 hw38 (fpo (by decide) rfl)
  refine k_run 0 (pc' := 40) (l' := [(0, .inr (.inr 407)), (1, .inr (.inr 878))]) (st' := []) rfl ?_
  refine k_run 3 (pc' := 45) (l' := [(0, .inr (.inr 407)), (1, .inr (.inr 878))]) (st' := [.inr (.inl (H36.1 878 7)), .inr (.inr 407)]) rfl ?_
  have g41 : -9223372036854775808 ≤ (H36.1 878 7) ∧ (H36.1 878 7) ≤ 9223372036854775807 := kn (x := kx_878) hI37 rfl 7
  have e42 : (H36.1 878 7) = (H26.1 878 7) := hw38.2 _ _ (fun q => absurd q.1 (by decide))
  have e43 : (H26.1 878 7) = (H17.1 878 7) := hw28.2 _ _ (fun q => absurd q.1 (by decide))
  have e44 : (H17.1 878 7) = (H9.1 878 7) := hw19.2 _ _ (fun q => absurd q.1 (by decide))
  have e45 : (H9.1 878 7) = (H2.1 878 7) := hw11.2 _ _ (fun q => absurd q.1 (by decide))
  have e46 : (H2.1 878 7) = (H.1 878 7) := hw4.2 _ _ (fun q => absurd q.1 (by decide))
  refine k_putl (a := 407) (x := kx_407) rfl rfl rfl (by decide) (by decide) rfl rfl rfl rfl hI37 rfl (fun H47 hI48 hw49 => ?_)
  have hf51 : fq [(407, 2), (407, 3), (407, 4), (407, 5), (407, 6), (407, 7), (407, 8)] [409] true H H47 := fq_w hf40 hw49 (fpo (by decide) rfl)
  refine k_run 0 (pc' := 48) (l' := [(0, .inr (.inr 407)), (1, .inr (.inr 878))]) (st' := []) rfl ?_
  refine k_run 3 (pc' := 53) (l' := [(0, .inr (.inr 407)), (1, .inr (.inr 878))]) (st' := [.inr (.inl (H47.1 878 8)), .inr (.inr 407)]) rfl ?_
  have g52 : -9223372036854775808 ≤ (H47.1 878 8) ∧ (H47.1 878 8) ≤ 9223372036854775807 := kn (x := kx_878) hI48 rfl 8
  have e53 : (H47.1 878 8) = (H36.1 878 8) := hw49.2 _ _ (fun q => absurd q.1 (by decide))
  have e54 : (H36.1 878 8) = (H26.1 878 8) := hw38.2 _ _ (fun q => absurd q.1 (by decide))
  have e55 : (H26.1 878 8) = (H17.1 878 8) := hw28.2 _ _ (fun q => absurd q.1 (by decide))
  have e56 : (H17.1 878 8) = (H9.1 878 8) := hw19.2 _ _ (fun q => absurd q.1 (by decide))
  have e57 : (H9.1 878 8) = (H2.1 878 8) := hw11.2 _ _ (fun q => absurd q.1 (by decide))
  have e58 : (H2.1 878 8) = (H.1 878 8) := hw4.2 _ _ (fun q => absurd q.1 (by decide))
  refine k_putl (a := 407) (x := kx_407) rfl rfl rfl (by decide) (by decide) rfl rfl rfl rfl hI48 rfl (fun H59 hI60 hw61 => ?_)
  have hf63 : fq [(407, 2), (407, 3), (407, 4), (407, 5), (407, 6), (407, 7), (407, 8)] [409] true H H59 := fq_w hf51 hw61 (fpo (by decide) rfl)
  refine k_run 0 (pc' := 56) (l' := [(0, .inr (.inr 407)), (1, .inr (.inr 878))]) (st' := []) rfl ?_
  refine k_run 2 (pc' := 58) (l' := [(0, .inr (.inr 407)), (1, .inr (.inr 878)), (2, .inl 0)]) (st' := []) rfl ?_
  exact (k_Proof_copy_407_cut hd hI  _).1 H59 hI60 hf63 (0 : Int) (by decide) (by omega) (Nat.lt_succ_self _)

/-! Proof.copy -/
set_option maxRecDepth 100000 in
theorem k_Proof_copy_878_cut {d : Nat} (hd : 4 ≤ d) {H : hp} (hI : Inv H)   : ∀ w : Nat, (∀ (H1 : hp), Inv H1 → fq [(878, 2), (878, 3), (878, 4), (878, 5), (878, 6), (878, 7), (878, 8)] [880] true H H1 → ∀ (x2 : Int) , (-2147483648 ≤ x2 ∧ x2 ≤ 2147483647) → (0 ≤ x2 ∧ x2 ≤ 60) → (((1000 - x2).toNat) < w) → hG (zs zK) d mt_147 58 [(0, .inr (.inr 878)), (1, .inr (.inr 407)), (2, .inl x2)] [] H1 (fun r9 H9 => r9 = none ∧ Inv H9 ∧ fq [(878, 2), (878, 3), (878, 4), (878, 5), (878, 6), (878, 7), (878, 8)] [880] true H H9)) ∧ (∀ (H1 : hp), Inv H1 → fq [(878, 2), (878, 3), (878, 4), (878, 5), (878, 6), (878, 7), (878, 8)] [880] true H H1 → ∀ (x2 : Int) , (-2147483648 ≤ x2 ∧ x2 ≤ 2147483647) → (0 ≤ x2) → (((100 - x2).toNat) < w) → hG (zs zK) d mt_147 95 [(0, .inr (.inr 878)), (1, .inr (.inr 407)), (2, .inl x2)] [] H1 (fun r9 H9 => r9 = none ∧ Inv H9 ∧ fq [(878, 2), (878, 3), (878, 4), (878, 5), (878, 6), (878, 7), (878, 8)] [880] true H H9)) := by
  intro w
  induction w with
  | zero => exact ⟨fun _ _ _ _ _ _ h => absurd h (Nat.not_lt_zero _), fun _ _ _ _ _ _ h => absurd h (Nat.not_lt_zero _)⟩
  | succ w ih =>
    refine ⟨?_, ?_⟩
    · intro H1 hI1 hf1 x2 hx2 hi0 hw
      refine k_run 3 (pc' := 63) (l' := [(0, .inr (.inr 878)), (1, .inr (.inr 407)), (2, .inl x2)]) (st' := [.inl (H1.1 878 6), .inl x2]) rfl ?_
      have g64 : 0 ≤ (H1.1 878 6) ∧ (H1.1 878 6) ≤ 60 := kn (x := kx_878) hI1 rfl 6
      refine h_ige (off := 30) (t := 93) rfl rfl (by omega) (by omega) (fun c65 => ?_) (fun c65 => ?_)
      · refine k_run 0 (pc' := 93) (l' := [(0, .inr (.inr 878)), (1, .inr (.inr 407)), (2, .inl x2)]) (st' := []) rfl ?_
        refine k_run 2 (pc' := 95) (l' := [(0, .inr (.inr 878)), (1, .inr (.inr 407)), (2, .inl 0)]) (st' := []) rfl ?_
        exact ih.2 H1 hI1 hf1 (0 : Int) (by decide) (by omega) (by omega)
      · refine k_run 0 (pc' := 66) (l' := [(0, .inr (.inr 878)), (1, .inr (.inr 407)), (2, .inl x2)]) (st' := []) rfl ?_
        refine k_run 3 (pc' := 71) (l' := [(0, .inr (.inr 878)), (1, .inr (.inr 407)), (2, .inl x2)]) (st' := [.inr (.inr 880), .inl x2]) rfl ?_
        refine k_alen (c := 880) (x := kx_880) rfl rfl (by decide) rfl ?_
        refine k_run 0 (pc' := 72) (l' := [(0, .inr (.inr 878)), (1, .inr (.inr 407)), (2, .inl x2)]) (st' := [.inl 60, .inl x2]) rfl ?_
        refine h_ige (off := 21) (t := 93) rfl rfl (by omega) (by decide) (fun c66 => ?_) (fun c66 => ?_)
        · refine k_run 0 (pc' := 93) (l' := [(0, .inr (.inr 878)), (1, .inr (.inr 407)), (2, .inl x2)]) (st' := []) rfl ?_
          refine k_run 2 (pc' := 95) (l' := [(0, .inr (.inr 878)), (1, .inr (.inr 407)), (2, .inl 0)]) (st' := []) rfl ?_
          exact ih.2 H1 hI1 hf1 (0 : Int) (by decide) (by omega) (by omega)
        · refine k_run 0 (pc' := 75) (l' := [(0, .inr (.inr 878)), (1, .inr (.inr 407)), (2, .inl x2)]) (st' := []) rfl ?_
          refine k_run 6 (pc' := 85) (l' := [(0, .inr (.inr 878)), (1, .inr (.inr 407)), (2, .inl x2)]) (st' := [.inl x2, .inr (.inr 409), .inl x2, .inr (.inr 880)]) rfl ?_
          refine k_ild (c := 409) (j := (x2).toNat) (i := x2) (x := kx_409) rfl rfl (by decide) rfl (by decide) (by omega) (by omega) ?_
          have g67 : -2 ≤ (H1.1 409 (x2).toNat) ∧ (H1.1 409 (x2).toNat) ≤ 100 := kn (x := kx_409) hI1 rfl (x2).toNat
          have e68 : (H1.1 409 (x2).toNat) = (H.1 409 (x2).toNat) := (hf1.1 409 (x2).toNat rfl (by decide) (fun q => by simp at q)).1
          refine k_run 0 (pc' := 86) (l' := [(0, .inr (.inr 878)), (1, .inr (.inr 407)), (2, .inl x2)]) (st' := [.inl (H1.1 409 (x2).toNat), .inl x2, .inr (.inr 880)]) rfl ?_
          refine k_ist (z := (H1.1 409 (x2).toNat)) (c := 880) (j := (x2).toNat) (i := x2) (x := kx_880) rfl rfl (by decide) (by decide) rfl (by decide) (by omega) (by omega) hI1 (by omega) (show -2 ≤ (H1.1 409 (x2).toNat) ∧ (H1.1 409 (x2).toNat) ≤ 100 by omega) (fun H69 hI70 hw71 hv72 => ?_)
          have hf73 : fq [(878, 2), (878, 3), (878, 4), (878, 5), (878, 6), (878, 7), (878, 8)] [880] true H H69 := fq_w hf1 hw71 (fpa (by decide) rfl)
          refine k_run 0 (pc' := 87) (l' := [(0, .inr (.inr 878)), (1, .inr (.inr 407)), (2, .inl x2)]) (st' := []) rfl ?_
          refine k_run 2 (pc' := 58) (l' := [(0, .inr (.inr 878)), (1, .inr (.inr 407)), (2, .inl (x2 + 1))]) (st' := []) rfl ?_
          exact ih.1 H69 hI70 hf73 (x2 + 1) (by omega) (by omega) (by omega)
    · intro H1 hI1 hf1 x2 hx2 hi0 hw
      refine k_run 3 (pc' := 100) (l' := [(0, .inr (.inr 878)), (1, .inr (.inr 407)), (2, .inl x2)]) (st' := [.inl (H1.1 878 2), .inl x2]) rfl ?_
      have g74 : 0 ≤ (H1.1 878 2) ∧ (H1.1 878 2) ≤ 12 := kn (x := kx_878) hI1 rfl 2
      refine h_ige (off := 33) (t := 133) rfl rfl (by omega) (by omega) (fun c75 => ?_) (fun c75 => ?_)
      · refine k_run 0 (pc' := 133) (l' := [(0, .inr (.inr 878)), (1, .inr (.inr 407)), (2, .inl x2)]) (st' := []) rfl ?_
        refine h_ret rfl rfl ?_
        exact ⟨rfl, hI1, hf1⟩
      · refine k_run 0 (pc' := 103) (l' := [(0, .inr (.inr 878)), (1, .inr (.inr 407)), (2, .inl x2)]) (st' := []) rfl ?_
        refine k_run 3 (pc' := 108) (l' := [(0, .inr (.inr 878)), (1, .inr (.inr 407)), (2, .inl x2)]) (st' := [.inr (.inr 879), .inl x2]) rfl ?_
        refine k_alen (c := 879) (x := kx_879) rfl rfl (by decide) rfl ?_
        refine k_run 0 (pc' := 109) (l' := [(0, .inr (.inr 878)), (1, .inr (.inr 407)), (2, .inl x2)]) (st' := [.inl 12, .inl x2]) rfl ?_
        refine h_ige (off := 24) (t := 133) rfl rfl (by omega) (by decide) (fun c76 => ?_) (fun c76 => ?_)
        · refine k_run 0 (pc' := 133) (l' := [(0, .inr (.inr 878)), (1, .inr (.inr 407)), (2, .inl x2)]) (st' := []) rfl ?_
          refine h_ret rfl rfl ?_
          exact ⟨rfl, hI1, hf1⟩
        · refine k_run 0 (pc' := 112) (l' := [(0, .inr (.inr 878)), (1, .inr (.inr 407)), (2, .inl x2)]) (st' := []) rfl ?_
          refine k_run 3 (pc' := 117) (l' := [(0, .inr (.inr 878)), (1, .inr (.inr 407)), (2, .inl x2)]) (st' := [.inl x2, .inr (.inr 879)]) rfl ?_
          refine k_ald (c := 879) (j := (x2).toNat) (i := x2) (x := kx_879) rfl rfl (by decide) rfl (by decide) (by omega) (by omega) hI1 (fun h77 => ?_)
          obtain ⟨t78, et80⟩ : ∃ t9, t9 = H1.2 879 (x2).toNat := ⟨_, rfl⟩
          rw [← et80] at h77 ⊢
          have k79 : isG t78 := h77
          refine k_run 0 (pc' := 118) (l' := [(0, .inr (.inr 878)), (1, .inr (.inr 407)), (2, .inl x2)]) (st' := [.inr (.inr t78)]) rfl ?_
          refine k_run 3 (pc' := 123) (l' := [(0, .inr (.inr 878)), (1, .inr (.inr 407)), (2, .inl x2)]) (st' := [.inl x2, .inr (.inr 408), .inr (.inr t78)]) rfl ?_
          refine k_ald (c := 408) (j := (x2).toNat) (i := x2) (x := kx_408) rfl rfl (by decide) rfl (by decide) (by omega) (by omega) hI1 (fun h81 => ?_)
          obtain ⟨t82, et84⟩ : ∃ t9, t9 = H1.2 408 (x2).toNat := ⟨_, rfl⟩
          rw [← et84] at h81 ⊢
          have k83 : isG t82 := h81
          refine k_run 0 (pc' := 124) (l' := [(0, .inr (.inr 878)), (1, .inr (.inr 407)), (2, .inl x2)]) (st' := [.inr (.inr t82), .inr (.inr t78)]) rfl ?_
          refine h_cv (i := 79) (j := 149) (b := t78) (M' := mt_149) (xs := [.inr (.inr t82)]) (rest := []) rfl rfl rfl rfl (by rw [zs_K k79.1 (iG0 k79)]; rfl) rfl (Nat.le_of_ble_eq_true rfl) (Nat.le_of_ble_eq_true rfl) (by omega) (k_Goal_copy (by omega) hI1 k79 k83) ?_
          rintro _ H86 ⟨rfl, hI87, hq88⟩
          have hf89 : fq [(878, 2), (878, 3), (878, 4), (878, 5), (878, 6), (878, 7), (878, 8)] [880] true H H86 := fq_t hf1 hq88 rfl rfl rfl
          refine k_run 0 (pc' := 127) (l' := [(0, .inr (.inr 878)), (1, .inr (.inr 407)), (2, .inl x2)]) (st' := []) rfl ?_
          refine k_run 2 (pc' := 95) (l' := [(0, .inr (.inr 878)), (1, .inr (.inr 407)), (2, .inl (x2 + 1))]) (st' := []) rfl ?_
          exact ih.2 H86 hI87 hf89 (x2 + 1) (by omega) (by omega) (by omega)
set_option maxRecDepth 100000 in
theorem k_Proof_copy_878 {d : Nat} (hd : 4 ≤ d) {H : hp} (hI : Inv H)   : hG (zs zK) d mt_147 0 (zargs 0 [.inr (.inr 878), .inr (.inr 407)]) [] H (fun r9 H9 => r9 = none ∧ Inv H9 ∧ fq [(878, 2), (878, 3), (878, 4), (878, 5), (878, 6), (878, 7), (878, 8)] [880] true H H9) := by
  refine k_run 0 (pc' := 0) (l' := [(0, .inr (.inr 878)), (1, .inr (.inr 407))]) (st' := []) rfl ?_
  refine k_run 3 (pc' := 5) (l' := [(0, .inr (.inr 878)), (1, .inr (.inr 407))]) (st' := [.inl (H.1 407 2), .inr (.inr 878)]) rfl ?_
  have g1 : 0 ≤ (H.1 407 2) ∧ (H.1 407 2) ≤ 12 := kn (x := kx_407) hI rfl 2
  refine k_puti (z := (H.1 407 2)) (a := 878) (x := kx_878) rfl rfl rfl (by decide) (by decide) rfl rfl rfl rfl hI (by omega) (show 0 ≤ (H.1 407 2) ∧ (H.1 407 2) ≤ 12 by omega) (fun H2 hI3 hw4 hv5 => ?_)
  have hf6 : fq [(878, 2), (878, 3), (878, 4), (878, 5), (878, 6), (878, 7), (878, 8)] [880] true H H2 := fq_w (fq_rf _ _ _ _) hw4 (fpo (by decide) rfl)
  refine k_run 0 (pc' := 8) (l' := [(0, .inr (.inr 878)), (1, .inr (.inr 407))]) (st' := []) rfl ?_
  refine k_run 3 (pc' := 13) (l' := [(0, .inr (.inr 878)), (1, .inr (.inr 407))]) (st' := [.inl (H2.1 407 3), .inr (.inr 878)]) rfl ?_
  have g7 : -2147483648 ≤ (H2.1 407 3) ∧ (H2.1 407 3) ≤ 2147483647 := kn (x := kx_407) hI3 rfl 3
  have e8 : (H2.1 407 3) = (H.1 407 3) := hw4.2 _ _ (fun q => absurd q.1 (by decide))
  refine k_putw (a := 878) (x := kx_878) rfl rfl rfl (by decide) (by decide) rfl rfl rfl rfl hI3 rfl (fun H9 hI10 hw11 => ?_)
  have hf13 : fq [(878, 2), (878, 3), (878, 4), (878, 5), (878, 6), (878, 7), (878, 8)] [880] true H H9 := fq_w hf6 hw11 (fpo (by decide) rfl)
  refine k_run 0 (pc' := 16) (l' := [(0, .inr (.inr 878)), (1, .inr (.inr 407))]) (st' := []) rfl ?_
  refine k_run 3 (pc' := 21) (l' := [(0, .inr (.inr 878)), (1, .inr (.inr 407))]) (st' := [.inl (H9.1 407 4), .inr (.inr 878)]) rfl ?_
  have g14 : -2147483648 ≤ (H9.1 407 4) ∧ (H9.1 407 4) ≤ 2147483647 := kn (x := kx_407) hI10 rfl 4
  have e15 : (H9.1 407 4) = (H2.1 407 4) := hw11.2 _ _ (fun q => absurd q.1 (by decide))
  have e16 : (H2.1 407 4) = (H.1 407 4) := hw4.2 _ _ (fun q => absurd q.1 (by decide))
  refine k_putw (a := 878) (x := kx_878) rfl rfl rfl (by decide) (by decide) rfl rfl rfl rfl hI10 rfl (fun H17 hI18 hw19 => ?_)
  have hf21 : fq [(878, 2), (878, 3), (878, 4), (878, 5), (878, 6), (878, 7), (878, 8)] [880] true H H17 := fq_w hf13 hw19 (fpo (by decide) rfl)
  refine k_run 0 (pc' := 24) (l' := [(0, .inr (.inr 878)), (1, .inr (.inr 407))]) (st' := []) rfl ?_
  refine k_run 3 (pc' := 29) (l' := [(0, .inr (.inr 878)), (1, .inr (.inr 407))]) (st' := [.inl (H17.1 407 5), .inr (.inr 878)]) rfl ?_
  have g22 : 0 ≤ (H17.1 407 5) ∧ (H17.1 407 5) ≤ 1 := kn (x := kx_407) hI18 rfl 5
  have e23 : (H17.1 407 5) = (H9.1 407 5) := hw19.2 _ _ (fun q => absurd q.1 (by decide))
  have e24 : (H9.1 407 5) = (H2.1 407 5) := hw11.2 _ _ (fun q => absurd q.1 (by decide))
  have e25 : (H2.1 407 5) = (H.1 407 5) := hw4.2 _ _ (fun q => absurd q.1 (by decide))
  refine k_putz (z := (H17.1 407 5)) (a := 878) (x := kx_878) rfl rfl rfl (by decide) (by decide) rfl rfl rfl rfl hI18 (by omega) rfl (fun H26 hI27 hw28 hv29 => ?_)
  have hf30 : fq [(878, 2), (878, 3), (878, 4), (878, 5), (878, 6), (878, 7), (878, 8)] [880] true H H26 := fq_w hf21 hw28 (fpo (by decide) rfl)
  refine k_run 0 (pc' := 32) (l' := [(0, .inr (.inr 878)), (1, .inr (.inr 407))]) (st' := []) rfl ?_
  refine k_run 3 (pc' := 37) (l' := [(0, .inr (.inr 878)), (1, .inr (.inr 407))]) (st' := [.inl (H26.1 407 6), .inr (.inr 878)]) rfl ?_
  have g31 : 0 ≤ (H26.1 407 6) ∧ (H26.1 407 6) ≤ 60 := kn (x := kx_407) hI27 rfl 6
  have e32 : (H26.1 407 6) = (H17.1 407 6) := hw28.2 _ _ (fun q => absurd q.1 (by decide))
  have e33 : (H17.1 407 6) = (H9.1 407 6) := hw19.2 _ _ (fun q => absurd q.1 (by decide))
  have e34 : (H9.1 407 6) = (H2.1 407 6) := hw11.2 _ _ (fun q => absurd q.1 (by decide))
  have e35 : (H2.1 407 6) = (H.1 407 6) := hw4.2 _ _ (fun q => absurd q.1 (by decide))
  refine k_puti (z := (H26.1 407 6)) (a := 878) (x := kx_878) rfl rfl rfl (by decide) (by decide) rfl rfl rfl rfl hI27 (by omega) (show 0 ≤ (H26.1 407 6) ∧ (H26.1 407 6) ≤ 60 by omega) (fun H36 hI37 hw38 hv39 => ?_)
  have hf40 : fq [(878, 2), (878, 3), (878, 4), (878, 5), (878, 6), (878, 7), (878, 8)] [880] true H H36 := fq_w hf30 hw38 (fpo (by decide) rfl)
  refine k_run 0 (pc' := 40) (l' := [(0, .inr (.inr 878)), (1, .inr (.inr 407))]) (st' := []) rfl ?_
  refine k_run 3 (pc' := 45) (l' := [(0, .inr (.inr 878)), (1, .inr (.inr 407))]) (st' := [.inr (.inl (H36.1 407 7)), .inr (.inr 878)]) rfl ?_
  have g41 : -9223372036854775808 ≤ (H36.1 407 7) ∧ (H36.1 407 7) ≤ 9223372036854775807 := kn (x := kx_407) hI37 rfl 7
  have e42 : (H36.1 407 7) = (H26.1 407 7) := hw38.2 _ _ (fun q => absurd q.1 (by decide))
  have e43 : (H26.1 407 7) = (H17.1 407 7) := hw28.2 _ _ (fun q => absurd q.1 (by decide))
  have e44 : (H17.1 407 7) = (H9.1 407 7) := hw19.2 _ _ (fun q => absurd q.1 (by decide))
  have e45 : (H9.1 407 7) = (H2.1 407 7) := hw11.2 _ _ (fun q => absurd q.1 (by decide))
  have e46 : (H2.1 407 7) = (H.1 407 7) := hw4.2 _ _ (fun q => absurd q.1 (by decide))
  refine k_putl (a := 878) (x := kx_878) rfl rfl rfl (by decide) (by decide) rfl rfl rfl rfl hI37 rfl (fun H47 hI48 hw49 => ?_)
  have hf51 : fq [(878, 2), (878, 3), (878, 4), (878, 5), (878, 6), (878, 7), (878, 8)] [880] true H H47 := fq_w hf40 hw49 (fpo (by decide) rfl)
  refine k_run 0 (pc' := 48) (l' := [(0, .inr (.inr 878)), (1, .inr (.inr 407))]) (st' := []) rfl ?_
  refine k_run 3 (pc' := 53) (l' := [(0, .inr (.inr 878)), (1, .inr (.inr 407))]) (st' := [.inr (.inl (H47.1 407 8)), .inr (.inr 878)]) rfl ?_
  have g52 : -9223372036854775808 ≤ (H47.1 407 8) ∧ (H47.1 407 8) ≤ 9223372036854775807 := kn (x := kx_407) hI48 rfl 8
  have e53 : (H47.1 407 8) = (H36.1 407 8) := hw49.2 _ _ (fun q => absurd q.1 (by decide))
  have e54 : (H36.1 407 8) = (H26.1 407 8) := hw38.2 _ _ (fun q => absurd q.1 (by decide))
  have e55 : (H26.1 407 8) = (H17.1 407 8) := hw28.2 _ _ (fun q => absurd q.1 (by decide))
  have e56 : (H17.1 407 8) = (H9.1 407 8) := hw19.2 _ _ (fun q => absurd q.1 (by decide))
  have e57 : (H9.1 407 8) = (H2.1 407 8) := hw11.2 _ _ (fun q => absurd q.1 (by decide))
  have e58 : (H2.1 407 8) = (H.1 407 8) := hw4.2 _ _ (fun q => absurd q.1 (by decide))
  refine k_putl (a := 878) (x := kx_878) rfl rfl rfl (by decide) (by decide) rfl rfl rfl rfl hI48 rfl (fun H59 hI60 hw61 => ?_)
  have hf63 : fq [(878, 2), (878, 3), (878, 4), (878, 5), (878, 6), (878, 7), (878, 8)] [880] true H H59 := fq_w hf51 hw61 (fpo (by decide) rfl)
  refine k_run 0 (pc' := 56) (l' := [(0, .inr (.inr 878)), (1, .inr (.inr 407))]) (st' := []) rfl ?_
  refine k_run 2 (pc' := 58) (l' := [(0, .inr (.inr 878)), (1, .inr (.inr 407)), (2, .inl 0)]) (st' := []) rfl ?_
  exact (k_Proof_copy_878_cut hd hI  _).1 H59 hI60 hf63 (0 : Int) (by decide) (by omega) (Nat.lt_succ_self _)

/-! Prover.sideOf -/
set_option maxRecDepth 100000 in
theorem k_Prover_sideOf {d : Nat} (hd : 1 ≤ d) {H : hp} (hI : Inv H) {a : Int} (ha : -2147483648 ≤ a ∧ a ≤ 2147483647) : hG (zs zK) d mt_115 0 (zargs 0 [.inr (.inr 406), .inl a]) [] H (fun r9 H9 => ∃ t n : Nat, r9 = some (.inr (.inr t)) ∧ isT t n ∧ H = H9) := by
  refine k_run 0 (pc' := 0) (l' := [(0, .inr (.inr 406)), (1, .inl a)]) (st' := []) rfl ?_
  refine k_run 4 (pc' := 8) (l' := [(0, .inr (.inr 406)), (1, .inl a)]) (st' := [.inl 0, .inr (.inr 408)]) rfl ?_
  refine k_ald (c := 408) (j := 0) (i := 0) (x := kx_408) rfl rfl (by decide) rfl (by decide) rfl (by decide) hI (fun h1 => ?_)
  obtain ⟨t2, et4⟩ : ∃ t9, t9 = H.2 408 0 := ⟨_, rfl⟩
  rw [← et4] at h1 ⊢
  have k3 : isG t2 := h1
  refine k_run 0 (pc' := 9) (l' := [(0, .inr (.inr 406)), (1, .inl a)]) (st' := [.inr (.inr t2)]) rfl ?_
  refine k_get (a := t2) (x := (kGo t2)) (v := .inr (.inr (t2 + 1))) rfl rfl k3.1 (iG0 k3) rfl rfl rfl ?_
  refine k_run 0 (pc' := 12) (l' := [(0, .inr (.inr 406)), (1, .inl a)]) (st' := [.inr (.inr (t2 + 1))]) rfl ?_
  refine k_run 1 (pc' := 13) (l' := [(0, .inr (.inr 406)), (1, .inl a)]) (st' := [.inl a, .inr (.inr (t2 + 1))]) rfl ?_
  refine h_zne (off := 7) (t := 20) rfl rfl (by omega) (fun c5 => ?_) (fun c5 => ?_)
  · refine k_run 0 (pc' := 20) (l' := [(0, .inr (.inr 406)), (1, .inl a)]) (st' := [.inr (.inr (t2 + 1))]) rfl ?_
    refine k_run 1 (pc' := 21) (l' := [(0, .inr (.inr 406)), (1, .inl a)]) (st' := [.inl 1, .inr (.inr (t2 + 1))]) rfl ?_
    refine k_ald (c := (t2 + 1)) (j := 1) (i := 1) (x := kGt) rfl k3.2.1 (iG1 k3) rfl (by decide) rfl (by decide) hI (fun h6 => ?_)
    obtain ⟨t7, et9⟩ : ∃ t9, t9 = H.2 (t2 + 1) 1 := ⟨_, rfl⟩
    rw [← et9] at h6 ⊢
    obtain ⟨n10, k8⟩ := (show (∃ n, isT t7 n) ∧ 369 < t7 from h6).1
    have k8b := k8.2.2.2.2
    refine k_run 0 (pc' := 22) (l' := [(0, .inr (.inr 406)), (1, .inl a)]) (st' := [.inr (.inr t7)]) rfl ?_
    refine h_reta (a := t7) rfl rfl ?_
    exact ⟨_, _, rfl, k8, rfl⟩
  · refine k_run 0 (pc' := 16) (l' := [(0, .inr (.inr 406)), (1, .inl a)]) (st' := [.inr (.inr (t2 + 1))]) rfl ?_
    refine k_run 2 (pc' := 21) (l' := [(0, .inr (.inr 406)), (1, .inl a)]) (st' := [.inl 0, .inr (.inr (t2 + 1))]) rfl ?_
    refine k_ald (c := (t2 + 1)) (j := 0) (i := 0) (x := kGt) rfl k3.2.1 (iG1 k3) rfl (by decide) rfl (by decide) hI (fun h11 => ?_)
    obtain ⟨t12, et14⟩ : ∃ t9, t9 = H.2 (t2 + 1) 0 := ⟨_, rfl⟩
    rw [← et14] at h11 ⊢
    obtain ⟨n15, k13⟩ := (show (∃ n, isT t12 n) ∧ 369 < t12 from h11).1
    have k13b := k13.2.2.2.2
    refine k_run 0 (pc' := 22) (l' := [(0, .inr (.inr 406)), (1, .inl a)]) (st' := [.inr (.inr t12)]) rfl ?_
    refine h_reta (a := t12) rfl rfl ?_
    exact ⟨_, _, rfl, k13, rfl⟩

theorem z_div_lt {x : Int} (hx : 1 ≤ x ∧ x ≤ 2147483647) : 0 ≤ z_div x 10 ∧ z_div x 10 < x := by
  rw [z_div_eq (by omega) (by omega)]
  omega

/-! Prover.positionOf -/
set_option maxRecDepth 100000 in
theorem k_Prover_positionOf_cut {d : Nat} (hd : 2 ≤ d) {H : hp} (hI : Inv H) {a : Int} {b : Int} (ha : -2147483648 ≤ a ∧ a ≤ 2147483647) (hb : -2147483648 ≤ b ∧ b ≤ 2147483647) (hp0 : 0 ≤ b) : ∀ w : Nat, (∀ (t3 : Nat) (n3 : Nat) (x4 : Int) (x5 : Int) , (isT t3 n3) → (-2147483648 ≤ x4 ∧ x4 ≤ 2147483647) → (-2147483648 ≤ x5 ∧ x5 ≤ 2147483647) → (1 ≤ x4) → (x4 ≤ 1 ∨ x4 ≤ b) → (1 ≤ x5 ∧ x5 ≤ 10) → (((1000 - x5).toNat + 3000000000000) < w) → hG (zs zK) d mt_116 12 [(0, .inr (.inr 406)), (1, .inl a), (2, .inl b), (3, .inr (.inr t3)), (4, .inl x4), (5, .inl x5)] [] H (fun r9 H9 => ∃ z : Int, r9 = some (.inl z) ∧ ((-2147483648 ≤ z ∧ z ≤ 2147483647)) ∧ H = H9)) ∧ (∀ (t3 : Nat) (n3 : Nat) (x4 : Int) (x5 : Int) (x6 : Int) , (isT t3 n3) → (-2147483648 ≤ x4 ∧ x4 ≤ 2147483647) → (-2147483648 ≤ x5 ∧ x5 ≤ 2147483647) → (-2147483648 ≤ x6 ∧ x6 ≤ 2147483647) → (0 ≤ x6) → ((x6.toNat * 1000 + 500) < w) → hG (zs zK) d mt_116 48 [(0, .inr (.inr 406)), (1, .inl a), (2, .inl b), (3, .inr (.inr t3)), (4, .inl x4), (5, .inl x5), (6, .inl x6)] [] H (fun r9 H9 => ∃ z : Int, r9 = some (.inl z) ∧ ((-2147483648 ≤ z ∧ z ≤ 2147483647)) ∧ H = H9)) ∧ (∀ (t3 : Nat) (n3 : Nat) (x4 : Int) (x5 : Int) (x6 : Int) (x7 : Int) (x8 : Int) , (isT t3 n3) → (-2147483648 ≤ x4 ∧ x4 ≤ 2147483647) → (-2147483648 ≤ x5 ∧ x5 ≤ 2147483647) → (-2147483648 ≤ x6 ∧ x6 ≤ 2147483647) → (-2147483648 ≤ x7 ∧ x7 ≤ 2147483647) → (-2147483648 ≤ x8 ∧ x8 ≤ 2147483647) → (1 ≤ x6) → (x7 ≤ 7) → (1 ≤ x8) → ((x6.toNat * 1000 + (8 - x8).toNat) < w) → hG (zs zK) d mt_116 94 [(0, .inr (.inr 406)), (1, .inl a), (2, .inl b), (3, .inr (.inr t3)), (4, .inl x4), (5, .inl x5), (6, .inl x6), (7, .inl x7), (8, .inl x8)] [] H (fun r9 H9 => ∃ z : Int, r9 = some (.inl z) ∧ ((-2147483648 ≤ z ∧ z ≤ 2147483647)) ∧ H = H9)) := by
  intro w
  induction w with
  | zero => exact ⟨fun _ _ _ _ _ _ _ _ _ _ h => absurd h (Nat.not_lt_zero _), fun _ _ _ _ _ _ _ _ _ _ h => absurd h (Nat.not_lt_zero _), fun _ _ _ _ _ _ _ _ _ _ _ _ _ _ _ _ h => absurd h (Nat.not_lt_zero _)⟩
  | succ w ih =>
    refine ⟨?_, ?_, ?_⟩
    · intro t3 n3 x4 x5 hT3 hx4 hx5 hi0 hi1 hi2 hw
      have hT3b := hT3.2.2.2.2
      refine k_run 2 (pc' := 16) (l' := [(0, .inr (.inr 406)), (1, .inl a), (2, .inl b), (3, .inr (.inr t3)), (4, .inl x4), (5, .inl x5)]) (st' := [.inl 10, .inl x5]) rfl ?_
      refine h_ige (off := 25) (t := 41) rfl rfl (by omega) (by decide) (fun c7 => ?_) (fun c7 => ?_)
      · refine k_run 0 (pc' := 41) (l' := [(0, .inr (.inr 406)), (1, .inl a), (2, .inl b), (3, .inr (.inr t3)), (4, .inl x4), (5, .inl x5)]) (st' := []) rfl ?_
        refine k_run 4 (pc' := 48) (l' := [(0, .inr (.inr 406)), (1, .inl a), (2, .inl b), (3, .inr (.inr t3)), (4, .inl x4), (5, .inl 0), (6, .inl x4)]) (st' := []) rfl ?_
        exact ih.2.1 t3 n3 x4 (0 : Int) x4 hT3 (by omega) (by decide) (by omega) (by omega) (by omega)
      · refine k_run 0 (pc' := 19) (l' := [(0, .inr (.inr 406)), (1, .inl a), (2, .inl b), (3, .inr (.inr t3)), (4, .inl x4), (5, .inl x5)]) (st' := []) rfl ?_
        refine k_run 2 (pc' := 22) (l' := [(0, .inr (.inr 406)), (1, .inl a), (2, .inl b), (3, .inr (.inr t3)), (4, .inl x4), (5, .inl x5)]) (st' := [.inl x4, .inl b]) rfl ?_
        refine h_idiv (x := b) (y := x4) rfl (by omega) (by omega) (by omega : x4 ≠ 0) ?_
        refine k_run 0 (pc' := 23) (l' := [(0, .inr (.inr 406)), (1, .inl a), (2, .inl b), (3, .inr (.inr t3)), (4, .inl x4), (5, .inl x5)]) (st' := [.inl (z_div b x4)]) rfl ?_
        refine k_run 1 (pc' := 25) (l' := [(0, .inr (.inr 406)), (1, .inl a), (2, .inl b), (3, .inr (.inr t3)), (4, .inl x4), (5, .inl x5)]) (st' := [.inl 10, .inl (z_div b x4)]) rfl ?_
        refine h_ilt (off := 16) (t := 41) rfl rfl (z_int _) (by decide) (fun c8 => ?_) (fun c8 => ?_)
        · refine k_run 0 (pc' := 41) (l' := [(0, .inr (.inr 406)), (1, .inl a), (2, .inl b), (3, .inr (.inr t3)), (4, .inl x4), (5, .inl x5)]) (st' := []) rfl ?_
          refine k_run 4 (pc' := 48) (l' := [(0, .inr (.inr 406)), (1, .inl a), (2, .inl b), (3, .inr (.inr t3)), (4, .inl x4), (5, .inl 0), (6, .inl x4)]) (st' := []) rfl ?_
          exact ih.2.1 t3 n3 x4 (0 : Int) x4 hT3 (by omega) (by decide) (by omega) (by omega) (by omega)
        · refine k_run 0 (pc' := 28) (l' := [(0, .inr (.inr 406)), (1, .inl a), (2, .inl b), (3, .inr (.inr t3)), (4, .inl x4), (5, .inl x5)]) (st' := []) rfl ?_
          have hq28 := z_div_10 (x := b) (y := x4) (by omega) (by omega) (by omega)
          refine k_run 6 (pc' := 12) (l' := [(0, .inr (.inr 406)), (1, .inl a), (2, .inl b), (3, .inr (.inr t3)), (4, .inl (x4 * 10)), (5, .inl (x5 + 1))]) (st' := []) rfl ?_
          exact ih.1 t3 n3 (x4 * 10) (x5 + 1) hT3 (by omega) (by omega) (by omega) (by omega) (by omega) (by omega)
    · intro t3 n3 x4 x5 x6 hT3 hx4 hx5 hx6 hi0 hw
      have hT3b := hT3.2.2.2.2
      refine k_run 1 (pc' := 49) (l' := [(0, .inr (.inr 406)), (1, .inl a), (2, .inl b), (3, .inr (.inr t3)), (4, .inl x4), (5, .inl x5), (6, .inl x6)]) (st' := [.inl b]) rfl ?_
      refine h_zle (off := 76) (t := 125) rfl rfl (by omega) (fun c9 => ?_) (fun c9 => ?_)
      · refine k_run 0 (pc' := 125) (l' := [(0, .inr (.inr 406)), (1, .inl a), (2, .inl b), (3, .inr (.inr t3)), (4, .inl x4), (5, .inl x5), (6, .inl x6)]) (st' := []) rfl ?_
        refine k_run 1 (pc' := 127) (l' := [(0, .inr (.inr 406)), (1, .inl a), (2, .inl b), (3, .inr (.inr t3)), (4, .inl x4), (5, .inl x5), (6, .inl x6)]) (st' := [.inl x5]) rfl ?_
        refine h_reti (x := x5) rfl rfl ?_
        exact ⟨_, rfl, (by omega), rfl⟩
      · refine k_run 0 (pc' := 52) (l' := [(0, .inr (.inr 406)), (1, .inl a), (2, .inl b), (3, .inr (.inr t3)), (4, .inl x4), (5, .inl x5), (6, .inl x6)]) (st' := []) rfl ?_
        refine k_run 1 (pc' := 54) (l' := [(0, .inr (.inr 406)), (1, .inl a), (2, .inl b), (3, .inr (.inr t3)), (4, .inl x4), (5, .inl x5), (6, .inl x6)]) (st' := [.inl x6]) rfl ?_
        refine h_zle (off := 71) (t := 125) rfl rfl (by omega) (fun c10 => ?_) (fun c10 => ?_)
        · refine k_run 0 (pc' := 125) (l' := [(0, .inr (.inr 406)), (1, .inl a), (2, .inl b), (3, .inr (.inr t3)), (4, .inl x4), (5, .inl x5), (6, .inl x6)]) (st' := []) rfl ?_
          refine k_run 1 (pc' := 127) (l' := [(0, .inr (.inr 406)), (1, .inl a), (2, .inl b), (3, .inr (.inr t3)), (4, .inl x4), (5, .inl x5), (6, .inl x6)]) (st' := [.inl x5]) rfl ?_
          refine h_reti (x := x5) rfl rfl ?_
          exact ⟨_, rfl, (by omega), rfl⟩
        · refine k_run 0 (pc' := 57) (l' := [(0, .inr (.inr 406)), (1, .inl a), (2, .inl b), (3, .inr (.inr t3)), (4, .inl x4), (5, .inl x5), (6, .inl x6)]) (st' := []) rfl ?_
          refine k_run 2 (pc' := 60) (l' := [(0, .inr (.inr 406)), (1, .inl a), (2, .inl b), (3, .inr (.inr t3)), (4, .inl x4), (5, .inl x5), (6, .inl x6)]) (st' := [.inl x6, .inl b]) rfl ?_
          refine h_idiv (x := b) (y := x6) rfl (by omega) (by omega) (by omega : x6 ≠ 0) ?_
          refine k_nrm (fun y11 hy11 => ?_)
          refine k_run 0 (pc' := 61) (l' := [(0, .inr (.inr 406)), (1, .inl a), (2, .inl b), (3, .inr (.inr t3)), (4, .inl x4), (5, .inl x5), (6, .inl x6)]) (st' := [.inl y11]) rfl ?_
          refine k_run 1 (pc' := 63) (l' := [(0, .inr (.inr 406)), (1, .inl a), (2, .inl b), (3, .inr (.inr t3)), (4, .inl x4), (5, .inl x5), (6, .inl x6)]) (st' := [.inl 10, .inl y11]) rfl ?_
          refine h_irem (x := y11) (y := 10) rfl (by omega) (by decide) (by omega : (10 : Int) ≠ 0) ?_
          refine k_nrm (fun y12 hy12 => ?_)
          refine k_run 0 (pc' := 64) (l' := [(0, .inr (.inr 406)), (1, .inl a), (2, .inl b), (3, .inr (.inr t3)), (4, .inl x4), (5, .inl x5), (6, .inl x6)]) (st' := [.inl y12]) rfl ?_
          refine k_run 3 (pc' := 69) (l' := [(0, .inr (.inr 406)), (1, .inl a), (2, .inl b), (3, .inr (.inr t3)), (4, .inl x4), (5, .inl x5), (6, .inl x6), (7, .inl y12)]) (st' := [.inl 1, .inl y12]) rfl ?_
          refine h_ilt (off := 17) (t := 86) rfl rfl (by omega) (by decide) (fun c13 => ?_) (fun c13 => ?_)
          · refine k_run 0 (pc' := 86) (l' := [(0, .inr (.inr 406)), (1, .inl a), (2, .inl b), (3, .inr (.inr t3)), (4, .inl x4), (5, .inl x5), (6, .inl x6), (7, .inl y12)]) (st' := []) rfl ?_
            refine k_run 1 (pc' := 87) (l' := [(0, .inr (.inr 406)), (1, .inl a), (2, .inl b), (3, .inr (.inr t3)), (4, .inl x4), (5, .inl x5), (6, .inl x6), (7, .inl y12)]) (st' := [.inl (-1)]) rfl ?_
            refine h_reti (x := (-1)) rfl rfl ?_
            exact ⟨_, rfl, (by omega), rfl⟩
          · refine k_run 0 (pc' := 72) (l' := [(0, .inr (.inr 406)), (1, .inl a), (2, .inl b), (3, .inr (.inr t3)), (4, .inl x4), (5, .inl x5), (6, .inl x6), (7, .inl y12)]) (st' := []) rfl ?_
            refine k_run 3 (pc' := 77) (l' := [(0, .inr (.inr 406)), (1, .inl a), (2, .inl b), (3, .inr (.inr t3)), (4, .inl x4), (5, .inl x5), (6, .inl x6), (7, .inl y12)]) (st' := [.inl x5, .inr (.inr t3), .inl y12]) rfl ?_
            refine h_cv (i := 73) (j := 51) (b := t3) (M' := mt_51) (xs := [.inl x5]) (rest := [.inl y12]) rfl rfl rfl rfl (by rw [zs_K hT3.1 (iT0 hT3)]; rfl) rfl (Nat.le_of_ble_eq_true rfl) (Nat.le_of_ble_eq_true rfl) (by omega) (k_Term_codeAt (by omega) hI hT3 (by omega)) ?_
            rintro _ _ ⟨z18, rfl, g14, rfl⟩
            refine k_run 0 (pc' := 80) (l' := [(0, .inr (.inr 406)), (1, .inl a), (2, .inl b), (3, .inr (.inr t3)), (4, .inl x4), (5, .inl x5), (6, .inl x6), (7, .inl y12)]) (st' := [.inl z18, .inl y12]) rfl ?_
            refine k_run 2 (pc' := 83) (l' := [(0, .inr (.inr 406)), (1, .inl a), (2, .inl b), (3, .inr (.inr t3)), (4, .inl x4), (5, .inl x5), (6, .inl x6), (7, .inl y12)]) (st' := [.inl (z_and z18 7), .inl y12]) rfl ?_
            have g19 : 0 ≤ (z_and z18 7) ∧ (z_and z18 7) ≤ 7 := z_and_le _ 7 (by decide)
            refine h_ile (off := 5) (t := 88) rfl rfl (by omega) (z_int _) (fun c20 => ?_) (fun c20 => ?_)
            · refine k_run 0 (pc' := 88) (l' := [(0, .inr (.inr 406)), (1, .inl a), (2, .inl b), (3, .inr (.inr t3)), (4, .inl x4), (5, .inl x5), (6, .inl x6), (7, .inl y12)]) (st' := []) rfl ?_
              refine k_run 1 (pc' := 91) (l' := [(0, .inr (.inr 406)), (1, .inl a), (2, .inl b), (3, .inr (.inr t3)), (4, .inl x4), (5, .inl (x5 + 1)), (6, .inl x6), (7, .inl y12)]) (st' := []) rfl ?_
              refine k_nrml 5 rfl rfl rfl (fun y21 hy21 => ?_)
              refine k_run 0 (pc' := 91) (l' := [(0, .inr (.inr 406)), (1, .inl a), (2, .inl b), (3, .inr (.inr t3)), (4, .inl x4), (5, .inl y21), (6, .inl x6), (7, .inl y12)]) (st' := []) rfl ?_
              refine k_run 2 (pc' := 94) (l' := [(0, .inr (.inr 406)), (1, .inl a), (2, .inl b), (3, .inr (.inr t3)), (4, .inl x4), (5, .inl y21), (6, .inl x6), (7, .inl y12), (8, .inl 1)]) (st' := []) rfl ?_
              exact ih.2.2 t3 n3 x4 y21 x6 y12 (1 : Int) hT3 (by omega) (by omega) (by omega) (by omega) (by decide) (by omega) (by omega) (by omega) (by omega)
            · refine k_run 0 (pc' := 86) (l' := [(0, .inr (.inr 406)), (1, .inl a), (2, .inl b), (3, .inr (.inr t3)), (4, .inl x4), (5, .inl x5), (6, .inl x6), (7, .inl y12)]) (st' := []) rfl ?_
              refine k_run 1 (pc' := 87) (l' := [(0, .inr (.inr 406)), (1, .inl a), (2, .inl b), (3, .inr (.inr t3)), (4, .inl x4), (5, .inl x5), (6, .inl x6), (7, .inl y12)]) (st' := [.inl (-1)]) rfl ?_
              refine h_reti (x := (-1)) rfl rfl ?_
              exact ⟨_, rfl, (by omega), rfl⟩
    · intro t3 n3 x4 x5 x6 x7 x8 hT3 hx4 hx5 hx6 hx7 hx8 hi0 hi1 hi2 hw
      have hT3b := hT3.2.2.2.2
      refine k_run 2 (pc' := 98) (l' := [(0, .inr (.inr 406)), (1, .inl a), (2, .inl b), (3, .inr (.inr t3)), (4, .inl x4), (5, .inl x5), (6, .inl x6), (7, .inl x7), (8, .inl x8)]) (st' := [.inl x7, .inl x8]) rfl ?_
      refine h_ige (off := 17) (t := 115) rfl rfl (by omega) (by omega) (fun c22 => ?_) (fun c22 => ?_)
      · refine k_run 0 (pc' := 115) (l' := [(0, .inr (.inr 406)), (1, .inl a), (2, .inl b), (3, .inr (.inr t3)), (4, .inl x4), (5, .inl x5), (6, .inl x6), (7, .inl x7), (8, .inl x8)]) (st' := []) rfl ?_
        refine k_run 2 (pc' := 119) (l' := [(0, .inr (.inr 406)), (1, .inl a), (2, .inl b), (3, .inr (.inr t3)), (4, .inl x4), (5, .inl x5), (6, .inl x6), (7, .inl x7), (8, .inl x8)]) (st' := [.inl 10, .inl x6]) rfl ?_
        refine h_idiv (x := x6) (y := 10) rfl (by omega) (by decide) (by omega : (10 : Int) ≠ 0) ?_
        refine k_run 0 (pc' := 120) (l' := [(0, .inr (.inr 406)), (1, .inl a), (2, .inl b), (3, .inr (.inr t3)), (4, .inl x4), (5, .inl x5), (6, .inl x6), (7, .inl x7), (8, .inl x8)]) (st' := [.inl (z_div x6 10)]) rfl ?_
        have hq120 := z_div_lt (x := x6) (by omega)
        refine k_run 2 (pc' := 48) (l' := [(0, .inr (.inr 406)), (1, .inl a), (2, .inl b), (3, .inr (.inr t3)), (4, .inl x4), (5, .inl x5), (6, .inl (z_div x6 10)), (7, .inl x7), (8, .inl x8)]) (st' := []) rfl ?_
        refine h_loc [0, 1, 2, 3, 4, 5, 6] rfl ?_
        exact ih.2.1 t3 n3 x4 x5 (z_div x6 10) hT3 (by omega) (by omega) (z_int _) (by omega) (by omega)
      · refine k_run 0 (pc' := 101) (l' := [(0, .inr (.inr 406)), (1, .inl a), (2, .inl b), (3, .inr (.inr t3)), (4, .inl x4), (5, .inl x5), (6, .inl x6), (7, .inl x7), (8, .inl x8)]) (st' := []) rfl ?_
        refine k_run 2 (pc' := 104) (l' := [(0, .inr (.inr 406)), (1, .inl a), (2, .inl b), (3, .inr (.inr t3)), (4, .inl x4), (5, .inl x5), (6, .inl x6), (7, .inl x7), (8, .inl x8)]) (st' := [.inl x5, .inr (.inr t3)]) rfl ?_
        refine h_cv (i := 77) (j := 53) (b := t3) (M' := mt_53) (xs := [.inl x5]) (rest := []) rfl rfl rfl rfl (by rw [zs_K hT3.1 (iT0 hT3)]; rfl) rfl (Nat.le_of_ble_eq_true rfl) (Nat.le_of_ble_eq_true rfl) (by omega) (k_Term_behind (by omega) hI hT3 (by omega)) ?_
        rintro _ _ ⟨z27, rfl, g23, rfl⟩
        refine k_run 0 (pc' := 107) (l' := [(0, .inr (.inr 406)), (1, .inl a), (2, .inl b), (3, .inr (.inr t3)), (4, .inl x4), (5, .inl x5), (6, .inl x6), (7, .inl x7), (8, .inl x8)]) (st' := [.inl z27]) rfl ?_
        refine k_run 3 (pc' := 94) (l' := [(0, .inr (.inr 406)), (1, .inl a), (2, .inl b), (3, .inr (.inr t3)), (4, .inl x4), (5, .inl z27), (6, .inl x6), (7, .inl x7), (8, .inl (x8 + 1))]) (st' := []) rfl ?_
        exact ih.2.2 t3 n3 x4 z27 x6 x7 (x8 + 1) hT3 (by omega) (by omega) (by omega) (by omega) (by omega) (by omega) (by omega) (by omega) (by omega)
set_option maxRecDepth 100000 in
theorem k_Prover_positionOf {d : Nat} (hd : 2 ≤ d) {H : hp} (hI : Inv H) {a : Int} {b : Int} (ha : -2147483648 ≤ a ∧ a ≤ 2147483647) (hb : -2147483648 ≤ b ∧ b ≤ 2147483647) (hp0 : 0 ≤ b) : hG (zs zK) d mt_116 0 (zargs 0 [.inr (.inr 406), .inl a, .inl b]) [] H (fun r9 H9 => ∃ z : Int, r9 = some (.inl z) ∧ ((-2147483648 ≤ z ∧ z ≤ 2147483647)) ∧ H = H9) := by
  refine k_run 0 (pc' := 0) (l' := [(0, .inr (.inr 406)), (1, .inl a), (2, .inl b)]) (st' := []) rfl ?_
  refine k_run 2 (pc' := 2) (l' := [(0, .inr (.inr 406)), (1, .inl a), (2, .inl b)]) (st' := [.inl a, .inr (.inr 406)]) rfl ?_
  refine h_cv (i := 69) (j := 115) (b := 406) (M' := mt_115) (xs := [.inl a]) (rest := []) rfl rfl rfl rfl (zs_K (x := kx_406) rfl (by decide)) rfl (Nat.le_of_ble_eq_true rfl) (Nat.le_of_ble_eq_true rfl) (by omega) (k_Prover_sideOf (by omega) hI (by omega)) ?_
  rintro _ _ ⟨t5, n6, rfl, g1, rfl⟩
  have g1b := g1.2.2.2.2
  refine k_run 0 (pc' := 5) (l' := [(0, .inr (.inr 406)), (1, .inl a), (2, .inl b)]) (st' := [.inr (.inr t5)]) rfl ?_
  refine k_run 5 (pc' := 12) (l' := [(0, .inr (.inr 406)), (1, .inl a), (2, .inl b), (3, .inr (.inr t5)), (4, .inl 1), (5, .inl 1)]) (st' := []) rfl ?_
  exact (k_Prover_positionOf_cut hd hI ha hb hp0 _).1 t5 n6 (1 : Int) (1 : Int) g1 (by decide) (by decide) (by omega) (by omega) (by omega) (Nat.lt_succ_self _)

/-! Prover.changeSide -/
set_option maxRecDepth 100000 in
theorem k_Prover_changeSide {d : Nat} (hd : 2 ≤ d) {H : hp} (hI : Inv H) {t n : Nat} (ht : isT t n) : hG (zs zK) d mt_123 0 (zargs 0 [.inr (.inr 406), .inr (.inr t)]) [] H (fun r9 H9 => ∃ z : Int, r9 = some (.inl z) ∧ ((-2147483648 ≤ z ∧ z ≤ 2147483647) ∧ (0 ≤ z ∧ z ≤ 12)) ∧ Inv H9 ∧ fq [(407, 3)] [] false H H9) := by
  have htb := ht.2.2.2.2
  refine k_run 0 (pc' := 0) (l' := [(0, .inr (.inr 406)), (1, .inr (.inr t))]) (st' := []) rfl ?_
  refine k_run 3 (pc' := 5) (l' := [(0, .inr (.inr 406)), (1, .inr (.inr t))]) (st' := [.inr (.inr 1350), .inr (.inr t)]) rfl ?_
  refine h_cv (i := 174) (j := 55) (b := t) (M' := mt_55) (xs := [.inr (.inr 1350)]) (rest := []) rfl rfl rfl rfl (by rw [zs_K ht.1 (iT0 ht)]; rfl) rfl (Nat.le_of_ble_eq_true rfl) (Nat.le_of_ble_eq_true rfl) (by omega) (k_Term_copy (by omega) hI ht iT_1350) ?_
  rintro _ H2 ⟨rfl, hI3, hq4⟩
  have hf5 : fq [(407, 3)] [] false H H2 := fq_t (fq_rf _ _ _ _) hq4 rfl rfl rfl
  refine k_run 0 (pc' := 8) (l' := [(0, .inr (.inr 406)), (1, .inr (.inr t))]) (st' := []) rfl ?_
  refine k_run 4 (pc' := 16) (l' := [(0, .inr (.inr 406)), (1, .inr (.inr t))]) (st' := [.inl (H2.1 407 3), .inr (.inr 407)]) rfl ?_
  have g6 : -2147483648 ≤ (H2.1 407 3) ∧ (H2.1 407 3) ≤ 2147483647 := kn (x := kx_407) hI3 rfl 3
  have e7 : (H2.1 407 3) = (H.1 407 3) := (hq4.1 407 3 rfl (by decide) (by decide)).1
  refine k_run 2 (pc' := 18) (l' := [(0, .inr (.inr 406)), (1, .inr (.inr t))]) (st' := [.inl ((H2.1 407 3) + 1), .inr (.inr 407)]) rfl ?_
  refine k_putw (a := 407) (x := kx_407) rfl rfl rfl (by decide) (by decide) rfl rfl rfl rfl hI3 rfl (fun H8 hI9 hw10 => ?_)
  have hf12 : fq [(407, 3)] [] false H H8 := fq_w hf5 hw10 (fpo (by decide) rfl)
  refine k_run 0 (pc' := 21) (l' := [(0, .inr (.inr 406)), (1, .inr (.inr t))]) (st' := []) rfl ?_
  refine k_run 3 (pc' := 28) (l' := [(0, .inr (.inr 406)), (1, .inr (.inr t))]) (st' := [.inl (H8.1 407 2)]) rfl ?_
  have g13 : 0 ≤ (H8.1 407 2) ∧ (H8.1 407 2) ≤ 12 := kn (x := kx_407) hI9 rfl 2
  have e14 : (H8.1 407 2) = (H2.1 407 2) := hw10.2 _ _ (fun q => absurd q.2 (by decide))
  have e15 : (H2.1 407 2) = (H.1 407 2) := (hq4.1 407 2 rfl (by decide) (by decide)).1
  refine h_reti (x := (H8.1 407 2)) rfl rfl ?_
  exact ⟨_, rfl, (by omega), hI9, hf12⟩

/-! Prover.unfoldAt -/
set_option maxRecDepth 100000 in
theorem k_Prover_unfoldAt {d : Nat} (hd : 4 ≤ d) {H : hp} (hI : Inv H) {a : Int} {b : Int} (ha : -2147483648 ≤ a ∧ a ≤ 2147483647) (hb : -2147483648 ≤ b ∧ b ≤ 2147483647) : hG (zs zK) d mt_117 0 (zargs 0 [.inr (.inr 406), .inl a, .inl b]) [] H (fun r9 H9 => ∃ z : Int, r9 = some (.inl z) ∧ ((-2147483648 ≤ z ∧ z ≤ 2147483647)) ∧ Inv H9 ∧ fq [(366, 4), (366, 5), (407, 3)] [367] false H H9) := by
  refine k_run 0 (pc' := 0) (l' := [(0, .inr (.inr 406)), (1, .inl a), (2, .inl b)]) (st' := []) rfl ?_
  refine k_run 2 (pc' := 2) (l' := [(0, .inr (.inr 406)), (1, .inl a), (2, .inl b)]) (st' := [.inl a, .inr (.inr 406)]) rfl ?_
  refine h_cv (i := 69) (j := 115) (b := 406) (M' := mt_115) (xs := [.inl a]) (rest := []) rfl rfl rfl rfl (zs_K (x := kx_406) rfl (by decide)) rfl (Nat.le_of_ble_eq_true rfl) (Nat.le_of_ble_eq_true rfl) (by omega) (k_Prover_sideOf (by omega) hI (by omega)) ?_
  rintro _ _ ⟨t5, n6, rfl, g1, rfl⟩
  have g1b := g1.2.2.2.2
  refine k_run 0 (pc' := 5) (l' := [(0, .inr (.inr 406)), (1, .inl a), (2, .inl b)]) (st' := [.inr (.inr t5)]) rfl ?_
  refine k_run 2 (pc' := 7) (l' := [(0, .inr (.inr 406)), (1, .inl a), (2, .inl b), (3, .inr (.inr t5))]) (st' := [.inl b]) rfl ?_
  refine h_zlt (off := 15) (t := 22) rfl rfl (by omega) (fun c7 => ?_) (fun c7 => ?_)
  · refine k_run 0 (pc' := 22) (l' := [(0, .inr (.inr 406)), (1, .inl a), (2, .inl b), (3, .inr (.inr t5))]) (st' := []) rfl ?_
    refine k_run 1 (pc' := 24) (l' := [(0, .inr (.inr 406)), (1, .inl a), (2, .inl b), (3, .inr (.inr t5))]) (st' := [.inl (-104)]) rfl ?_
    refine h_reti (x := (-104)) rfl rfl ?_
    exact ⟨_, rfl, (by omega), hI, (fq_rf _ _ _ _)⟩
  · refine k_run 0 (pc' := 10) (l' := [(0, .inr (.inr 406)), (1, .inl a), (2, .inl b), (3, .inr (.inr t5))]) (st' := []) rfl ?_
    refine k_run 2 (pc' := 12) (l' := [(0, .inr (.inr 406)), (1, .inl a), (2, .inl b), (3, .inr (.inr t5))]) (st' := [.inl b, .inr (.inr t5)]) rfl ?_
    refine h_cv (i := 73) (j := 51) (b := t5) (M' := mt_51) (xs := [.inl b]) (rest := []) rfl rfl rfl rfl (by rw [zs_K g1.1 (iT0 g1)]; rfl) rfl (Nat.le_of_ble_eq_true rfl) (Nat.le_of_ble_eq_true rfl) (by omega) (k_Term_codeAt (by omega) hI g1 (by omega)) ?_
    rintro _ _ ⟨z12, rfl, g8, rfl⟩
    refine k_run 0 (pc' := 15) (l' := [(0, .inr (.inr 406)), (1, .inl a), (2, .inl b), (3, .inr (.inr t5))]) (st' := [.inl z12]) rfl ?_
    refine h_cs (i := 80) (j := 49) (M' := mt_49) (xs := [.inl z12]) (rest := []) rfl rfl rfl rfl rfl (Nat.le_of_ble_eq_true rfl) (Nat.le_of_ble_eq_true rfl) (by omega) (k_Term_kindOf (by omega)  (by omega)) ?_
    rintro _ _ ⟨z17, rfl, g13, rfl⟩
    refine k_run 0 (pc' := 18) (l' := [(0, .inr (.inr 406)), (1, .inl a), (2, .inl b), (3, .inr (.inr t5))]) (st' := [.inl z17]) rfl ?_
    refine k_run 1 (pc' := 19) (l' := [(0, .inr (.inr 406)), (1, .inl a), (2, .inl b), (3, .inr (.inr t5))]) (st' := [.inl 2, .inl z17]) rfl ?_
    refine h_ieq (off := 6) (t := 25) rfl rfl (by omega) (by decide) (fun c18 => ?_) (fun c18 => ?_)
    · refine k_run 0 (pc' := 25) (l' := [(0, .inr (.inr 406)), (1, .inl a), (2, .inl b), (3, .inr (.inr t5))]) (st' := []) rfl ?_
      refine k_run 4 (pc' := 31) (l' := [(0, .inr (.inr 406)), (1, .inl a), (2, .inl b), (3, .inr (.inr t5))]) (st' := [.inl b, .inr (.inr t5), .inr (.inr 366)]) rfl ?_
      refine h_cv (i := 83) (j := 94) (b := 366) (M' := mt_94) (xs := [.inl b, .inr (.inr t5)]) (rest := []) rfl rfl rfl rfl (zs_K (x := kx_366) rfl (by decide)) rfl (Nat.le_of_ble_eq_true rfl) (Nat.le_of_ble_eq_true rfl) (by omega) (k_Rewriter_matchCall (by omega) hI g1 (by omega)) ?_
      rintro _ H20 ⟨z23, rfl, g19, hI21, hq22⟩
      have hf24 : fq [(366, 4), (366, 5), (407, 3)] [367] false H H20 := fq_t (fq_rf _ _ _ _) hq22 rfl rfl rfl
      refine k_run 0 (pc' := 34) (l' := [(0, .inr (.inr 406)), (1, .inl a), (2, .inl b), (3, .inr (.inr t5))]) (st' := [.inl z23]) rfl ?_
      refine k_run 1 (pc' := 35) (l' := [(0, .inr (.inr 406)), (1, .inl a), (2, .inl b), (3, .inr (.inr t5))]) (st' := [.inl 2, .inl z23]) rfl ?_
      refine h_ine (off := 6) (t := 41) rfl rfl (by omega) (by decide) (fun c25 => ?_) (fun c25 => ?_)
      · refine k_run 0 (pc' := 41) (l' := [(0, .inr (.inr 406)), (1, .inl a), (2, .inl b), (3, .inr (.inr t5))]) (st' := []) rfl ?_
        refine k_run 6 (pc' := 51) (l' := [(0, .inr (.inr 406)), (1, .inl a), (2, .inl b), (3, .inr (.inr t5))]) (st' := [.inr (.inr 366), .inl b, .inr (.inr t5), .inr (.inr 366)]) rfl ?_
        refine k_getr (a := 366) (x := kx_366) rfl rfl rfl (by decide) rfl rfl rfl hI21 (fun h26 => ?_)
        obtain ⟨t27, et29⟩ : ∃ t9, t9 = H20.2 366 4 := ⟨_, rfl⟩
        rw [← et29] at h26 ⊢
        obtain ⟨n30, k28⟩ := (show ∃ n, isT t27 n from h26)
        have k28b := k28.2.2.2.2
        refine k_run 0 (pc' := 54) (l' := [(0, .inr (.inr 406)), (1, .inl a), (2, .inl b), (3, .inr (.inr t5))]) (st' := [.inr (.inr t27), .inl b, .inr (.inr t5), .inr (.inr 366)]) rfl ?_
        refine k_run 2 (pc' := 58) (l' := [(0, .inr (.inr 406)), (1, .inl a), (2, .inl b), (3, .inr (.inr t5))]) (st' := [.inr (.inr 1350), .inr (.inr t27), .inl b, .inr (.inr t5), .inr (.inr 366)]) rfl ?_
        refine h_cv (i := 92) (j := 98) (b := 366) (M' := mt_98) (xs := [.inr (.inr 1350), .inr (.inr t27), .inl b, .inr (.inr t5)]) (rest := []) rfl rfl rfl rfl (zs_K (x := kx_366) rfl (by decide)) rfl (Nat.le_of_ble_eq_true rfl) (Nat.le_of_ble_eq_true rfl) (by omega) (k_Rewriter_replaceAt (by omega) hI21 g1 (by omega) k28 iT_1350) ?_
        rintro _ H32 ⟨z35, rfl, g31, hI33, hq34⟩
        have hf36 : fq [(366, 4), (366, 5), (407, 3)] [367] false H H32 := fq_t hf24 hq34 rfl rfl rfl
        refine k_run 0 (pc' := 61) (l' := [(0, .inr (.inr 406)), (1, .inl a), (2, .inl b), (3, .inr (.inr t5))]) (st' := [.inl z35]) rfl ?_
        refine h_zeq (off := 11) (t := 72) rfl rfl (by omega) (fun c37 => ?_) (fun c37 => ?_)
        · refine k_run 0 (pc' := 72) (l' := [(0, .inr (.inr 406)), (1, .inl a), (2, .inl b), (3, .inr (.inr t5))]) (st' := []) rfl ?_
          refine k_run 1 (pc' := 74) (l' := [(0, .inr (.inr 406)), (1, .inl a), (2, .inl b), (3, .inr (.inr t5))]) (st' := [.inl (-105)]) rfl ?_
          refine h_reti (x := (-105)) rfl rfl ?_
          exact ⟨_, rfl, (by omega), hI33, hf36⟩
        · refine k_run 0 (pc' := 64) (l' := [(0, .inr (.inr 406)), (1, .inl a), (2, .inl b), (3, .inr (.inr t5))]) (st' := []) rfl ?_
          refine k_run 2 (pc' := 66) (l' := [(0, .inr (.inr 406)), (1, .inl a), (2, .inl b), (3, .inr (.inr t5))]) (st' := [.inr (.inr t5), .inr (.inr 406)]) rfl ?_
          refine h_cv (i := 96) (j := 123) (b := 406) (M' := mt_123) (xs := [.inr (.inr t5)]) (rest := []) rfl rfl rfl rfl (zs_K (x := kx_406) rfl (by decide)) rfl (Nat.le_of_ble_eq_true rfl) (Nat.le_of_ble_eq_true rfl) (by omega) (k_Prover_changeSide (by omega) hI33 g1) ?_
          rintro _ H39 ⟨z42, rfl, g38, hI40, hq41⟩
          have hf43 : fq [(366, 4), (366, 5), (407, 3)] [367] false H H39 := fq_t hf36 hq41 rfl rfl rfl
          refine k_run 0 (pc' := 69) (l' := [(0, .inr (.inr 406)), (1, .inl a), (2, .inl b), (3, .inr (.inr t5))]) (st' := [.inl z42]) rfl ?_
          refine k_run 1 (pc' := 74) (l' := [(0, .inr (.inr 406)), (1, .inl a), (2, .inl b), (3, .inr (.inr t5))]) (st' := [.inl z42]) rfl ?_
          refine h_reti (x := z42) rfl rfl ?_
          exact ⟨_, rfl, (by omega), hI40, hf43⟩
      · refine k_run 0 (pc' := 38) (l' := [(0, .inr (.inr 406)), (1, .inl a), (2, .inl b), (3, .inr (.inr t5))]) (st' := []) rfl ?_
        refine k_run 1 (pc' := 40) (l' := [(0, .inr (.inr 406)), (1, .inl a), (2, .inl b), (3, .inr (.inr t5))]) (st' := [.inl (-104)]) rfl ?_
        refine h_reti (x := (-104)) rfl rfl ?_
        exact ⟨_, rfl, (by omega), hI21, hf24⟩
    · refine k_run 0 (pc' := 22) (l' := [(0, .inr (.inr 406)), (1, .inl a), (2, .inl b), (3, .inr (.inr t5))]) (st' := []) rfl ?_
      refine k_run 1 (pc' := 24) (l' := [(0, .inr (.inr 406)), (1, .inl a), (2, .inl b), (3, .inr (.inr t5))]) (st' := [.inl (-104)]) rfl ?_
      refine h_reti (x := (-104)) rfl rfl ?_
      exact ⟨_, rfl, (by omega), hI, (fq_rf _ _ _ _)⟩

/-! Prover.chooseLaw -/
set_option maxRecDepth 100000 in
theorem k_Prover_chooseLaw {d : Nat} (hd : 2 ≤ d) {H : hp} (hI : Inv H) {a : Int} {b : Int} (ha : -2147483648 ≤ a ∧ a ≤ 2147483647) (hb : 0 ≤ b ∧ b ≤ 1) : hG (zs zK) d mt_118 0 (zargs 0 [.inr (.inr 406), .inl a, .inl b]) [] H (fun r9 H9 => ∃ z : Int, r9 = some (.inl z) ∧ ((0 ≤ z ∧ z ≤ 1)) ∧ Inv H9 ∧ fq [(406, 6), (406, 7), (406, 8), (406, 9), (406, 10)] [] false H H9) := by
  refine k_run 0 (pc' := 0) (l' := [(0, .inr (.inr 406)), (1, .inl a), (2, .inl b)]) (st' := []) rfl ?_
  refine k_run 3 (pc' := 5) (l' := [(0, .inr (.inr 406)), (1, .inl a), (2, .inl b)]) (st' := [.inl a, .inr (.inr 7)]) rfl ?_
  refine h_cv (i := 100) (j := 35) (b := 7) (M' := mt_35) (xs := [.inl a]) (rest := []) rfl rfl rfl rfl (zs_K (x := kx_7) rfl (by decide)) rfl (Nat.le_of_ble_eq_true rfl) (Nat.le_of_ble_eq_true rfl) (by omega) (k_Program_hasLaw (by omega) hI (by omega)) ?_
  rintro _ _ ⟨z5, rfl, g1, rfl⟩
  refine k_run 0 (pc' := 8) (l' := [(0, .inr (.inr 406)), (1, .inl a), (2, .inl b)]) (st' := [.inl z5]) rfl ?_
  refine h_zne (off := 5) (t := 13) rfl rfl (by omega) (fun c6 => ?_) (fun c6 => ?_)
  · refine k_run 0 (pc' := 13) (l' := [(0, .inr (.inr 406)), (1, .inl a), (2, .inl b)]) (st' := []) rfl ?_
    refine k_run 4 (pc' := 21) (l' := [(0, .inr (.inr 406)), (1, .inl a), (2, .inl b)]) (st' := [.inl a, .inr (.inr 24)]) rfl ?_
    refine k_ald (c := 24) (j := (a).toNat) (i := a) (x := kx_24) rfl rfl (by decide) rfl (by decide) (by omega) (by omega) hI (fun h7 => ?_)
    obtain ⟨t8, et10⟩ : ∃ t9, t9 = H.2 24 (a).toNat := ⟨_, rfl⟩
    rw [← et10] at h7 ⊢
    have k9 : isE t8 := h7
    refine k_run 0 (pc' := 22) (l' := [(0, .inr (.inr 406)), (1, .inl a), (2, .inl b)]) (st' := [.inr (.inr t8)]) rfl ?_
    refine k_run 3 (pc' := 25) (l' := [(0, .inr (.inr 406)), (1, .inl a), (2, .inl b), (3, .inr (.inr t8))]) (st' := [.inl b, .inr (.inr 406)]) rfl ?_
    refine h_zeq (off := 10) (t := 35) rfl rfl (by omega) (fun c11 => ?_) (fun c11 => ?_)
    · refine k_run 0 (pc' := 35) (l' := [(0, .inr (.inr 406)), (1, .inl a), (2, .inl b), (3, .inr (.inr t8))]) (st' := [.inr (.inr 406)]) rfl ?_
      refine k_run 1 (pc' := 36) (l' := [(0, .inr (.inr 406)), (1, .inl a), (2, .inl b), (3, .inr (.inr t8))]) (st' := [.inr (.inr t8), .inr (.inr 406)]) rfl ?_
      refine k_get (a := t8) (x := (kEo t8)) (v := .inr (.inr (t8 + 1))) rfl rfl k9.1 (iE0 k9) rfl rfl rfl ?_
      refine k_run 0 (pc' := 39) (l' := [(0, .inr (.inr 406)), (1, .inl a), (2, .inl b), (3, .inr (.inr t8))]) (st' := [.inr (.inr (t8 + 1)), .inr (.inr 406)]) rfl ?_
      refine k_putr (t := (t8 + 1)) (a := 406) (x := kx_406) rfl rfl rfl (by decide) (by decide) rfl rfl (fun g9 e9 => congrArg Value.ref e9) rfl rfl hI (show ∃ n, isT (t8 + 1) n from ⟨_, (iEl k9)⟩) (fun H12 hI13 hw14 => ?_)
      have hf16 : fq [(406, 6), (406, 7), (406, 8), (406, 9), (406, 10)] [] false H H12 := fq_r (fq_rf _ _ _ _) hw14 (fpo (by decide) rfl)
      refine k_run 0 (pc' := 42) (l' := [(0, .inr (.inr 406)), (1, .inl a), (2, .inl b), (3, .inr (.inr t8))]) (st' := []) rfl ?_
      refine k_run 2 (pc' := 44) (l' := [(0, .inr (.inr 406)), (1, .inl a), (2, .inl b), (3, .inr (.inr t8))]) (st' := [.inl b, .inr (.inr 406)]) rfl ?_
      refine h_zeq (off := 10) (t := 54) rfl rfl (by omega) (fun c17 => ?_) (fun c17 => ?_)
      · refine k_run 0 (pc' := 54) (l' := [(0, .inr (.inr 406)), (1, .inl a), (2, .inl b), (3, .inr (.inr t8))]) (st' := [.inr (.inr 406)]) rfl ?_
        refine k_run 1 (pc' := 55) (l' := [(0, .inr (.inr 406)), (1, .inl a), (2, .inl b), (3, .inr (.inr t8))]) (st' := [.inr (.inr t8), .inr (.inr 406)]) rfl ?_
        refine k_get (a := t8) (x := (kEo t8)) (v := .inr (.inr (t8 + 3))) rfl rfl k9.1 (iE0 k9) rfl rfl rfl ?_
        refine k_run 0 (pc' := 58) (l' := [(0, .inr (.inr 406)), (1, .inl a), (2, .inl b), (3, .inr (.inr t8))]) (st' := [.inr (.inr (t8 + 3)), .inr (.inr 406)]) rfl ?_
        refine k_putr (t := (t8 + 3)) (a := 406) (x := kx_406) rfl rfl rfl (by decide) (by decide) rfl rfl (fun g9 e9 => congrArg Value.ref e9) rfl rfl hI13 (show ∃ n, isT (t8 + 3) n from ⟨_, (iEr k9)⟩) (fun H18 hI19 hw20 => ?_)
        have hf22 : fq [(406, 6), (406, 7), (406, 8), (406, 9), (406, 10)] [] false H H18 := fq_r hf16 hw20 (fpo (by decide) rfl)
        refine k_run 0 (pc' := 61) (l' := [(0, .inr (.inr 406)), (1, .inl a), (2, .inl b), (3, .inr (.inr t8))]) (st' := []) rfl ?_
        refine k_run 1 (pc' := 62) (l' := [(0, .inr (.inr 406)), (1, .inl a), (2, .inl b), (3, .inr (.inr t8))]) (st' := [.inr (.inr 406)]) rfl ?_
        refine h_ldc2 (i := 118) (z := (-1)) rfl rfl rfl ?_
        refine k_run 0 (pc' := 65) (l' := [(0, .inr (.inr 406)), (1, .inl a), (2, .inl b), (3, .inr (.inr t8))]) (st' := [.inr (.inl (-1)), .inr (.inr 406)]) rfl ?_
        refine k_putl (a := 406) (x := kx_406) rfl rfl rfl (by decide) (by decide) rfl rfl rfl rfl hI19 rfl (fun H23 hI24 hw25 => ?_)
        have hf27 : fq [(406, 6), (406, 7), (406, 8), (406, 9), (406, 10)] [] false H H23 := fq_w hf22 hw25 (fpo (by decide) rfl)
        refine k_run 0 (pc' := 68) (l' := [(0, .inr (.inr 406)), (1, .inl a), (2, .inl b), (3, .inr (.inr t8))]) (st' := []) rfl ?_
        refine k_run 2 (pc' := 70) (l' := [(0, .inr (.inr 406)), (1, .inl a), (2, .inl b), (3, .inr (.inr t8))]) (st' := [.inr (.inr t8), .inr (.inr 406)]) rfl ?_
        refine k_get (a := t8) (x := (kEo t8)) (v := .inl (H23.1 t8 6)) rfl rfl k9.1 (iE0 k9) rfl rfl rfl ?_
        have g28 : -2147483648 ≤ (H23.1 t8 6) ∧ (H23.1 t8 6) ≤ 2147483647 := kn hI24 k9.1 6
        have e29 : (H23.1 t8 6) = (H18.1 t8 6) := hw25.2 _ _ (fun q => by have h9 := (iEf k9); rw [q.1] at h9; exact absurd h9 (by decide))
        have e30 : (H18.1 t8 6) = (H12.1 t8 6) := congrFun (congrFun hw20.1 _) _
        have e31 : (H12.1 t8 6) = (H.1 t8 6) := congrFun (congrFun hw14.1 _) _
        refine k_run 0 (pc' := 73) (l' := [(0, .inr (.inr 406)), (1, .inl a), (2, .inl b), (3, .inr (.inr t8))]) (st' := [.inl (H23.1 t8 6), .inr (.inr 406)]) rfl ?_
        refine k_run 1 (pc' := 74) (l' := [(0, .inr (.inr 406)), (1, .inl a), (2, .inl b), (3, .inr (.inr t8))]) (st' := [.inl 2, .inl (H23.1 t8 6), .inr (.inr 406)]) rfl ?_
        refine h_ine (off := 7) (t := 81) rfl rfl (by omega) (by decide) (fun c32 => ?_) (fun c32 => ?_)
        · refine k_run 0 (pc' := 81) (l' := [(0, .inr (.inr 406)), (1, .inl a), (2, .inl b), (3, .inr (.inr t8))]) (st' := [.inr (.inr 406)]) rfl ?_
          refine h_ldc2 (i := 118) (z := (-1)) rfl rfl rfl ?_
          refine k_run 0 (pc' := 84) (l' := [(0, .inr (.inr 406)), (1, .inl a), (2, .inl b), (3, .inr (.inr t8))]) (st' := [.inr (.inl (-1)), .inr (.inr 406)]) rfl ?_
          refine k_putl (a := 406) (x := kx_406) rfl rfl rfl (by decide) (by decide) rfl rfl rfl rfl hI24 rfl (fun H33 hI34 hw35 => ?_)
          have hf37 : fq [(406, 6), (406, 7), (406, 8), (406, 9), (406, 10)] [] false H H33 := fq_w hf27 hw35 (fpo (by decide) rfl)
          refine k_run 0 (pc' := 87) (l' := [(0, .inr (.inr 406)), (1, .inl a), (2, .inl b), (3, .inr (.inr t8))]) (st' := []) rfl ?_
          refine k_run 2 (pc' := 89) (l' := [(0, .inr (.inr 406)), (1, .inl a), (2, .inl b), (3, .inr (.inr t8))]) (st' := [.inr (.inr t8), .inr (.inr 406)]) rfl ?_
          refine k_get (a := t8) (x := (kEo t8)) (v := .inr (.inr (t8 + 5))) rfl rfl k9.1 (iE0 k9) rfl rfl rfl ?_
          refine k_run 0 (pc' := 92) (l' := [(0, .inr (.inr 406)), (1, .inl a), (2, .inl b), (3, .inr (.inr t8))]) (st' := [.inr (.inr (t8 + 5)), .inr (.inr 406)]) rfl ?_
          refine k_putr (t := (t8 + 5)) (a := 406) (x := kx_406) rfl rfl rfl (by decide) (by decide) rfl rfl (fun g9 e9 => congrArg Value.ref e9) rfl rfl hI34 (show ∃ n, isA (t8 + 5) n from ⟨_, (iEa k9)⟩) (fun H38 hI39 hw40 => ?_)
          have hf42 : fq [(406, 6), (406, 7), (406, 8), (406, 9), (406, 10)] [] false H H38 := fq_r hf37 hw40 (fpo (by decide) rfl)
          refine k_run 0 (pc' := 95) (l' := [(0, .inr (.inr 406)), (1, .inl a), (2, .inl b), (3, .inr (.inr t8))]) (st' := []) rfl ?_
          refine k_run 1 (pc' := 96) (l' := [(0, .inr (.inr 406)), (1, .inl a), (2, .inl b), (3, .inr (.inr t8))]) (st' := [.inr (.inr t8)]) rfl ?_
          refine k_get (a := t8) (x := (kEo t8)) (v := .inl (H38.1 t8 6)) rfl rfl k9.1 (iE0 k9) rfl rfl rfl ?_
          have g43 : -2147483648 ≤ (H38.1 t8 6) ∧ (H38.1 t8 6) ≤ 2147483647 := kn hI39 k9.1 6
          have e44 : (H38.1 t8 6) = (H33.1 t8 6) := congrFun (congrFun hw40.1 _) _
          have e45 : (H33.1 t8 6) = (H23.1 t8 6) := hw35.2 _ _ (fun q => by have h9 := (iEf k9); rw [q.1] at h9; exact absurd h9 (by decide))
          refine k_run 0 (pc' := 99) (l' := [(0, .inr (.inr 406)), (1, .inl a), (2, .inl b), (3, .inr (.inr t8))]) (st' := [.inl (H38.1 t8 6)]) rfl ?_
          refine k_run 3 (pc' := 106) (l' := [(0, .inr (.inr 406)), (1, .inl a), (2, .inl b), (3, .inr (.inr t8))]) (st' := [.inl (H38.1 407 5), .inl (H38.1 t8 6)]) rfl ?_
          have g46 : 0 ≤ (H38.1 407 5) ∧ (H38.1 407 5) ≤ 1 := kn (x := kx_407) hI39 rfl 5
          have e47 : (H38.1 407 5) = (H33.1 407 5) := congrFun (congrFun hw40.1 _) _
          have e48 : (H33.1 407 5) = (H23.1 407 5) := hw35.2 _ _ (fun q => absurd q.1 (by decide))
          have e49 : (H23.1 407 5) = (H18.1 407 5) := hw25.2 _ _ (fun q => absurd q.1 (by decide))
          have e50 : (H18.1 407 5) = (H12.1 407 5) := congrFun (congrFun hw20.1 _) _
          have e51 : (H12.1 407 5) = (H.1 407 5) := congrFun (congrFun hw14.1 _) _
          refine h_zeq (off := 7) (t := 113) rfl rfl (by omega) (fun c52 => ?_) (fun c52 => ?_)
          · refine k_run 0 (pc' := 113) (l' := [(0, .inr (.inr 406)), (1, .inl a), (2, .inl b), (3, .inr (.inr t8))]) (st' := [.inl (H38.1 t8 6)]) rfl ?_
            refine k_run 1 (pc' := 114) (l' := [(0, .inr (.inr 406)), (1, .inl a), (2, .inl b), (3, .inr (.inr t8))]) (st' := [.inl 1, .inl (H38.1 t8 6)]) rfl ?_
            refine h_ilt (off := 7) (t := 121) rfl rfl (by omega) (by decide) (fun c53 => ?_) (fun c53 => ?_)
            · refine k_run 0 (pc' := 121) (l' := [(0, .inr (.inr 406)), (1, .inl a), (2, .inl b), (3, .inr (.inr t8))]) (st' := []) rfl ?_
              refine k_run 1 (pc' := 122) (l' := [(0, .inr (.inr 406)), (1, .inl a), (2, .inl b), (3, .inr (.inr t8))]) (st' := [.inl 0]) rfl ?_
              refine h_retz (x := 0) rfl rfl (by decide) ?_
              exact ⟨_, rfl, (by omega), hI39, hf42⟩
            · refine k_run 0 (pc' := 117) (l' := [(0, .inr (.inr 406)), (1, .inl a), (2, .inl b), (3, .inr (.inr t8))]) (st' := []) rfl ?_
              refine k_run 2 (pc' := 122) (l' := [(0, .inr (.inr 406)), (1, .inl a), (2, .inl b), (3, .inr (.inr t8))]) (st' := [.inl 1]) rfl ?_
              refine h_retz (x := 1) rfl rfl (by decide) ?_
              exact ⟨_, rfl, (by omega), hI39, hf42⟩
          · refine k_run 0 (pc' := 109) (l' := [(0, .inr (.inr 406)), (1, .inl a), (2, .inl b), (3, .inr (.inr t8))]) (st' := [.inl (H38.1 t8 6)]) rfl ?_
            refine k_run 2 (pc' := 114) (l' := [(0, .inr (.inr 406)), (1, .inl a), (2, .inl b), (3, .inr (.inr t8))]) (st' := [.inl 2, .inl (H38.1 t8 6)]) rfl ?_
            refine h_ilt (off := 7) (t := 121) rfl rfl (by omega) (by decide) (fun c54 => ?_) (fun c54 => ?_)
            · refine k_run 0 (pc' := 121) (l' := [(0, .inr (.inr 406)), (1, .inl a), (2, .inl b), (3, .inr (.inr t8))]) (st' := []) rfl ?_
              refine k_run 1 (pc' := 122) (l' := [(0, .inr (.inr 406)), (1, .inl a), (2, .inl b), (3, .inr (.inr t8))]) (st' := [.inl 0]) rfl ?_
              refine h_retz (x := 0) rfl rfl (by decide) ?_
              exact ⟨_, rfl, (by omega), hI39, hf42⟩
            · refine k_run 0 (pc' := 117) (l' := [(0, .inr (.inr 406)), (1, .inl a), (2, .inl b), (3, .inr (.inr t8))]) (st' := []) rfl ?_
              refine k_run 2 (pc' := 122) (l' := [(0, .inr (.inr 406)), (1, .inl a), (2, .inl b), (3, .inr (.inr t8))]) (st' := [.inl 1]) rfl ?_
              refine h_retz (x := 1) rfl rfl (by decide) ?_
              exact ⟨_, rfl, (by omega), hI39, hf42⟩
        · refine k_run 0 (pc' := 77) (l' := [(0, .inr (.inr 406)), (1, .inl a), (2, .inl b), (3, .inr (.inr t8))]) (st' := [.inr (.inr 406)]) rfl ?_
          refine k_run 2 (pc' := 84) (l' := [(0, .inr (.inr 406)), (1, .inl a), (2, .inl b), (3, .inr (.inr t8))]) (st' := [.inr (.inl 0), .inr (.inr 406)]) rfl ?_
          refine k_putl (a := 406) (x := kx_406) rfl rfl rfl (by decide) (by decide) rfl rfl rfl rfl hI24 rfl (fun H55 hI56 hw57 => ?_)
          have hf59 : fq [(406, 6), (406, 7), (406, 8), (406, 9), (406, 10)] [] false H H55 := fq_w hf27 hw57 (fpo (by decide) rfl)
          refine k_run 0 (pc' := 87) (l' := [(0, .inr (.inr 406)), (1, .inl a), (2, .inl b), (3, .inr (.inr t8))]) (st' := []) rfl ?_
          refine k_run 2 (pc' := 89) (l' := [(0, .inr (.inr 406)), (1, .inl a), (2, .inl b), (3, .inr (.inr t8))]) (st' := [.inr (.inr t8), .inr (.inr 406)]) rfl ?_
          refine k_get (a := t8) (x := (kEo t8)) (v := .inr (.inr (t8 + 5))) rfl rfl k9.1 (iE0 k9) rfl rfl rfl ?_
          refine k_run 0 (pc' := 92) (l' := [(0, .inr (.inr 406)), (1, .inl a), (2, .inl b), (3, .inr (.inr t8))]) (st' := [.inr (.inr (t8 + 5)), .inr (.inr 406)]) rfl ?_
          refine k_putr (t := (t8 + 5)) (a := 406) (x := kx_406) rfl rfl rfl (by decide) (by decide) rfl rfl (fun g9 e9 => congrArg Value.ref e9) rfl rfl hI56 (show ∃ n, isA (t8 + 5) n from ⟨_, (iEa k9)⟩) (fun H60 hI61 hw62 => ?_)
          have hf64 : fq [(406, 6), (406, 7), (406, 8), (406, 9), (406, 10)] [] false H H60 := fq_r hf59 hw62 (fpo (by decide) rfl)
          refine k_run 0 (pc' := 95) (l' := [(0, .inr (.inr 406)), (1, .inl a), (2, .inl b), (3, .inr (.inr t8))]) (st' := []) rfl ?_
          refine k_run 1 (pc' := 96) (l' := [(0, .inr (.inr 406)), (1, .inl a), (2, .inl b), (3, .inr (.inr t8))]) (st' := [.inr (.inr t8)]) rfl ?_
          refine k_get (a := t8) (x := (kEo t8)) (v := .inl (H60.1 t8 6)) rfl rfl k9.1 (iE0 k9) rfl rfl rfl ?_
          have g65 : -2147483648 ≤ (H60.1 t8 6) ∧ (H60.1 t8 6) ≤ 2147483647 := kn hI61 k9.1 6
          have e66 : (H60.1 t8 6) = (H55.1 t8 6) := congrFun (congrFun hw62.1 _) _
          have e67 : (H55.1 t8 6) = (H23.1 t8 6) := hw57.2 _ _ (fun q => by have h9 := (iEf k9); rw [q.1] at h9; exact absurd h9 (by decide))
          refine k_run 0 (pc' := 99) (l' := [(0, .inr (.inr 406)), (1, .inl a), (2, .inl b), (3, .inr (.inr t8))]) (st' := [.inl (H60.1 t8 6)]) rfl ?_
          refine k_run 3 (pc' := 106) (l' := [(0, .inr (.inr 406)), (1, .inl a), (2, .inl b), (3, .inr (.inr t8))]) (st' := [.inl (H60.1 407 5), .inl (H60.1 t8 6)]) rfl ?_
          have g68 : 0 ≤ (H60.1 407 5) ∧ (H60.1 407 5) ≤ 1 := kn (x := kx_407) hI61 rfl 5
          have e69 : (H60.1 407 5) = (H55.1 407 5) := congrFun (congrFun hw62.1 _) _
          have e70 : (H55.1 407 5) = (H23.1 407 5) := hw57.2 _ _ (fun q => absurd q.1 (by decide))
          have e71 : (H23.1 407 5) = (H18.1 407 5) := hw25.2 _ _ (fun q => absurd q.1 (by decide))
          have e72 : (H18.1 407 5) = (H12.1 407 5) := congrFun (congrFun hw20.1 _) _
          have e73 : (H12.1 407 5) = (H.1 407 5) := congrFun (congrFun hw14.1 _) _
          refine h_zeq (off := 7) (t := 113) rfl rfl (by omega) (fun c74 => ?_) (fun c74 => ?_)
          · refine k_run 0 (pc' := 113) (l' := [(0, .inr (.inr 406)), (1, .inl a), (2, .inl b), (3, .inr (.inr t8))]) (st' := [.inl (H60.1 t8 6)]) rfl ?_
            refine k_run 1 (pc' := 114) (l' := [(0, .inr (.inr 406)), (1, .inl a), (2, .inl b), (3, .inr (.inr t8))]) (st' := [.inl 1, .inl (H60.1 t8 6)]) rfl ?_
            refine h_ilt (off := 7) (t := 121) rfl rfl (by omega) (by decide) (fun c75 => ?_) (fun c75 => ?_)
            · refine k_run 0 (pc' := 121) (l' := [(0, .inr (.inr 406)), (1, .inl a), (2, .inl b), (3, .inr (.inr t8))]) (st' := []) rfl ?_
              refine k_run 1 (pc' := 122) (l' := [(0, .inr (.inr 406)), (1, .inl a), (2, .inl b), (3, .inr (.inr t8))]) (st' := [.inl 0]) rfl ?_
              refine h_retz (x := 0) rfl rfl (by decide) ?_
              exact ⟨_, rfl, (by omega), hI61, hf64⟩
            · refine k_run 0 (pc' := 117) (l' := [(0, .inr (.inr 406)), (1, .inl a), (2, .inl b), (3, .inr (.inr t8))]) (st' := []) rfl ?_
              refine k_run 2 (pc' := 122) (l' := [(0, .inr (.inr 406)), (1, .inl a), (2, .inl b), (3, .inr (.inr t8))]) (st' := [.inl 1]) rfl ?_
              refine h_retz (x := 1) rfl rfl (by decide) ?_
              exact ⟨_, rfl, (by omega), hI61, hf64⟩
          · refine k_run 0 (pc' := 109) (l' := [(0, .inr (.inr 406)), (1, .inl a), (2, .inl b), (3, .inr (.inr t8))]) (st' := [.inl (H60.1 t8 6)]) rfl ?_
            refine k_run 2 (pc' := 114) (l' := [(0, .inr (.inr 406)), (1, .inl a), (2, .inl b), (3, .inr (.inr t8))]) (st' := [.inl 2, .inl (H60.1 t8 6)]) rfl ?_
            refine h_ilt (off := 7) (t := 121) rfl rfl (by omega) (by decide) (fun c76 => ?_) (fun c76 => ?_)
            · refine k_run 0 (pc' := 121) (l' := [(0, .inr (.inr 406)), (1, .inl a), (2, .inl b), (3, .inr (.inr t8))]) (st' := []) rfl ?_
              refine k_run 1 (pc' := 122) (l' := [(0, .inr (.inr 406)), (1, .inl a), (2, .inl b), (3, .inr (.inr t8))]) (st' := [.inl 0]) rfl ?_
              refine h_retz (x := 0) rfl rfl (by decide) ?_
              exact ⟨_, rfl, (by omega), hI61, hf64⟩
            · refine k_run 0 (pc' := 117) (l' := [(0, .inr (.inr 406)), (1, .inl a), (2, .inl b), (3, .inr (.inr t8))]) (st' := []) rfl ?_
              refine k_run 2 (pc' := 122) (l' := [(0, .inr (.inr 406)), (1, .inl a), (2, .inl b), (3, .inr (.inr t8))]) (st' := [.inl 1]) rfl ?_
              refine h_retz (x := 1) rfl rfl (by decide) ?_
              exact ⟨_, rfl, (by omega), hI61, hf64⟩
      · exfalso
        omega
    · refine k_run 0 (pc' := 28) (l' := [(0, .inr (.inr 406)), (1, .inl a), (2, .inl b), (3, .inr (.inr t8))]) (st' := [.inr (.inr 406)]) rfl ?_
      refine k_run 1 (pc' := 29) (l' := [(0, .inr (.inr 406)), (1, .inl a), (2, .inl b), (3, .inr (.inr t8))]) (st' := [.inr (.inr t8), .inr (.inr 406)]) rfl ?_
      refine k_get (a := t8) (x := (kEo t8)) (v := .inr (.inr (t8 + 3))) rfl rfl k9.1 (iE0 k9) rfl rfl rfl ?_
      refine k_run 0 (pc' := 32) (l' := [(0, .inr (.inr 406)), (1, .inl a), (2, .inl b), (3, .inr (.inr t8))]) (st' := [.inr (.inr (t8 + 3)), .inr (.inr 406)]) rfl ?_
      refine k_run 1 (pc' := 39) (l' := [(0, .inr (.inr 406)), (1, .inl a), (2, .inl b), (3, .inr (.inr t8))]) (st' := [.inr (.inr (t8 + 3)), .inr (.inr 406)]) rfl ?_
      refine k_putr (t := (t8 + 3)) (a := 406) (x := kx_406) rfl rfl rfl (by decide) (by decide) rfl rfl (fun g9 e9 => congrArg Value.ref e9) rfl rfl hI (show ∃ n, isT (t8 + 3) n from ⟨_, (iEr k9)⟩) (fun H77 hI78 hw79 => ?_)
      have hf81 : fq [(406, 6), (406, 7), (406, 8), (406, 9), (406, 10)] [] false H H77 := fq_r (fq_rf _ _ _ _) hw79 (fpo (by decide) rfl)
      refine k_run 0 (pc' := 42) (l' := [(0, .inr (.inr 406)), (1, .inl a), (2, .inl b), (3, .inr (.inr t8))]) (st' := []) rfl ?_
      refine k_run 2 (pc' := 44) (l' := [(0, .inr (.inr 406)), (1, .inl a), (2, .inl b), (3, .inr (.inr t8))]) (st' := [.inl b, .inr (.inr 406)]) rfl ?_
      refine h_zeq (off := 10) (t := 54) rfl rfl (by omega) (fun c82 => ?_) (fun c82 => ?_)
      · exfalso
        omega
      · refine k_run 0 (pc' := 47) (l' := [(0, .inr (.inr 406)), (1, .inl a), (2, .inl b), (3, .inr (.inr t8))]) (st' := [.inr (.inr 406)]) rfl ?_
        refine k_run 1 (pc' := 48) (l' := [(0, .inr (.inr 406)), (1, .inl a), (2, .inl b), (3, .inr (.inr t8))]) (st' := [.inr (.inr t8), .inr (.inr 406)]) rfl ?_
        refine k_get (a := t8) (x := (kEo t8)) (v := .inr (.inr (t8 + 1))) rfl rfl k9.1 (iE0 k9) rfl rfl rfl ?_
        refine k_run 0 (pc' := 51) (l' := [(0, .inr (.inr 406)), (1, .inl a), (2, .inl b), (3, .inr (.inr t8))]) (st' := [.inr (.inr (t8 + 1)), .inr (.inr 406)]) rfl ?_
        refine k_run 1 (pc' := 58) (l' := [(0, .inr (.inr 406)), (1, .inl a), (2, .inl b), (3, .inr (.inr t8))]) (st' := [.inr (.inr (t8 + 1)), .inr (.inr 406)]) rfl ?_
        refine k_putr (t := (t8 + 1)) (a := 406) (x := kx_406) rfl rfl rfl (by decide) (by decide) rfl rfl (fun g9 e9 => congrArg Value.ref e9) rfl rfl hI78 (show ∃ n, isT (t8 + 1) n from ⟨_, (iEl k9)⟩) (fun H83 hI84 hw85 => ?_)
        have hf87 : fq [(406, 6), (406, 7), (406, 8), (406, 9), (406, 10)] [] false H H83 := fq_r hf81 hw85 (fpo (by decide) rfl)
        refine k_run 0 (pc' := 61) (l' := [(0, .inr (.inr 406)), (1, .inl a), (2, .inl b), (3, .inr (.inr t8))]) (st' := []) rfl ?_
        refine k_run 1 (pc' := 62) (l' := [(0, .inr (.inr 406)), (1, .inl a), (2, .inl b), (3, .inr (.inr t8))]) (st' := [.inr (.inr 406)]) rfl ?_
        refine h_ldc2 (i := 118) (z := (-1)) rfl rfl rfl ?_
        refine k_run 0 (pc' := 65) (l' := [(0, .inr (.inr 406)), (1, .inl a), (2, .inl b), (3, .inr (.inr t8))]) (st' := [.inr (.inl (-1)), .inr (.inr 406)]) rfl ?_
        refine k_putl (a := 406) (x := kx_406) rfl rfl rfl (by decide) (by decide) rfl rfl rfl rfl hI84 rfl (fun H88 hI89 hw90 => ?_)
        have hf92 : fq [(406, 6), (406, 7), (406, 8), (406, 9), (406, 10)] [] false H H88 := fq_w hf87 hw90 (fpo (by decide) rfl)
        refine k_run 0 (pc' := 68) (l' := [(0, .inr (.inr 406)), (1, .inl a), (2, .inl b), (3, .inr (.inr t8))]) (st' := []) rfl ?_
        refine k_run 2 (pc' := 70) (l' := [(0, .inr (.inr 406)), (1, .inl a), (2, .inl b), (3, .inr (.inr t8))]) (st' := [.inr (.inr t8), .inr (.inr 406)]) rfl ?_
        refine k_get (a := t8) (x := (kEo t8)) (v := .inl (H88.1 t8 6)) rfl rfl k9.1 (iE0 k9) rfl rfl rfl ?_
        have g93 : -2147483648 ≤ (H88.1 t8 6) ∧ (H88.1 t8 6) ≤ 2147483647 := kn hI89 k9.1 6
        have e94 : (H88.1 t8 6) = (H83.1 t8 6) := hw90.2 _ _ (fun q => by have h9 := (iEf k9); rw [q.1] at h9; exact absurd h9 (by decide))
        have e95 : (H83.1 t8 6) = (H77.1 t8 6) := congrFun (congrFun hw85.1 _) _
        have e96 : (H77.1 t8 6) = (H.1 t8 6) := congrFun (congrFun hw79.1 _) _
        refine k_run 0 (pc' := 73) (l' := [(0, .inr (.inr 406)), (1, .inl a), (2, .inl b), (3, .inr (.inr t8))]) (st' := [.inl (H88.1 t8 6), .inr (.inr 406)]) rfl ?_
        refine k_run 1 (pc' := 74) (l' := [(0, .inr (.inr 406)), (1, .inl a), (2, .inl b), (3, .inr (.inr t8))]) (st' := [.inl 2, .inl (H88.1 t8 6), .inr (.inr 406)]) rfl ?_
        refine h_ine (off := 7) (t := 81) rfl rfl (by omega) (by decide) (fun c97 => ?_) (fun c97 => ?_)
        · refine k_run 0 (pc' := 81) (l' := [(0, .inr (.inr 406)), (1, .inl a), (2, .inl b), (3, .inr (.inr t8))]) (st' := [.inr (.inr 406)]) rfl ?_
          refine h_ldc2 (i := 118) (z := (-1)) rfl rfl rfl ?_
          refine k_run 0 (pc' := 84) (l' := [(0, .inr (.inr 406)), (1, .inl a), (2, .inl b), (3, .inr (.inr t8))]) (st' := [.inr (.inl (-1)), .inr (.inr 406)]) rfl ?_
          refine k_putl (a := 406) (x := kx_406) rfl rfl rfl (by decide) (by decide) rfl rfl rfl rfl hI89 rfl (fun H98 hI99 hw100 => ?_)
          have hf102 : fq [(406, 6), (406, 7), (406, 8), (406, 9), (406, 10)] [] false H H98 := fq_w hf92 hw100 (fpo (by decide) rfl)
          refine k_run 0 (pc' := 87) (l' := [(0, .inr (.inr 406)), (1, .inl a), (2, .inl b), (3, .inr (.inr t8))]) (st' := []) rfl ?_
          refine k_run 2 (pc' := 89) (l' := [(0, .inr (.inr 406)), (1, .inl a), (2, .inl b), (3, .inr (.inr t8))]) (st' := [.inr (.inr t8), .inr (.inr 406)]) rfl ?_
          refine k_get (a := t8) (x := (kEo t8)) (v := .inr (.inr (t8 + 5))) rfl rfl k9.1 (iE0 k9) rfl rfl rfl ?_
          refine k_run 0 (pc' := 92) (l' := [(0, .inr (.inr 406)), (1, .inl a), (2, .inl b), (3, .inr (.inr t8))]) (st' := [.inr (.inr (t8 + 5)), .inr (.inr 406)]) rfl ?_
          refine k_putr (t := (t8 + 5)) (a := 406) (x := kx_406) rfl rfl rfl (by decide) (by decide) rfl rfl (fun g9 e9 => congrArg Value.ref e9) rfl rfl hI99 (show ∃ n, isA (t8 + 5) n from ⟨_, (iEa k9)⟩) (fun H103 hI104 hw105 => ?_)
          have hf107 : fq [(406, 6), (406, 7), (406, 8), (406, 9), (406, 10)] [] false H H103 := fq_r hf102 hw105 (fpo (by decide) rfl)
          refine k_run 0 (pc' := 95) (l' := [(0, .inr (.inr 406)), (1, .inl a), (2, .inl b), (3, .inr (.inr t8))]) (st' := []) rfl ?_
          refine k_run 1 (pc' := 96) (l' := [(0, .inr (.inr 406)), (1, .inl a), (2, .inl b), (3, .inr (.inr t8))]) (st' := [.inr (.inr t8)]) rfl ?_
          refine k_get (a := t8) (x := (kEo t8)) (v := .inl (H103.1 t8 6)) rfl rfl k9.1 (iE0 k9) rfl rfl rfl ?_
          have g108 : -2147483648 ≤ (H103.1 t8 6) ∧ (H103.1 t8 6) ≤ 2147483647 := kn hI104 k9.1 6
          have e109 : (H103.1 t8 6) = (H98.1 t8 6) := congrFun (congrFun hw105.1 _) _
          have e110 : (H98.1 t8 6) = (H88.1 t8 6) := hw100.2 _ _ (fun q => by have h9 := (iEf k9); rw [q.1] at h9; exact absurd h9 (by decide))
          refine k_run 0 (pc' := 99) (l' := [(0, .inr (.inr 406)), (1, .inl a), (2, .inl b), (3, .inr (.inr t8))]) (st' := [.inl (H103.1 t8 6)]) rfl ?_
          refine k_run 3 (pc' := 106) (l' := [(0, .inr (.inr 406)), (1, .inl a), (2, .inl b), (3, .inr (.inr t8))]) (st' := [.inl (H103.1 407 5), .inl (H103.1 t8 6)]) rfl ?_
          have g111 : 0 ≤ (H103.1 407 5) ∧ (H103.1 407 5) ≤ 1 := kn (x := kx_407) hI104 rfl 5
          have e112 : (H103.1 407 5) = (H98.1 407 5) := congrFun (congrFun hw105.1 _) _
          have e113 : (H98.1 407 5) = (H88.1 407 5) := hw100.2 _ _ (fun q => absurd q.1 (by decide))
          have e114 : (H88.1 407 5) = (H83.1 407 5) := hw90.2 _ _ (fun q => absurd q.1 (by decide))
          have e115 : (H83.1 407 5) = (H77.1 407 5) := congrFun (congrFun hw85.1 _) _
          have e116 : (H77.1 407 5) = (H.1 407 5) := congrFun (congrFun hw79.1 _) _
          refine h_zeq (off := 7) (t := 113) rfl rfl (by omega) (fun c117 => ?_) (fun c117 => ?_)
          · refine k_run 0 (pc' := 113) (l' := [(0, .inr (.inr 406)), (1, .inl a), (2, .inl b), (3, .inr (.inr t8))]) (st' := [.inl (H103.1 t8 6)]) rfl ?_
            refine k_run 1 (pc' := 114) (l' := [(0, .inr (.inr 406)), (1, .inl a), (2, .inl b), (3, .inr (.inr t8))]) (st' := [.inl 1, .inl (H103.1 t8 6)]) rfl ?_
            refine h_ilt (off := 7) (t := 121) rfl rfl (by omega) (by decide) (fun c118 => ?_) (fun c118 => ?_)
            · refine k_run 0 (pc' := 121) (l' := [(0, .inr (.inr 406)), (1, .inl a), (2, .inl b), (3, .inr (.inr t8))]) (st' := []) rfl ?_
              refine k_run 1 (pc' := 122) (l' := [(0, .inr (.inr 406)), (1, .inl a), (2, .inl b), (3, .inr (.inr t8))]) (st' := [.inl 0]) rfl ?_
              refine h_retz (x := 0) rfl rfl (by decide) ?_
              exact ⟨_, rfl, (by omega), hI104, hf107⟩
            · refine k_run 0 (pc' := 117) (l' := [(0, .inr (.inr 406)), (1, .inl a), (2, .inl b), (3, .inr (.inr t8))]) (st' := []) rfl ?_
              refine k_run 2 (pc' := 122) (l' := [(0, .inr (.inr 406)), (1, .inl a), (2, .inl b), (3, .inr (.inr t8))]) (st' := [.inl 1]) rfl ?_
              refine h_retz (x := 1) rfl rfl (by decide) ?_
              exact ⟨_, rfl, (by omega), hI104, hf107⟩
          · refine k_run 0 (pc' := 109) (l' := [(0, .inr (.inr 406)), (1, .inl a), (2, .inl b), (3, .inr (.inr t8))]) (st' := [.inl (H103.1 t8 6)]) rfl ?_
            refine k_run 2 (pc' := 114) (l' := [(0, .inr (.inr 406)), (1, .inl a), (2, .inl b), (3, .inr (.inr t8))]) (st' := [.inl 2, .inl (H103.1 t8 6)]) rfl ?_
            refine h_ilt (off := 7) (t := 121) rfl rfl (by omega) (by decide) (fun c119 => ?_) (fun c119 => ?_)
            · refine k_run 0 (pc' := 121) (l' := [(0, .inr (.inr 406)), (1, .inl a), (2, .inl b), (3, .inr (.inr t8))]) (st' := []) rfl ?_
              refine k_run 1 (pc' := 122) (l' := [(0, .inr (.inr 406)), (1, .inl a), (2, .inl b), (3, .inr (.inr t8))]) (st' := [.inl 0]) rfl ?_
              refine h_retz (x := 0) rfl rfl (by decide) ?_
              exact ⟨_, rfl, (by omega), hI104, hf107⟩
            · refine k_run 0 (pc' := 117) (l' := [(0, .inr (.inr 406)), (1, .inl a), (2, .inl b), (3, .inr (.inr t8))]) (st' := []) rfl ?_
              refine k_run 2 (pc' := 122) (l' := [(0, .inr (.inr 406)), (1, .inl a), (2, .inl b), (3, .inr (.inr t8))]) (st' := [.inl 1]) rfl ?_
              refine h_retz (x := 1) rfl rfl (by decide) ?_
              exact ⟨_, rfl, (by omega), hI104, hf107⟩
        · refine k_run 0 (pc' := 77) (l' := [(0, .inr (.inr 406)), (1, .inl a), (2, .inl b), (3, .inr (.inr t8))]) (st' := [.inr (.inr 406)]) rfl ?_
          refine k_run 2 (pc' := 84) (l' := [(0, .inr (.inr 406)), (1, .inl a), (2, .inl b), (3, .inr (.inr t8))]) (st' := [.inr (.inl 0), .inr (.inr 406)]) rfl ?_
          refine k_putl (a := 406) (x := kx_406) rfl rfl rfl (by decide) (by decide) rfl rfl rfl rfl hI89 rfl (fun H120 hI121 hw122 => ?_)
          have hf124 : fq [(406, 6), (406, 7), (406, 8), (406, 9), (406, 10)] [] false H H120 := fq_w hf92 hw122 (fpo (by decide) rfl)
          refine k_run 0 (pc' := 87) (l' := [(0, .inr (.inr 406)), (1, .inl a), (2, .inl b), (3, .inr (.inr t8))]) (st' := []) rfl ?_
          refine k_run 2 (pc' := 89) (l' := [(0, .inr (.inr 406)), (1, .inl a), (2, .inl b), (3, .inr (.inr t8))]) (st' := [.inr (.inr t8), .inr (.inr 406)]) rfl ?_
          refine k_get (a := t8) (x := (kEo t8)) (v := .inr (.inr (t8 + 5))) rfl rfl k9.1 (iE0 k9) rfl rfl rfl ?_
          refine k_run 0 (pc' := 92) (l' := [(0, .inr (.inr 406)), (1, .inl a), (2, .inl b), (3, .inr (.inr t8))]) (st' := [.inr (.inr (t8 + 5)), .inr (.inr 406)]) rfl ?_
          refine k_putr (t := (t8 + 5)) (a := 406) (x := kx_406) rfl rfl rfl (by decide) (by decide) rfl rfl (fun g9 e9 => congrArg Value.ref e9) rfl rfl hI121 (show ∃ n, isA (t8 + 5) n from ⟨_, (iEa k9)⟩) (fun H125 hI126 hw127 => ?_)
          have hf129 : fq [(406, 6), (406, 7), (406, 8), (406, 9), (406, 10)] [] false H H125 := fq_r hf124 hw127 (fpo (by decide) rfl)
          refine k_run 0 (pc' := 95) (l' := [(0, .inr (.inr 406)), (1, .inl a), (2, .inl b), (3, .inr (.inr t8))]) (st' := []) rfl ?_
          refine k_run 1 (pc' := 96) (l' := [(0, .inr (.inr 406)), (1, .inl a), (2, .inl b), (3, .inr (.inr t8))]) (st' := [.inr (.inr t8)]) rfl ?_
          refine k_get (a := t8) (x := (kEo t8)) (v := .inl (H125.1 t8 6)) rfl rfl k9.1 (iE0 k9) rfl rfl rfl ?_
          have g130 : -2147483648 ≤ (H125.1 t8 6) ∧ (H125.1 t8 6) ≤ 2147483647 := kn hI126 k9.1 6
          have e131 : (H125.1 t8 6) = (H120.1 t8 6) := congrFun (congrFun hw127.1 _) _
          have e132 : (H120.1 t8 6) = (H88.1 t8 6) := hw122.2 _ _ (fun q => by have h9 := (iEf k9); rw [q.1] at h9; exact absurd h9 (by decide))
          refine k_run 0 (pc' := 99) (l' := [(0, .inr (.inr 406)), (1, .inl a), (2, .inl b), (3, .inr (.inr t8))]) (st' := [.inl (H125.1 t8 6)]) rfl ?_
          refine k_run 3 (pc' := 106) (l' := [(0, .inr (.inr 406)), (1, .inl a), (2, .inl b), (3, .inr (.inr t8))]) (st' := [.inl (H125.1 407 5), .inl (H125.1 t8 6)]) rfl ?_
          have g133 : 0 ≤ (H125.1 407 5) ∧ (H125.1 407 5) ≤ 1 := kn (x := kx_407) hI126 rfl 5
          have e134 : (H125.1 407 5) = (H120.1 407 5) := congrFun (congrFun hw127.1 _) _
          have e135 : (H120.1 407 5) = (H88.1 407 5) := hw122.2 _ _ (fun q => absurd q.1 (by decide))
          have e136 : (H88.1 407 5) = (H83.1 407 5) := hw90.2 _ _ (fun q => absurd q.1 (by decide))
          have e137 : (H83.1 407 5) = (H77.1 407 5) := congrFun (congrFun hw85.1 _) _
          have e138 : (H77.1 407 5) = (H.1 407 5) := congrFun (congrFun hw79.1 _) _
          refine h_zeq (off := 7) (t := 113) rfl rfl (by omega) (fun c139 => ?_) (fun c139 => ?_)
          · refine k_run 0 (pc' := 113) (l' := [(0, .inr (.inr 406)), (1, .inl a), (2, .inl b), (3, .inr (.inr t8))]) (st' := [.inl (H125.1 t8 6)]) rfl ?_
            refine k_run 1 (pc' := 114) (l' := [(0, .inr (.inr 406)), (1, .inl a), (2, .inl b), (3, .inr (.inr t8))]) (st' := [.inl 1, .inl (H125.1 t8 6)]) rfl ?_
            refine h_ilt (off := 7) (t := 121) rfl rfl (by omega) (by decide) (fun c140 => ?_) (fun c140 => ?_)
            · refine k_run 0 (pc' := 121) (l' := [(0, .inr (.inr 406)), (1, .inl a), (2, .inl b), (3, .inr (.inr t8))]) (st' := []) rfl ?_
              refine k_run 1 (pc' := 122) (l' := [(0, .inr (.inr 406)), (1, .inl a), (2, .inl b), (3, .inr (.inr t8))]) (st' := [.inl 0]) rfl ?_
              refine h_retz (x := 0) rfl rfl (by decide) ?_
              exact ⟨_, rfl, (by omega), hI126, hf129⟩
            · refine k_run 0 (pc' := 117) (l' := [(0, .inr (.inr 406)), (1, .inl a), (2, .inl b), (3, .inr (.inr t8))]) (st' := []) rfl ?_
              refine k_run 2 (pc' := 122) (l' := [(0, .inr (.inr 406)), (1, .inl a), (2, .inl b), (3, .inr (.inr t8))]) (st' := [.inl 1]) rfl ?_
              refine h_retz (x := 1) rfl rfl (by decide) ?_
              exact ⟨_, rfl, (by omega), hI126, hf129⟩
          · refine k_run 0 (pc' := 109) (l' := [(0, .inr (.inr 406)), (1, .inl a), (2, .inl b), (3, .inr (.inr t8))]) (st' := [.inl (H125.1 t8 6)]) rfl ?_
            refine k_run 2 (pc' := 114) (l' := [(0, .inr (.inr 406)), (1, .inl a), (2, .inl b), (3, .inr (.inr t8))]) (st' := [.inl 2, .inl (H125.1 t8 6)]) rfl ?_
            refine h_ilt (off := 7) (t := 121) rfl rfl (by omega) (by decide) (fun c141 => ?_) (fun c141 => ?_)
            · refine k_run 0 (pc' := 121) (l' := [(0, .inr (.inr 406)), (1, .inl a), (2, .inl b), (3, .inr (.inr t8))]) (st' := []) rfl ?_
              refine k_run 1 (pc' := 122) (l' := [(0, .inr (.inr 406)), (1, .inl a), (2, .inl b), (3, .inr (.inr t8))]) (st' := [.inl 0]) rfl ?_
              refine h_retz (x := 0) rfl rfl (by decide) ?_
              exact ⟨_, rfl, (by omega), hI126, hf129⟩
            · refine k_run 0 (pc' := 117) (l' := [(0, .inr (.inr 406)), (1, .inl a), (2, .inl b), (3, .inr (.inr t8))]) (st' := []) rfl ?_
              refine k_run 2 (pc' := 122) (l' := [(0, .inr (.inr 406)), (1, .inl a), (2, .inl b), (3, .inr (.inr t8))]) (st' := [.inl 1]) rfl ?_
              refine h_retz (x := 1) rfl rfl (by decide) ?_
              exact ⟨_, rfl, (by omega), hI126, hf129⟩
  · refine k_run 0 (pc' := 11) (l' := [(0, .inr (.inr 406)), (1, .inl a), (2, .inl b)]) (st' := []) rfl ?_
    refine k_run 1 (pc' := 12) (l' := [(0, .inr (.inr 406)), (1, .inl a), (2, .inl b)]) (st' := [.inl 0]) rfl ?_
    refine h_retz (x := 0) rfl rfl (by decide) ?_
    exact ⟨_, rfl, (by omega), hI, (fq_rf _ _ _ _)⟩

/-! Prover.chooseHypothesis -/
set_option maxRecDepth 100000 in
theorem k_Prover_chooseHypothesis {d : Nat} (hd : 1 ≤ d) {H : hp} (hI : Inv H) {a : Int} {b : Int} (ha : -2147483648 ≤ a ∧ a ≤ 2147483647) (hb : 0 ≤ b ∧ b ≤ 1) : hG (zs zK) d mt_119 0 (zargs 0 [.inr (.inr 406), .inl a, .inl b]) [] H (fun r9 H9 => ∃ z : Int, r9 = some (.inl z) ∧ ((0 ≤ z ∧ z ≤ 1)) ∧ Inv H9 ∧ fq [(406, 6), (406, 7), (406, 8), (406, 9), (406, 10)] [] false H H9) := by
  refine k_run 0 (pc' := 0) (l' := [(0, .inr (.inr 406)), (1, .inl a), (2, .inl b)]) (st' := []) rfl ?_
  refine k_run 4 (pc' := 8) (l' := [(0, .inr (.inr 406)), (1, .inl a), (2, .inl b)]) (st' := [.inl 0, .inr (.inr 408)]) rfl ?_
  refine k_ald (c := 408) (j := 0) (i := 0) (x := kx_408) rfl rfl (by decide) rfl (by decide) rfl (by decide) hI (fun h1 => ?_)
  obtain ⟨t2, et4⟩ : ∃ t9, t9 = H.2 408 0 := ⟨_, rfl⟩
  rw [← et4] at h1 ⊢
  have k3 : isG t2 := h1
  refine k_run 0 (pc' := 9) (l' := [(0, .inr (.inr 406)), (1, .inl a), (2, .inl b)]) (st' := [.inr (.inr t2)]) rfl ?_
  refine k_run 2 (pc' := 11) (l' := [(0, .inr (.inr 406)), (1, .inl a), (2, .inl b), (3, .inr (.inr t2))]) (st' := [.inl a]) rfl ?_
  refine h_zlt (off := 17) (t := 28) rfl rfl (by omega) (fun c5 => ?_) (fun c5 => ?_)
  · refine k_run 0 (pc' := 28) (l' := [(0, .inr (.inr 406)), (1, .inl a), (2, .inl b), (3, .inr (.inr t2))]) (st' := []) rfl ?_
    refine k_run 1 (pc' := 29) (l' := [(0, .inr (.inr 406)), (1, .inl a), (2, .inl b), (3, .inr (.inr t2))]) (st' := [.inl 0]) rfl ?_
    refine h_retz (x := 0) rfl rfl (by decide) ?_
    exact ⟨_, rfl, (by omega), hI, (fq_rf _ _ _ _)⟩
  · refine k_run 0 (pc' := 14) (l' := [(0, .inr (.inr 406)), (1, .inl a), (2, .inl b), (3, .inr (.inr t2))]) (st' := []) rfl ?_
    refine k_run 2 (pc' := 16) (l' := [(0, .inr (.inr 406)), (1, .inl a), (2, .inl b), (3, .inr (.inr t2))]) (st' := [.inr (.inr t2), .inl a]) rfl ?_
    refine k_get (a := t2) (x := (kGo t2)) (v := .inl (H.1 t2 2)) rfl rfl k3.1 (iG0 k3) rfl rfl rfl ?_
    have g6 : 0 ≤ (H.1 t2 2) ∧ (H.1 t2 2) ≤ 8 := kn hI k3.1 2
    refine k_run 0 (pc' := 19) (l' := [(0, .inr (.inr 406)), (1, .inl a), (2, .inl b), (3, .inr (.inr t2))]) (st' := [.inl (H.1 t2 2), .inl a]) rfl ?_
    refine h_ige (off := 9) (t := 28) rfl rfl (by omega) (by omega) (fun c7 => ?_) (fun c7 => ?_)
    · refine k_run 0 (pc' := 28) (l' := [(0, .inr (.inr 406)), (1, .inl a), (2, .inl b), (3, .inr (.inr t2))]) (st' := []) rfl ?_
      refine k_run 1 (pc' := 29) (l' := [(0, .inr (.inr 406)), (1, .inl a), (2, .inl b), (3, .inr (.inr t2))]) (st' := [.inl 0]) rfl ?_
      refine h_retz (x := 0) rfl rfl (by decide) ?_
      exact ⟨_, rfl, (by omega), hI, (fq_rf _ _ _ _)⟩
    · refine k_run 0 (pc' := 22) (l' := [(0, .inr (.inr 406)), (1, .inl a), (2, .inl b), (3, .inr (.inr t2))]) (st' := []) rfl ?_
      refine k_run 2 (pc' := 25) (l' := [(0, .inr (.inr 406)), (1, .inl a), (2, .inl b), (3, .inr (.inr t2))]) (st' := [.inl 8, .inl a]) rfl ?_
      refine h_ilt (off := 5) (t := 30) rfl rfl (by omega) (by decide) (fun c8 => ?_) (fun c8 => ?_)
      · refine k_run 0 (pc' := 30) (l' := [(0, .inr (.inr 406)), (1, .inl a), (2, .inl b), (3, .inr (.inr t2))]) (st' := []) rfl ?_
        refine k_run 2 (pc' := 32) (l' := [(0, .inr (.inr 406)), (1, .inl a), (2, .inl b), (3, .inr (.inr t2))]) (st' := [.inr (.inr t2), .inr (.inr 406)]) rfl ?_
        refine k_get (a := t2) (x := (kGo t2)) (v := .inr (.inr (t2 + 1))) rfl rfl k3.1 (iG0 k3) rfl rfl rfl ?_
        refine k_run 0 (pc' := 35) (l' := [(0, .inr (.inr 406)), (1, .inl a), (2, .inl b), (3, .inr (.inr t2))]) (st' := [.inr (.inr (t2 + 1)), .inr (.inr 406)]) rfl ?_
        refine k_run 6 (pc' := 41) (l' := [(0, .inr (.inr 406)), (1, .inl a), (2, .inl b), (3, .inr (.inr t2))]) (st' := [.inl b, .inl (2 + (2 * a)), .inr (.inr (t2 + 1)), .inr (.inr 406)]) rfl ?_
        refine h_zeq (off := 7) (t := 48) rfl rfl (by omega) (fun c9 => ?_) (fun c9 => ?_)
        · refine k_run 0 (pc' := 48) (l' := [(0, .inr (.inr 406)), (1, .inl a), (2, .inl b), (3, .inr (.inr t2))]) (st' := [.inl (2 + (2 * a)), .inr (.inr (t2 + 1)), .inr (.inr 406)]) rfl ?_
          refine k_run 2 (pc' := 50) (l' := [(0, .inr (.inr 406)), (1, .inl a), (2, .inl b), (3, .inr (.inr t2))]) (st' := [.inl ((2 + (2 * a)) + 0), .inr (.inr (t2 + 1)), .inr (.inr 406)]) rfl ?_
          refine k_ald (c := (t2 + 1)) (j := (((2 + (2 * a)) + 0)).toNat) (i := ((2 + (2 * a)) + 0)) (x := kGt) rfl k3.2.1 (iG1 k3) rfl (by decide) (by omega) (by omega) hI (fun h10 => ?_)
          obtain ⟨t11, et13⟩ : ∃ t9, t9 = H.2 (t2 + 1) (((2 + (2 * a)) + 0)).toNat := ⟨_, rfl⟩
          rw [← et13] at h10 ⊢
          obtain ⟨n14, k12⟩ := (show (∃ n, isT t11 n) ∧ 369 < t11 from h10).1
          have k12b := k12.2.2.2.2
          refine k_run 0 (pc' := 51) (l' := [(0, .inr (.inr 406)), (1, .inl a), (2, .inl b), (3, .inr (.inr t2))]) (st' := [.inr (.inr t11), .inr (.inr 406)]) rfl ?_
          refine k_putr (t := t11) (a := 406) (x := kx_406) rfl rfl rfl (by decide) (by decide) rfl rfl (fun g9 e9 => congrArg Value.ref e9) rfl rfl hI (show ∃ n, isT t11 n from ⟨_, k12⟩) (fun H15 hI16 hw17 => ?_)
          have hf19 : fq [(406, 6), (406, 7), (406, 8), (406, 9), (406, 10)] [] false H H15 := fq_r (fq_rf _ _ _ _) hw17 (fpo (by decide) rfl)
          refine k_run 0 (pc' := 54) (l' := [(0, .inr (.inr 406)), (1, .inl a), (2, .inl b), (3, .inr (.inr t2))]) (st' := []) rfl ?_
          refine k_run 2 (pc' := 56) (l' := [(0, .inr (.inr 406)), (1, .inl a), (2, .inl b), (3, .inr (.inr t2))]) (st' := [.inr (.inr t2), .inr (.inr 406)]) rfl ?_
          refine k_get (a := t2) (x := (kGo t2)) (v := .inr (.inr (t2 + 1))) rfl rfl k3.1 (iG0 k3) rfl rfl rfl ?_
          refine k_run 0 (pc' := 59) (l' := [(0, .inr (.inr 406)), (1, .inl a), (2, .inl b), (3, .inr (.inr t2))]) (st' := [.inr (.inr (t2 + 1)), .inr (.inr 406)]) rfl ?_
          refine k_run 6 (pc' := 65) (l' := [(0, .inr (.inr 406)), (1, .inl a), (2, .inl b), (3, .inr (.inr t2))]) (st' := [.inl b, .inl (2 + (2 * a)), .inr (.inr (t2 + 1)), .inr (.inr 406)]) rfl ?_
          refine h_zeq (off := 7) (t := 72) rfl rfl (by omega) (fun c20 => ?_) (fun c20 => ?_)
          · refine k_run 0 (pc' := 72) (l' := [(0, .inr (.inr 406)), (1, .inl a), (2, .inl b), (3, .inr (.inr t2))]) (st' := [.inl (2 + (2 * a)), .inr (.inr (t2 + 1)), .inr (.inr 406)]) rfl ?_
            refine k_run 2 (pc' := 74) (l' := [(0, .inr (.inr 406)), (1, .inl a), (2, .inl b), (3, .inr (.inr t2))]) (st' := [.inl ((2 + (2 * a)) + 1), .inr (.inr (t2 + 1)), .inr (.inr 406)]) rfl ?_
            refine k_ald (c := (t2 + 1)) (j := (((2 + (2 * a)) + 1)).toNat) (i := ((2 + (2 * a)) + 1)) (x := kGt) rfl k3.2.1 (iG1 k3) rfl (by decide) (by omega) (by omega) hI16 (fun h21 => ?_)
            obtain ⟨t22, et24⟩ : ∃ t9, t9 = H15.2 (t2 + 1) (((2 + (2 * a)) + 1)).toNat := ⟨_, rfl⟩
            rw [← et24] at h21 ⊢
            obtain ⟨n25, k23⟩ := (show (∃ n, isT t22 n) ∧ 369 < t22 from h21).1
            have k23b := k23.2.2.2.2
            refine k_run 0 (pc' := 75) (l' := [(0, .inr (.inr 406)), (1, .inl a), (2, .inl b), (3, .inr (.inr t2))]) (st' := [.inr (.inr t22), .inr (.inr 406)]) rfl ?_
            refine k_putr (t := t22) (a := 406) (x := kx_406) rfl rfl rfl (by decide) (by decide) rfl rfl (fun g9 e9 => congrArg Value.ref e9) rfl rfl hI16 (show ∃ n, isT t22 n from ⟨_, k23⟩) (fun H26 hI27 hw28 => ?_)
            have hf30 : fq [(406, 6), (406, 7), (406, 8), (406, 9), (406, 10)] [] false H H26 := fq_r hf19 hw28 (fpo (by decide) rfl)
            refine k_run 0 (pc' := 78) (l' := [(0, .inr (.inr 406)), (1, .inl a), (2, .inl b), (3, .inr (.inr t2))]) (st' := []) rfl ?_
            refine k_run 2 (pc' := 80) (l' := [(0, .inr (.inr 406)), (1, .inl a), (2, .inl b), (3, .inr (.inr t2))]) (st' := [.inr (.inr t2), .inr (.inr 406)]) rfl ?_
            refine k_get (a := t2) (x := (kGo t2)) (v := .inr (.inr (t2 + 2))) rfl rfl k3.1 (iG0 k3) rfl rfl rfl ?_
            refine k_run 0 (pc' := 83) (l' := [(0, .inr (.inr 406)), (1, .inl a), (2, .inl b), (3, .inr (.inr t2))]) (st' := [.inr (.inr (t2 + 2)), .inr (.inr 406)]) rfl ?_
            refine k_run 1 (pc' := 84) (l' := [(0, .inr (.inr 406)), (1, .inl a), (2, .inl b), (3, .inr (.inr t2))]) (st' := [.inl a, .inr (.inr (t2 + 2)), .inr (.inr 406)]) rfl ?_
            refine k_lld (c := (t2 + 2)) (j := (a).toNat) (i := a) (x := kGf) rfl k3.2.2.1 (iG2 k3) rfl (by decide) (by omega) (by omega) ?_
            have g31 : -9223372036854775808 ≤ (H26.1 (t2 + 2) (a).toNat) ∧ (H26.1 (t2 + 2) (a).toNat) ≤ 9223372036854775807 := kn hI27 k3.2.2.1 (a).toNat
            refine k_run 0 (pc' := 85) (l' := [(0, .inr (.inr 406)), (1, .inl a), (2, .inl b), (3, .inr (.inr t2))]) (st' := [.inr (.inl (H26.1 (t2 + 2) (a).toNat)), .inr (.inr 406)]) rfl ?_
            refine k_putl (a := 406) (x := kx_406) rfl rfl rfl (by decide) (by decide) rfl rfl rfl rfl hI27 rfl (fun H32 hI33 hw34 => ?_)
            have hf36 : fq [(406, 6), (406, 7), (406, 8), (406, 9), (406, 10)] [] false H H32 := fq_w hf30 hw34 (fpo (by decide) rfl)
            refine k_run 0 (pc' := 88) (l' := [(0, .inr (.inr 406)), (1, .inl a), (2, .inl b), (3, .inr (.inr t2))]) (st' := []) rfl ?_
            refine k_run 4 (pc' := 96) (l' := [(0, .inr (.inr 406)), (1, .inl a), (2, .inl b), (3, .inr (.inr t2))]) (st' := [.inl (H32.1 407 5), .inr (.inr 406)]) rfl ?_
            have g37 : 0 ≤ (H32.1 407 5) ∧ (H32.1 407 5) ≤ 1 := kn (x := kx_407) hI33 rfl 5
            have e38 : (H32.1 407 5) = (H26.1 407 5) := hw34.2 _ _ (fun q => absurd q.1 (by decide))
            have e39 : (H26.1 407 5) = (H15.1 407 5) := congrFun (congrFun hw28.1 _) _
            have e40 : (H15.1 407 5) = (H.1 407 5) := congrFun (congrFun hw17.1 _) _
            refine h_zeq (off := 7) (t := 103) rfl rfl (by omega) (fun c41 => ?_) (fun c41 => ?_)
            · refine k_run 0 (pc' := 103) (l' := [(0, .inr (.inr 406)), (1, .inl a), (2, .inl b), (3, .inr (.inr t2))]) (st' := [.inr (.inr 406)]) rfl ?_
              refine k_run 3 (pc' := 110) (l' := [(0, .inr (.inr 406)), (1, .inl a), (2, .inl b), (3, .inr (.inr t2))]) (st' := [.inr (.inl (H32.1 407 7)), .inr (.inr 406)]) rfl ?_
              have g42 : -9223372036854775808 ≤ (H32.1 407 7) ∧ (H32.1 407 7) ≤ 9223372036854775807 := kn (x := kx_407) hI33 rfl 7
              have e43 : (H32.1 407 7) = (H26.1 407 7) := hw34.2 _ _ (fun q => absurd q.1 (by decide))
              have e44 : (H26.1 407 7) = (H15.1 407 7) := congrFun (congrFun hw28.1 _) _
              have e45 : (H15.1 407 7) = (H.1 407 7) := congrFun (congrFun hw17.1 _) _
              refine k_putl (a := 406) (x := kx_406) rfl rfl rfl (by decide) (by decide) rfl rfl rfl rfl hI33 rfl (fun H46 hI47 hw48 => ?_)
              have hf50 : fq [(406, 6), (406, 7), (406, 8), (406, 9), (406, 10)] [] false H H46 := fq_w hf36 hw48 (fpo (by decide) rfl)
              refine k_run 0 (pc' := 113) (l' := [(0, .inr (.inr 406)), (1, .inl a), (2, .inl b), (3, .inr (.inr t2))]) (st' := []) rfl ?_
              refine k_run 4 (pc' := 121) (l' := [(0, .inr (.inr 406)), (1, .inl a), (2, .inl b), (3, .inr (.inr t2))]) (st' := [.inr (.inr 409), .inr (.inr 406)]) rfl ?_
              refine k_putr (t := 409) (a := 406) (x := kx_406) rfl rfl rfl (by decide) (by decide) rfl rfl (fun g9 e9 => congrArg Value.ref e9) rfl rfl hI47 (show ∃ n, isA 409 n from ⟨_, iA_409⟩) (fun H51 hI52 hw53 => ?_)
              have hf55 : fq [(406, 6), (406, 7), (406, 8), (406, 9), (406, 10)] [] false H H51 := fq_r hf50 hw53 (fpo (by decide) rfl)
              refine k_run 0 (pc' := 124) (l' := [(0, .inr (.inr 406)), (1, .inl a), (2, .inl b), (3, .inr (.inr t2))]) (st' := []) rfl ?_
              refine k_run 1 (pc' := 125) (l' := [(0, .inr (.inr 406)), (1, .inl a), (2, .inl b), (3, .inr (.inr t2))]) (st' := [.inl 1]) rfl ?_
              refine h_retz (x := 1) rfl rfl (by decide) ?_
              exact ⟨_, rfl, (by omega), hI52, hf55⟩
            · refine k_run 0 (pc' := 99) (l' := [(0, .inr (.inr 406)), (1, .inl a), (2, .inl b), (3, .inr (.inr t2))]) (st' := [.inr (.inr 406)]) rfl ?_
              refine k_run 2 (pc' := 110) (l' := [(0, .inr (.inr 406)), (1, .inl a), (2, .inl b), (3, .inr (.inr t2))]) (st' := [.inr (.inl 0), .inr (.inr 406)]) rfl ?_
              refine k_putl (a := 406) (x := kx_406) rfl rfl rfl (by decide) (by decide) rfl rfl rfl rfl hI33 rfl (fun H56 hI57 hw58 => ?_)
              have hf60 : fq [(406, 6), (406, 7), (406, 8), (406, 9), (406, 10)] [] false H H56 := fq_w hf36 hw58 (fpo (by decide) rfl)
              refine k_run 0 (pc' := 113) (l' := [(0, .inr (.inr 406)), (1, .inl a), (2, .inl b), (3, .inr (.inr t2))]) (st' := []) rfl ?_
              refine k_run 4 (pc' := 121) (l' := [(0, .inr (.inr 406)), (1, .inl a), (2, .inl b), (3, .inr (.inr t2))]) (st' := [.inr (.inr 409), .inr (.inr 406)]) rfl ?_
              refine k_putr (t := 409) (a := 406) (x := kx_406) rfl rfl rfl (by decide) (by decide) rfl rfl (fun g9 e9 => congrArg Value.ref e9) rfl rfl hI57 (show ∃ n, isA 409 n from ⟨_, iA_409⟩) (fun H61 hI62 hw63 => ?_)
              have hf65 : fq [(406, 6), (406, 7), (406, 8), (406, 9), (406, 10)] [] false H H61 := fq_r hf60 hw63 (fpo (by decide) rfl)
              refine k_run 0 (pc' := 124) (l' := [(0, .inr (.inr 406)), (1, .inl a), (2, .inl b), (3, .inr (.inr t2))]) (st' := []) rfl ?_
              refine k_run 1 (pc' := 125) (l' := [(0, .inr (.inr 406)), (1, .inl a), (2, .inl b), (3, .inr (.inr t2))]) (st' := [.inl 1]) rfl ?_
              refine h_retz (x := 1) rfl rfl (by decide) ?_
              exact ⟨_, rfl, (by omega), hI62, hf65⟩
          · exfalso
            omega
        · refine k_run 0 (pc' := 44) (l' := [(0, .inr (.inr 406)), (1, .inl a), (2, .inl b), (3, .inr (.inr t2))]) (st' := [.inl (2 + (2 * a)), .inr (.inr (t2 + 1)), .inr (.inr 406)]) rfl ?_
          refine k_run 3 (pc' := 50) (l' := [(0, .inr (.inr 406)), (1, .inl a), (2, .inl b), (3, .inr (.inr t2))]) (st' := [.inl ((2 + (2 * a)) + 1), .inr (.inr (t2 + 1)), .inr (.inr 406)]) rfl ?_
          refine k_ald (c := (t2 + 1)) (j := (((2 + (2 * a)) + 1)).toNat) (i := ((2 + (2 * a)) + 1)) (x := kGt) rfl k3.2.1 (iG1 k3) rfl (by decide) (by omega) (by omega) hI (fun h66 => ?_)
          obtain ⟨t67, et69⟩ : ∃ t9, t9 = H.2 (t2 + 1) (((2 + (2 * a)) + 1)).toNat := ⟨_, rfl⟩
          rw [← et69] at h66 ⊢
          obtain ⟨n70, k68⟩ := (show (∃ n, isT t67 n) ∧ 369 < t67 from h66).1
          have k68b := k68.2.2.2.2
          refine k_run 0 (pc' := 51) (l' := [(0, .inr (.inr 406)), (1, .inl a), (2, .inl b), (3, .inr (.inr t2))]) (st' := [.inr (.inr t67), .inr (.inr 406)]) rfl ?_
          refine k_putr (t := t67) (a := 406) (x := kx_406) rfl rfl rfl (by decide) (by decide) rfl rfl (fun g9 e9 => congrArg Value.ref e9) rfl rfl hI (show ∃ n, isT t67 n from ⟨_, k68⟩) (fun H71 hI72 hw73 => ?_)
          have hf75 : fq [(406, 6), (406, 7), (406, 8), (406, 9), (406, 10)] [] false H H71 := fq_r (fq_rf _ _ _ _) hw73 (fpo (by decide) rfl)
          refine k_run 0 (pc' := 54) (l' := [(0, .inr (.inr 406)), (1, .inl a), (2, .inl b), (3, .inr (.inr t2))]) (st' := []) rfl ?_
          refine k_run 2 (pc' := 56) (l' := [(0, .inr (.inr 406)), (1, .inl a), (2, .inl b), (3, .inr (.inr t2))]) (st' := [.inr (.inr t2), .inr (.inr 406)]) rfl ?_
          refine k_get (a := t2) (x := (kGo t2)) (v := .inr (.inr (t2 + 1))) rfl rfl k3.1 (iG0 k3) rfl rfl rfl ?_
          refine k_run 0 (pc' := 59) (l' := [(0, .inr (.inr 406)), (1, .inl a), (2, .inl b), (3, .inr (.inr t2))]) (st' := [.inr (.inr (t2 + 1)), .inr (.inr 406)]) rfl ?_
          refine k_run 6 (pc' := 65) (l' := [(0, .inr (.inr 406)), (1, .inl a), (2, .inl b), (3, .inr (.inr t2))]) (st' := [.inl b, .inl (2 + (2 * a)), .inr (.inr (t2 + 1)), .inr (.inr 406)]) rfl ?_
          refine h_zeq (off := 7) (t := 72) rfl rfl (by omega) (fun c76 => ?_) (fun c76 => ?_)
          · exfalso
            omega
          · refine k_run 0 (pc' := 68) (l' := [(0, .inr (.inr 406)), (1, .inl a), (2, .inl b), (3, .inr (.inr t2))]) (st' := [.inl (2 + (2 * a)), .inr (.inr (t2 + 1)), .inr (.inr 406)]) rfl ?_
            refine k_run 3 (pc' := 74) (l' := [(0, .inr (.inr 406)), (1, .inl a), (2, .inl b), (3, .inr (.inr t2))]) (st' := [.inl ((2 + (2 * a)) + 0), .inr (.inr (t2 + 1)), .inr (.inr 406)]) rfl ?_
            refine k_ald (c := (t2 + 1)) (j := (((2 + (2 * a)) + 0)).toNat) (i := ((2 + (2 * a)) + 0)) (x := kGt) rfl k3.2.1 (iG1 k3) rfl (by decide) (by omega) (by omega) hI72 (fun h77 => ?_)
            obtain ⟨t78, et80⟩ : ∃ t9, t9 = H71.2 (t2 + 1) (((2 + (2 * a)) + 0)).toNat := ⟨_, rfl⟩
            rw [← et80] at h77 ⊢
            obtain ⟨n81, k79⟩ := (show (∃ n, isT t78 n) ∧ 369 < t78 from h77).1
            have k79b := k79.2.2.2.2
            refine k_run 0 (pc' := 75) (l' := [(0, .inr (.inr 406)), (1, .inl a), (2, .inl b), (3, .inr (.inr t2))]) (st' := [.inr (.inr t78), .inr (.inr 406)]) rfl ?_
            refine k_putr (t := t78) (a := 406) (x := kx_406) rfl rfl rfl (by decide) (by decide) rfl rfl (fun g9 e9 => congrArg Value.ref e9) rfl rfl hI72 (show ∃ n, isT t78 n from ⟨_, k79⟩) (fun H82 hI83 hw84 => ?_)
            have hf86 : fq [(406, 6), (406, 7), (406, 8), (406, 9), (406, 10)] [] false H H82 := fq_r hf75 hw84 (fpo (by decide) rfl)
            refine k_run 0 (pc' := 78) (l' := [(0, .inr (.inr 406)), (1, .inl a), (2, .inl b), (3, .inr (.inr t2))]) (st' := []) rfl ?_
            refine k_run 2 (pc' := 80) (l' := [(0, .inr (.inr 406)), (1, .inl a), (2, .inl b), (3, .inr (.inr t2))]) (st' := [.inr (.inr t2), .inr (.inr 406)]) rfl ?_
            refine k_get (a := t2) (x := (kGo t2)) (v := .inr (.inr (t2 + 2))) rfl rfl k3.1 (iG0 k3) rfl rfl rfl ?_
            refine k_run 0 (pc' := 83) (l' := [(0, .inr (.inr 406)), (1, .inl a), (2, .inl b), (3, .inr (.inr t2))]) (st' := [.inr (.inr (t2 + 2)), .inr (.inr 406)]) rfl ?_
            refine k_run 1 (pc' := 84) (l' := [(0, .inr (.inr 406)), (1, .inl a), (2, .inl b), (3, .inr (.inr t2))]) (st' := [.inl a, .inr (.inr (t2 + 2)), .inr (.inr 406)]) rfl ?_
            refine k_lld (c := (t2 + 2)) (j := (a).toNat) (i := a) (x := kGf) rfl k3.2.2.1 (iG2 k3) rfl (by decide) (by omega) (by omega) ?_
            have g87 : -9223372036854775808 ≤ (H82.1 (t2 + 2) (a).toNat) ∧ (H82.1 (t2 + 2) (a).toNat) ≤ 9223372036854775807 := kn hI83 k3.2.2.1 (a).toNat
            refine k_run 0 (pc' := 85) (l' := [(0, .inr (.inr 406)), (1, .inl a), (2, .inl b), (3, .inr (.inr t2))]) (st' := [.inr (.inl (H82.1 (t2 + 2) (a).toNat)), .inr (.inr 406)]) rfl ?_
            refine k_putl (a := 406) (x := kx_406) rfl rfl rfl (by decide) (by decide) rfl rfl rfl rfl hI83 rfl (fun H88 hI89 hw90 => ?_)
            have hf92 : fq [(406, 6), (406, 7), (406, 8), (406, 9), (406, 10)] [] false H H88 := fq_w hf86 hw90 (fpo (by decide) rfl)
            refine k_run 0 (pc' := 88) (l' := [(0, .inr (.inr 406)), (1, .inl a), (2, .inl b), (3, .inr (.inr t2))]) (st' := []) rfl ?_
            refine k_run 4 (pc' := 96) (l' := [(0, .inr (.inr 406)), (1, .inl a), (2, .inl b), (3, .inr (.inr t2))]) (st' := [.inl (H88.1 407 5), .inr (.inr 406)]) rfl ?_
            have g93 : 0 ≤ (H88.1 407 5) ∧ (H88.1 407 5) ≤ 1 := kn (x := kx_407) hI89 rfl 5
            have e94 : (H88.1 407 5) = (H82.1 407 5) := hw90.2 _ _ (fun q => absurd q.1 (by decide))
            have e95 : (H82.1 407 5) = (H71.1 407 5) := congrFun (congrFun hw84.1 _) _
            have e96 : (H71.1 407 5) = (H.1 407 5) := congrFun (congrFun hw73.1 _) _
            refine h_zeq (off := 7) (t := 103) rfl rfl (by omega) (fun c97 => ?_) (fun c97 => ?_)
            · refine k_run 0 (pc' := 103) (l' := [(0, .inr (.inr 406)), (1, .inl a), (2, .inl b), (3, .inr (.inr t2))]) (st' := [.inr (.inr 406)]) rfl ?_
              refine k_run 3 (pc' := 110) (l' := [(0, .inr (.inr 406)), (1, .inl a), (2, .inl b), (3, .inr (.inr t2))]) (st' := [.inr (.inl (H88.1 407 7)), .inr (.inr 406)]) rfl ?_
              have g98 : -9223372036854775808 ≤ (H88.1 407 7) ∧ (H88.1 407 7) ≤ 9223372036854775807 := kn (x := kx_407) hI89 rfl 7
              have e99 : (H88.1 407 7) = (H82.1 407 7) := hw90.2 _ _ (fun q => absurd q.1 (by decide))
              have e100 : (H82.1 407 7) = (H71.1 407 7) := congrFun (congrFun hw84.1 _) _
              have e101 : (H71.1 407 7) = (H.1 407 7) := congrFun (congrFun hw73.1 _) _
              refine k_putl (a := 406) (x := kx_406) rfl rfl rfl (by decide) (by decide) rfl rfl rfl rfl hI89 rfl (fun H102 hI103 hw104 => ?_)
              have hf106 : fq [(406, 6), (406, 7), (406, 8), (406, 9), (406, 10)] [] false H H102 := fq_w hf92 hw104 (fpo (by decide) rfl)
              refine k_run 0 (pc' := 113) (l' := [(0, .inr (.inr 406)), (1, .inl a), (2, .inl b), (3, .inr (.inr t2))]) (st' := []) rfl ?_
              refine k_run 4 (pc' := 121) (l' := [(0, .inr (.inr 406)), (1, .inl a), (2, .inl b), (3, .inr (.inr t2))]) (st' := [.inr (.inr 409), .inr (.inr 406)]) rfl ?_
              refine k_putr (t := 409) (a := 406) (x := kx_406) rfl rfl rfl (by decide) (by decide) rfl rfl (fun g9 e9 => congrArg Value.ref e9) rfl rfl hI103 (show ∃ n, isA 409 n from ⟨_, iA_409⟩) (fun H107 hI108 hw109 => ?_)
              have hf111 : fq [(406, 6), (406, 7), (406, 8), (406, 9), (406, 10)] [] false H H107 := fq_r hf106 hw109 (fpo (by decide) rfl)
              refine k_run 0 (pc' := 124) (l' := [(0, .inr (.inr 406)), (1, .inl a), (2, .inl b), (3, .inr (.inr t2))]) (st' := []) rfl ?_
              refine k_run 1 (pc' := 125) (l' := [(0, .inr (.inr 406)), (1, .inl a), (2, .inl b), (3, .inr (.inr t2))]) (st' := [.inl 1]) rfl ?_
              refine h_retz (x := 1) rfl rfl (by decide) ?_
              exact ⟨_, rfl, (by omega), hI108, hf111⟩
            · refine k_run 0 (pc' := 99) (l' := [(0, .inr (.inr 406)), (1, .inl a), (2, .inl b), (3, .inr (.inr t2))]) (st' := [.inr (.inr 406)]) rfl ?_
              refine k_run 2 (pc' := 110) (l' := [(0, .inr (.inr 406)), (1, .inl a), (2, .inl b), (3, .inr (.inr t2))]) (st' := [.inr (.inl 0), .inr (.inr 406)]) rfl ?_
              refine k_putl (a := 406) (x := kx_406) rfl rfl rfl (by decide) (by decide) rfl rfl rfl rfl hI89 rfl (fun H112 hI113 hw114 => ?_)
              have hf116 : fq [(406, 6), (406, 7), (406, 8), (406, 9), (406, 10)] [] false H H112 := fq_w hf92 hw114 (fpo (by decide) rfl)
              refine k_run 0 (pc' := 113) (l' := [(0, .inr (.inr 406)), (1, .inl a), (2, .inl b), (3, .inr (.inr t2))]) (st' := []) rfl ?_
              refine k_run 4 (pc' := 121) (l' := [(0, .inr (.inr 406)), (1, .inl a), (2, .inl b), (3, .inr (.inr t2))]) (st' := [.inr (.inr 409), .inr (.inr 406)]) rfl ?_
              refine k_putr (t := 409) (a := 406) (x := kx_406) rfl rfl rfl (by decide) (by decide) rfl rfl (fun g9 e9 => congrArg Value.ref e9) rfl rfl hI113 (show ∃ n, isA 409 n from ⟨_, iA_409⟩) (fun H117 hI118 hw119 => ?_)
              have hf121 : fq [(406, 6), (406, 7), (406, 8), (406, 9), (406, 10)] [] false H H117 := fq_r hf116 hw119 (fpo (by decide) rfl)
              refine k_run 0 (pc' := 124) (l' := [(0, .inr (.inr 406)), (1, .inl a), (2, .inl b), (3, .inr (.inr t2))]) (st' := []) rfl ?_
              refine k_run 1 (pc' := 125) (l' := [(0, .inr (.inr 406)), (1, .inl a), (2, .inl b), (3, .inr (.inr t2))]) (st' := [.inl 1]) rfl ?_
              refine h_retz (x := 1) rfl rfl (by decide) ?_
              exact ⟨_, rfl, (by omega), hI118, hf121⟩
      · refine k_run 0 (pc' := 28) (l' := [(0, .inr (.inr 406)), (1, .inl a), (2, .inl b), (3, .inr (.inr t2))]) (st' := []) rfl ?_
        refine k_run 1 (pc' := 29) (l' := [(0, .inr (.inr 406)), (1, .inl a), (2, .inl b), (3, .inr (.inr t2))]) (st' := [.inl 0]) rfl ?_
        refine h_retz (x := 0) rfl rfl (by decide) ?_
        exact ⟨_, rfl, (by omega), hI, (fq_rf _ _ _ _)⟩

/-! Prover.isSure -/
set_option maxRecDepth 100000 in
theorem k_Prover_isSure_cut {d : Nat} (hd : 2 ≤ d) {H : hp} (hI : Inv H) {t n : Nat} {a : Int} (ht : isT t n) (ha : -2147483648 ≤ a ∧ a ≤ 2147483647) (hp0 : 0 ≤ a) : ∀ w : Nat, (∀ (x3 : Int) (x4 : Int) , (-2147483648 ≤ x3 ∧ x3 ≤ 2147483647) → (-2147483648 ≤ x4 ∧ x4 ≤ 2147483647) → (a ≤ x4) → (x3 ≤ H.1 t 1 ∨ x3 ≤ a) → (((x3 - x4).toNat) < w) → hG (zs zK) d mt_122 9 [(0, .inr (.inr 406)), (1, .inr (.inr t)), (2, .inl a), (3, .inl x3), (4, .inl x4)] [] H (fun r9 H9 => ∃ z : Int, r9 = some (.inl z) ∧ ((0 ≤ z ∧ z ≤ 1)) ∧ H = H9)) := by
  intro w
  induction w with
  | zero => exact fun _ _ _ _ _ _ h => absurd h (Nat.not_lt_zero _)
  | succ w ih =>
    intro x3 x4 hx3 hx4 hi0 hi1 hw
    have htb := ht.2.2.2.2
    have g7 : 0 ≤ (H.1 t 1) ∧ (H.1 t 1) ≤ n := kn hI ht.1 1
    refine k_run 2 (pc' := 12) (l' := [(0, .inr (.inr 406)), (1, .inr (.inr t)), (2, .inl a), (3, .inl x3), (4, .inl x4)]) (st' := [.inl x3, .inl x4]) rfl ?_
    refine h_ige (off := 72) (t := 84) rfl rfl (by omega) (by omega) (fun c8 => ?_) (fun c8 => ?_)
    · refine k_run 0 (pc' := 84) (l' := [(0, .inr (.inr 406)), (1, .inr (.inr t)), (2, .inl a), (3, .inl x3), (4, .inl x4)]) (st' := []) rfl ?_
      refine k_run 1 (pc' := 85) (l' := [(0, .inr (.inr 406)), (1, .inr (.inr t)), (2, .inl a), (3, .inl x3), (4, .inl x4)]) (st' := [.inl 1]) rfl ?_
      refine h_retz (x := 1) rfl rfl (by decide) ?_
      exact ⟨_, rfl, (by omega), rfl⟩
    · refine k_run 0 (pc' := 15) (l' := [(0, .inr (.inr 406)), (1, .inr (.inr t)), (2, .inl a), (3, .inl x3), (4, .inl x4)]) (st' := []) rfl ?_
      refine k_run 1 (pc' := 16) (l' := [(0, .inr (.inr 406)), (1, .inr (.inr t)), (2, .inl a), (3, .inl x3), (4, .inl x4)]) (st' := [.inr (.inr t)]) rfl ?_
      refine k_get (a := t) (x := (kTo t n)) (v := .inr (.inr (t + 1))) rfl rfl ht.1 (iT0 ht) rfl rfl rfl ?_
      refine k_run 0 (pc' := 19) (l' := [(0, .inr (.inr 406)), (1, .inr (.inr t)), (2, .inl a), (3, .inl x3), (4, .inl x4)]) (st' := [.inr (.inr (t + 1))]) rfl ?_
      refine k_run 1 (pc' := 21) (l' := [(0, .inr (.inr 406)), (1, .inr (.inr t)), (2, .inl a), (3, .inl x3), (4, .inl x4)]) (st' := [.inl x4, .inr (.inr (t + 1))]) rfl ?_
      refine k_ild (c := (t + 1)) (j := (x4).toNat) (i := x4) (x := (kTc n)) rfl ht.2.1 (iT1 ht) rfl (by omega) (by omega) (by omega) ?_
      have g9 : -2147483648 ≤ (H.1 (t + 1) (x4).toNat) ∧ (H.1 (t + 1) (x4).toNat) ≤ 2147483647 := kn hI ht.2.1 (x4).toNat
      refine k_run 0 (pc' := 22) (l' := [(0, .inr (.inr 406)), (1, .inr (.inr t)), (2, .inl a), (3, .inl x3), (4, .inl x4)]) (st' := [.inl (H.1 (t + 1) (x4).toNat)]) rfl ?_
      refine h_cs (i := 80) (j := 49) (M' := mt_49) (xs := [.inl (H.1 (t + 1) (x4).toNat)]) (rest := []) rfl rfl rfl rfl rfl (Nat.le_of_ble_eq_true rfl) (Nat.le_of_ble_eq_true rfl) (by omega) (k_Term_kindOf (by omega)  (by omega)) ?_
      rintro _ _ ⟨z14, rfl, g10, rfl⟩
      refine k_run 0 (pc' := 25) (l' := [(0, .inr (.inr 406)), (1, .inr (.inr t)), (2, .inl a), (3, .inl x3), (4, .inl x4)]) (st' := [.inl z14]) rfl ?_
      refine k_run 3 (pc' := 30) (l' := [(0, .inr (.inr 406)), (1, .inr (.inr t)), (2, .inl a), (3, .inl x3), (4, .inl x4), (5, .inl z14)]) (st' := [.inl 3, .inl z14]) rfl ?_
      refine h_ine (off := 32) (t := 62) rfl rfl (by omega) (by decide) (fun c15 => ?_) (fun c15 => ?_)
      · refine k_run 0 (pc' := 62) (l' := [(0, .inr (.inr 406)), (1, .inr (.inr t)), (2, .inl a), (3, .inl x3), (4, .inl x4), (5, .inl z14)]) (st' := []) rfl ?_
        refine k_run 4 (pc' := 68) (l' := [(0, .inr (.inr 406)), (1, .inr (.inr t)), (2, .inl a), (3, .inl x3), (4, .inl x4), (5, .inl z14), (6, .inl 0)]) (st' := [.inl 1, .inl z14]) rfl ?_
        refine h_ieq (off := 10) (t := 78) rfl rfl (by omega) (by decide) (fun c16 => ?_) (fun c16 => ?_)
        · refine k_run 0 (pc' := 78) (l' := [(0, .inr (.inr 406)), (1, .inr (.inr t)), (2, .inl a), (3, .inl x3), (4, .inl x4), (5, .inl z14), (6, .inl 0)]) (st' := []) rfl ?_
          refine k_run 2 (pc' := 9) (l' := [(0, .inr (.inr 406)), (1, .inr (.inr t)), (2, .inl a), (3, .inl x3), (4, .inl (x4 + 1)), (5, .inl z14), (6, .inl 0)]) (st' := []) rfl ?_
          refine h_loc [0, 1, 2, 3, 4] rfl ?_
          exact ih x3 (x4 + 1) (by omega) (by omega) (by omega) (by omega) (by omega)
        · refine k_run 0 (pc' := 71) (l' := [(0, .inr (.inr 406)), (1, .inr (.inr t)), (2, .inl a), (3, .inl x3), (4, .inl x4), (5, .inl z14), (6, .inl 0)]) (st' := []) rfl ?_
          refine k_run 1 (pc' := 73) (l' := [(0, .inr (.inr 406)), (1, .inr (.inr t)), (2, .inl a), (3, .inl x3), (4, .inl x4), (5, .inl z14), (6, .inl 0)]) (st' := [.inl 0]) rfl ?_
          refine h_zne (off := 5) (t := 78) rfl rfl (by decide) (fun c => absurd c (by decide)) (fun _ => ?_)
          refine k_run 0 (pc' := 76) (l' := [(0, .inr (.inr 406)), (1, .inr (.inr t)), (2, .inl a), (3, .inl x3), (4, .inl x4), (5, .inl z14), (6, .inl 0)]) (st' := []) rfl ?_
          refine k_run 1 (pc' := 77) (l' := [(0, .inr (.inr 406)), (1, .inr (.inr t)), (2, .inl a), (3, .inl x3), (4, .inl x4), (5, .inl z14), (6, .inl 0)]) (st' := [.inl 0]) rfl ?_
          refine h_retz (x := 0) rfl rfl (by decide) ?_
          exact ⟨_, rfl, (by omega), rfl⟩
      · refine k_run 0 (pc' := 33) (l' := [(0, .inr (.inr 406)), (1, .inr (.inr t)), (2, .inl a), (3, .inl x3), (4, .inl x4), (5, .inl z14)]) (st' := []) rfl ?_
        refine k_run 3 (pc' := 40) (l' := [(0, .inr (.inr 406)), (1, .inr (.inr t)), (2, .inl a), (3, .inl x3), (4, .inl x4), (5, .inl z14)]) (st' := [.inr (.inl (H.1 407 7))]) rfl ?_
        have g17 : -9223372036854775808 ≤ (H.1 407 7) ∧ (H.1 407 7) ≤ 9223372036854775807 := kn (x := kx_407) hI rfl 7
        refine k_run 1 (pc' := 41) (l' := [(0, .inr (.inr 406)), (1, .inr (.inr t)), (2, .inl a), (3, .inl x3), (4, .inl x4), (5, .inl z14)]) (st' := [.inr (.inr t), .inr (.inl (H.1 407 7))]) rfl ?_
        refine k_get (a := t) (x := (kTo t n)) (v := .inr (.inr (t + 1))) rfl rfl ht.1 (iT0 ht) rfl rfl rfl ?_
        refine k_run 0 (pc' := 44) (l' := [(0, .inr (.inr 406)), (1, .inr (.inr t)), (2, .inl a), (3, .inl x3), (4, .inl x4), (5, .inl z14)]) (st' := [.inr (.inr (t + 1)), .inr (.inl (H.1 407 7))]) rfl ?_
        refine k_run 1 (pc' := 46) (l' := [(0, .inr (.inr 406)), (1, .inr (.inr t)), (2, .inl a), (3, .inl x3), (4, .inl x4), (5, .inl z14)]) (st' := [.inl x4, .inr (.inr (t + 1)), .inr (.inl (H.1 407 7))]) rfl ?_
        refine k_ild (c := (t + 1)) (j := (x4).toNat) (i := x4) (x := (kTc n)) rfl ht.2.1 (iT1 ht) rfl (by omega) (by omega) (by omega) ?_
        refine k_run 0 (pc' := 47) (l' := [(0, .inr (.inr 406)), (1, .inr (.inr t)), (2, .inl a), (3, .inl x3), (4, .inl x4), (5, .inl z14)]) (st' := [.inl (H.1 (t + 1) (x4).toNat), .inr (.inl (H.1 407 7))]) rfl ?_
        refine h_cs (i := 171) (j := 50) (M' := mt_50) (xs := [.inl (H.1 (t + 1) (x4).toNat)]) (rest := [.inr (.inl (H.1 407 7))]) rfl rfl rfl rfl rfl (Nat.le_of_ble_eq_true rfl) (Nat.le_of_ble_eq_true rfl) (by omega) (k_Term_indexOf (by omega)  (by omega)) ?_
        rintro _ _ ⟨z22, rfl, g18, rfl⟩
        refine k_run 0 (pc' := 50) (l' := [(0, .inr (.inr 406)), (1, .inr (.inr t)), (2, .inl a), (3, .inl x3), (4, .inl x4), (5, .inl z14)]) (st' := [.inl z22, .inr (.inl (H.1 407 7))]) rfl ?_
        refine k_run 1 (pc' := 51) (l' := [(0, .inr (.inr 406)), (1, .inr (.inr t)), (2, .inl a), (3, .inl x3), (4, .inl x4), (5, .inl z14)]) (st' := [.inr (.inl (z_lshr (H.1 407 7) z22))]) rfl ?_
        refine k_nrmj (fun y23 hy23 => ?_)
        refine k_run 2 (pc' := 53) (l' := [(0, .inr (.inr 406)), (1, .inr (.inr t)), (2, .inl a), (3, .inl x3), (4, .inl x4), (5, .inl z14)]) (st' := [.inr (.inl (z_land y23 1))]) rfl ?_
        refine k_nrmj (fun y24 hy24 => ?_)
        refine k_run 2 (pc' := 55) (l' := [(0, .inr (.inr 406)), (1, .inr (.inr t)), (2, .inl a), (3, .inl x3), (4, .inl x4), (5, .inl z14)]) (st' := [.inl (z_cmp y24 1)]) rfl ?_
        refine k_nrm (fun y25 hy25 => ?_)
        refine k_run 0 (pc' := 55) (l' := [(0, .inr (.inr 406)), (1, .inr (.inr t)), (2, .inl a), (3, .inl x3), (4, .inl x4), (5, .inl z14)]) (st' := [.inl y25]) rfl ?_
        refine h_zne (off := 7) (t := 62) rfl rfl (by omega) (fun c26 => ?_) (fun c26 => ?_)
        · refine k_run 0 (pc' := 62) (l' := [(0, .inr (.inr 406)), (1, .inr (.inr t)), (2, .inl a), (3, .inl x3), (4, .inl x4), (5, .inl z14)]) (st' := []) rfl ?_
          refine k_run 4 (pc' := 68) (l' := [(0, .inr (.inr 406)), (1, .inr (.inr t)), (2, .inl a), (3, .inl x3), (4, .inl x4), (5, .inl z14), (6, .inl 0)]) (st' := [.inl 1, .inl z14]) rfl ?_
          refine h_ieq (off := 10) (t := 78) rfl rfl (by omega) (by decide) (fun c27 => ?_) (fun c27 => ?_)
          · refine k_run 0 (pc' := 78) (l' := [(0, .inr (.inr 406)), (1, .inr (.inr t)), (2, .inl a), (3, .inl x3), (4, .inl x4), (5, .inl z14), (6, .inl 0)]) (st' := []) rfl ?_
            refine k_run 2 (pc' := 9) (l' := [(0, .inr (.inr 406)), (1, .inr (.inr t)), (2, .inl a), (3, .inl x3), (4, .inl (x4 + 1)), (5, .inl z14), (6, .inl 0)]) (st' := []) rfl ?_
            refine h_loc [0, 1, 2, 3, 4] rfl ?_
            exact ih x3 (x4 + 1) (by omega) (by omega) (by omega) (by omega) (by omega)
          · refine k_run 0 (pc' := 71) (l' := [(0, .inr (.inr 406)), (1, .inr (.inr t)), (2, .inl a), (3, .inl x3), (4, .inl x4), (5, .inl z14), (6, .inl 0)]) (st' := []) rfl ?_
            refine k_run 1 (pc' := 73) (l' := [(0, .inr (.inr 406)), (1, .inr (.inr t)), (2, .inl a), (3, .inl x3), (4, .inl x4), (5, .inl z14), (6, .inl 0)]) (st' := [.inl 0]) rfl ?_
            refine h_zne (off := 5) (t := 78) rfl rfl (by decide) (fun c => absurd c (by decide)) (fun _ => ?_)
            refine k_run 0 (pc' := 76) (l' := [(0, .inr (.inr 406)), (1, .inr (.inr t)), (2, .inl a), (3, .inl x3), (4, .inl x4), (5, .inl z14), (6, .inl 0)]) (st' := []) rfl ?_
            refine k_run 1 (pc' := 77) (l' := [(0, .inr (.inr 406)), (1, .inr (.inr t)), (2, .inl a), (3, .inl x3), (4, .inl x4), (5, .inl z14), (6, .inl 0)]) (st' := [.inl 0]) rfl ?_
            refine h_retz (x := 0) rfl rfl (by decide) ?_
            exact ⟨_, rfl, (by omega), rfl⟩
        · refine k_run 0 (pc' := 58) (l' := [(0, .inr (.inr 406)), (1, .inr (.inr t)), (2, .inl a), (3, .inl x3), (4, .inl x4), (5, .inl z14)]) (st' := []) rfl ?_
          refine k_run 5 (pc' := 68) (l' := [(0, .inr (.inr 406)), (1, .inr (.inr t)), (2, .inl a), (3, .inl x3), (4, .inl x4), (5, .inl z14), (6, .inl 1)]) (st' := [.inl 1, .inl z14]) rfl ?_
          refine h_ieq (off := 10) (t := 78) rfl rfl (by omega) (by decide) (fun c28 => ?_) (fun c28 => ?_)
          · refine k_run 0 (pc' := 78) (l' := [(0, .inr (.inr 406)), (1, .inr (.inr t)), (2, .inl a), (3, .inl x3), (4, .inl x4), (5, .inl z14), (6, .inl 1)]) (st' := []) rfl ?_
            refine k_run 2 (pc' := 9) (l' := [(0, .inr (.inr 406)), (1, .inr (.inr t)), (2, .inl a), (3, .inl x3), (4, .inl (x4 + 1)), (5, .inl z14), (6, .inl 1)]) (st' := []) rfl ?_
            refine h_loc [0, 1, 2, 3, 4] rfl ?_
            exact ih x3 (x4 + 1) (by omega) (by omega) (by omega) (by omega) (by omega)
          · refine k_run 0 (pc' := 71) (l' := [(0, .inr (.inr 406)), (1, .inr (.inr t)), (2, .inl a), (3, .inl x3), (4, .inl x4), (5, .inl z14), (6, .inl 1)]) (st' := []) rfl ?_
            refine k_run 1 (pc' := 73) (l' := [(0, .inr (.inr 406)), (1, .inr (.inr t)), (2, .inl a), (3, .inl x3), (4, .inl x4), (5, .inl z14), (6, .inl 1)]) (st' := [.inl 1]) rfl ?_
            refine h_zne (off := 5) (t := 78) rfl rfl (by decide) (fun _ => ?_) (fun c => absurd c (by decide))
            refine k_run 0 (pc' := 78) (l' := [(0, .inr (.inr 406)), (1, .inr (.inr t)), (2, .inl a), (3, .inl x3), (4, .inl x4), (5, .inl z14), (6, .inl 1)]) (st' := []) rfl ?_
            refine k_run 2 (pc' := 9) (l' := [(0, .inr (.inr 406)), (1, .inr (.inr t)), (2, .inl a), (3, .inl x3), (4, .inl (x4 + 1)), (5, .inl z14), (6, .inl 1)]) (st' := []) rfl ?_
            refine h_loc [0, 1, 2, 3, 4] rfl ?_
            exact ih x3 (x4 + 1) (by omega) (by omega) (by omega) (by omega) (by omega)
set_option maxRecDepth 100000 in
theorem k_Prover_isSure {d : Nat} (hd : 2 ≤ d) {H : hp} (hI : Inv H) {t n : Nat} {a : Int} (ht : isT t n) (ha : -2147483648 ≤ a ∧ a ≤ 2147483647) (hp0 : 0 ≤ a) : hG (zs zK) d mt_122 0 (zargs 0 [.inr (.inr 406), .inr (.inr t), .inl a]) [] H (fun r9 H9 => ∃ z : Int, r9 = some (.inl z) ∧ ((0 ≤ z ∧ z ≤ 1)) ∧ H = H9) := by
  have htb := ht.2.2.2.2
  refine k_run 0 (pc' := 0) (l' := [(0, .inr (.inr 406)), (1, .inr (.inr t)), (2, .inl a)]) (st' := []) rfl ?_
  refine k_run 2 (pc' := 2) (l' := [(0, .inr (.inr 406)), (1, .inr (.inr t)), (2, .inl a)]) (st' := [.inl a, .inr (.inr t)]) rfl ?_
  refine h_cv (i := 77) (j := 53) (b := t) (M' := mt_53) (xs := [.inl a]) (rest := []) rfl rfl rfl rfl (by rw [zs_K ht.1 (iT0 ht)]; rfl) rfl (Nat.le_of_ble_eq_true rfl) (Nat.le_of_ble_eq_true rfl) (by omega) (k_Term_behind (by omega) hI ht (by omega)) ?_
  rintro _ _ ⟨z5, rfl, g1, rfl⟩
  refine k_run 0 (pc' := 5) (l' := [(0, .inr (.inr 406)), (1, .inr (.inr t)), (2, .inl a)]) (st' := [.inl z5]) rfl ?_
  refine k_run 3 (pc' := 9) (l' := [(0, .inr (.inr 406)), (1, .inr (.inr t)), (2, .inl a), (3, .inl z5), (4, .inl a)]) (st' := []) rfl ?_
  have g6 : 0 ≤ (H.1 t 1) ∧ (H.1 t 1) ≤ n := kn hI ht.1 1
  exact (k_Prover_isSure_cut hd hI ht ha hp0 _) z5 a (by omega) (by omega) (by omega) (by omega) (Nat.lt_succ_self _)

/-! Prover.isAllowed -/
set_option maxRecDepth 100000 in
theorem k_Prover_isAllowed_cut {d : Nat} (hd : 3 ≤ d) {H : hp} (hI : Inv H) {t n : Nat} (ht : isT t n) : ∀ w : Nat, (∀ (x2 : Int) , (-2147483648 ≤ x2 ∧ x2 ≤ 2147483647) → (0 ≤ x2) → (((100 - x2).toNat) < w) → hG (zs zK) d mt_121 2 [(0, .inr (.inr 406)), (1, .inr (.inr t)), (2, .inl x2)] [] H (fun r9 H9 => ∃ z : Int, r9 = some (.inl z) ∧ ((0 ≤ z ∧ z ≤ 1)) ∧ H = H9)) := by
  intro w
  induction w with
  | zero => exact fun _ _ _ h => absurd h (Nat.not_lt_zero _)
  | succ w ih =>
    intro x2 hx2 hi0 hw
    have htb := ht.2.2.2.2
    refine k_run 2 (pc' := 5) (l' := [(0, .inr (.inr 406)), (1, .inr (.inr t)), (2, .inl x2)]) (st' := [.inl 60, .inl x2]) rfl ?_
    refine h_ige (off := 105) (t := 110) rfl rfl (by omega) (by decide) (fun c1 => ?_) (fun c1 => ?_)
    · refine k_run 0 (pc' := 110) (l' := [(0, .inr (.inr 406)), (1, .inr (.inr t)), (2, .inl x2)]) (st' := []) rfl ?_
      refine k_run 1 (pc' := 111) (l' := [(0, .inr (.inr 406)), (1, .inr (.inr t)), (2, .inl x2)]) (st' := [.inl 1]) rfl ?_
      refine h_retz (x := 1) rfl rfl (by decide) ?_
      exact ⟨_, rfl, (by omega), rfl⟩
    · refine k_run 0 (pc' := 8) (l' := [(0, .inr (.inr 406)), (1, .inr (.inr t)), (2, .inl x2)]) (st' := []) rfl ?_
      refine k_run 2 (pc' := 10) (l' := [(0, .inr (.inr 406)), (1, .inr (.inr t)), (2, .inl x2)]) (st' := [.inr (.inr 406), .inl x2]) rfl ?_
      refine k_getr (a := 406) (x := kx_406) rfl rfl rfl (by decide) rfl rfl rfl hI (fun h2 => ?_)
      obtain ⟨t3, et5⟩ : ∃ t9, t9 = H.2 406 10 := ⟨_, rfl⟩
      rw [← et5] at h2 ⊢
      obtain ⟨n6, k4⟩ := (show ∃ n, isA t3 n from h2)
      have k4b : n6 ≤ 240 := by obtain ⟨_, _, _, _, h9⟩ := k4; exact h9
      refine k_run 0 (pc' := 13) (l' := [(0, .inr (.inr 406)), (1, .inr (.inr t)), (2, .inl x2)]) (st' := [.inr (.inr t3), .inl x2]) rfl ?_
      refine h_alen (c := t3) rfl (iAs k4) ?_
      refine k_run 0 (pc' := 14) (l' := [(0, .inr (.inr 406)), (1, .inr (.inr t)), (2, .inl x2)]) (st' := [.inl (n6 : Int), .inl x2]) rfl ?_
      refine h_ige (off := 96) (t := 110) rfl rfl (by omega) (by omega) (fun c7 => ?_) (fun c7 => ?_)
      · refine k_run 0 (pc' := 110) (l' := [(0, .inr (.inr 406)), (1, .inr (.inr t)), (2, .inl x2)]) (st' := []) rfl ?_
        refine k_run 1 (pc' := 111) (l' := [(0, .inr (.inr 406)), (1, .inr (.inr t)), (2, .inl x2)]) (st' := [.inl 1]) rfl ?_
        refine h_retz (x := 1) rfl rfl (by decide) ?_
        exact ⟨_, rfl, (by omega), rfl⟩
      · refine k_run 0 (pc' := 17) (l' := [(0, .inr (.inr 406)), (1, .inr (.inr t)), (2, .inl x2)]) (st' := []) rfl ?_
        refine k_run 4 (pc' := 25) (l' := [(0, .inr (.inr 406)), (1, .inr (.inr t)), (2, .inl x2)]) (st' := [.inl x2, .inr (.inr 367)]) rfl ?_
        refine k_ild (c := 367) (j := (x2).toNat) (i := x2) (x := kx_367) rfl rfl (by decide) rfl (by decide) (by omega) (by omega) ?_
        have g8 : -2147483648 ≤ (H.1 367 (x2).toNat) ∧ (H.1 367 (x2).toNat) ≤ 2147483647 := kn (x := kx_367) hI rfl (x2).toNat
        refine k_run 0 (pc' := 26) (l' := [(0, .inr (.inr 406)), (1, .inr (.inr t)), (2, .inl x2)]) (st' := [.inl (H.1 367 (x2).toNat)]) rfl ?_
        refine k_run 2 (pc' := 28) (l' := [(0, .inr (.inr 406)), (1, .inr (.inr t)), (2, .inl x2), (3, .inl (H.1 367 (x2).toNat))]) (st' := [.inl (H.1 367 (x2).toNat)]) rfl ?_
        refine h_zlt (off := 76) (t := 104) rfl rfl (by omega) (fun c9 => ?_) (fun c9 => ?_)
        · refine k_run 0 (pc' := 104) (l' := [(0, .inr (.inr 406)), (1, .inr (.inr t)), (2, .inl x2), (3, .inl (H.1 367 (x2).toNat))]) (st' := []) rfl ?_
          refine k_run 2 (pc' := 2) (l' := [(0, .inr (.inr 406)), (1, .inr (.inr t)), (2, .inl (x2 + 1)), (3, .inl (H.1 367 (x2).toNat))]) (st' := []) rfl ?_
          refine h_loc [0, 1, 2] rfl ?_
          exact ih (x2 + 1) (by omega) (by omega) (by omega)
        · refine k_run 0 (pc' := 31) (l' := [(0, .inr (.inr 406)), (1, .inr (.inr t)), (2, .inl x2), (3, .inl (H.1 367 (x2).toNat))]) (st' := []) rfl ?_
          refine k_run 4 (pc' := 37) (l' := [(0, .inr (.inr 406)), (1, .inr (.inr t)), (2, .inl x2), (3, .inl (H.1 367 (x2).toNat))]) (st' := [.inl (H.1 367 (x2).toNat), .inr (.inr t), .inr (.inr 7)]) rfl ?_
          refine h_cv (i := 73) (j := 51) (b := t) (M' := mt_51) (xs := [.inl (H.1 367 (x2).toNat)]) (rest := [.inr (.inr 7)]) rfl rfl rfl rfl (by rw [zs_K ht.1 (iT0 ht)]; rfl) rfl (Nat.le_of_ble_eq_true rfl) (Nat.le_of_ble_eq_true rfl) (by omega) (k_Term_codeAt (by omega) hI ht (by omega)) ?_
          rintro _ _ ⟨z14, rfl, g10, rfl⟩
          refine k_run 0 (pc' := 40) (l' := [(0, .inr (.inr 406)), (1, .inr (.inr t)), (2, .inl x2), (3, .inl (H.1 367 (x2).toNat))]) (st' := [.inl z14, .inr (.inr 7)]) rfl ?_
          refine k_run 3 (pc' := 47) (l' := [(0, .inr (.inr 406)), (1, .inr (.inr t)), (2, .inl x2), (3, .inl (H.1 367 (x2).toNat))]) (st' := [.inr (.inr 409), .inl z14, .inr (.inr 7)]) rfl ?_
          refine h_cv (i := 160) (j := 37) (b := 7) (M' := mt_37) (xs := [.inr (.inr 409), .inl z14]) (rest := []) rfl rfl rfl rfl (zs_K (x := kx_7) rfl (by decide)) rfl (Nat.le_of_ble_eq_true rfl) (Nat.le_of_ble_eq_true rfl) (by omega) (k_Program_typeOf (by omega) hI (by omega) iA_409) ?_
          rintro _ _ ⟨z19, rfl, g15, rfl⟩
          refine k_run 0 (pc' := 50) (l' := [(0, .inr (.inr 406)), (1, .inr (.inr t)), (2, .inl x2), (3, .inl (H.1 367 (x2).toNat))]) (st' := [.inl z19]) rfl ?_
          refine k_run 3 (pc' := 56) (l' := [(0, .inr (.inr 406)), (1, .inr (.inr t)), (2, .inl x2), (3, .inl (H.1 367 (x2).toNat)), (4, .inl z19)]) (st' := [.inr (.inl (H.1 406 9))]) rfl ?_
          have g20 : -9223372036854775808 ≤ (H.1 406 9) ∧ (H.1 406 9) ≤ 9223372036854775807 := kn (x := kx_406) hI rfl 9
          refine k_run 2 (pc' := 58) (l' := [(0, .inr (.inr 406)), (1, .inr (.inr t)), (2, .inl x2), (3, .inl (H.1 367 (x2).toNat)), (4, .inl z19)]) (st' := [.inr (.inl (z_lshr (H.1 406 9) x2))]) rfl ?_
          refine k_nrmj (fun y21 hy21 => ?_)
          refine k_run 2 (pc' := 60) (l' := [(0, .inr (.inr 406)), (1, .inr (.inr t)), (2, .inl x2), (3, .inl (H.1 367 (x2).toNat)), (4, .inl z19)]) (st' := [.inr (.inl (z_land y21 1))]) rfl ?_
          refine k_nrmj (fun y22 hy22 => ?_)
          refine k_run 2 (pc' := 62) (l' := [(0, .inr (.inr 406)), (1, .inr (.inr t)), (2, .inl x2), (3, .inl (H.1 367 (x2).toNat)), (4, .inl z19)]) (st' := [.inl (z_cmp y22 1)]) rfl ?_
          refine k_nrm (fun y23 hy23 => ?_)
          refine k_run 0 (pc' := 62) (l' := [(0, .inr (.inr 406)), (1, .inr (.inr t)), (2, .inl x2), (3, .inl (H.1 367 (x2).toNat)), (4, .inl z19)]) (st' := [.inl y23]) rfl ?_
          refine h_zne (off := 7) (t := 69) rfl rfl (by omega) (fun c24 => ?_) (fun c24 => ?_)
          · refine k_run 0 (pc' := 69) (l' := [(0, .inr (.inr 406)), (1, .inr (.inr t)), (2, .inl x2), (3, .inl (H.1 367 (x2).toNat)), (4, .inl z19)]) (st' := []) rfl ?_
            refine k_run 3 (pc' := 74) (l' := [(0, .inr (.inr 406)), (1, .inr (.inr t)), (2, .inl x2), (3, .inl (H.1 367 (x2).toNat)), (4, .inl z19), (5, .inl 0)]) (st' := [.inl z19]) rfl ?_
            refine h_zlt (off := 14) (t := 88) rfl rfl (by omega) (fun c25 => ?_) (fun c25 => ?_)
            · refine k_run 0 (pc' := 88) (l' := [(0, .inr (.inr 406)), (1, .inr (.inr t)), (2, .inl x2), (3, .inl (H.1 367 (x2).toNat)), (4, .inl z19), (5, .inl 0)]) (st' := []) rfl ?_
              refine k_run 1 (pc' := 90) (l' := [(0, .inr (.inr 406)), (1, .inr (.inr t)), (2, .inl x2), (3, .inl (H.1 367 (x2).toNat)), (4, .inl z19), (5, .inl 0)]) (st' := [.inl 0]) rfl ?_
              refine h_zeq (off := 14) (t := 104) rfl rfl (by decide) (fun _ => ?_) (fun c => absurd c (by decide))
              refine k_run 0 (pc' := 104) (l' := [(0, .inr (.inr 406)), (1, .inr (.inr t)), (2, .inl x2), (3, .inl (H.1 367 (x2).toNat)), (4, .inl z19), (5, .inl 0)]) (st' := []) rfl ?_
              refine k_run 2 (pc' := 2) (l' := [(0, .inr (.inr 406)), (1, .inr (.inr t)), (2, .inl (x2 + 1)), (3, .inl (H.1 367 (x2).toNat)), (4, .inl z19), (5, .inl 0)]) (st' := []) rfl ?_
              refine h_loc [0, 1, 2] rfl ?_
              exact ih (x2 + 1) (by omega) (by omega) (by omega)
            · refine k_run 0 (pc' := 77) (l' := [(0, .inr (.inr 406)), (1, .inr (.inr t)), (2, .inl x2), (3, .inl (H.1 367 (x2).toNat)), (4, .inl z19), (5, .inl 0)]) (st' := []) rfl ?_
              refine k_run 2 (pc' := 80) (l' := [(0, .inr (.inr 406)), (1, .inr (.inr t)), (2, .inl x2), (3, .inl (H.1 367 (x2).toNat)), (4, .inl z19), (5, .inl 0)]) (st' := [.inr (.inr 406), .inl z19]) rfl ?_
              refine k_getr (a := 406) (x := kx_406) rfl rfl rfl (by decide) rfl rfl rfl hI (fun h26 => ?_)
              rw [← et5]
              refine k_run 0 (pc' := 83) (l' := [(0, .inr (.inr 406)), (1, .inr (.inr t)), (2, .inl x2), (3, .inl (H.1 367 (x2).toNat)), (4, .inl z19), (5, .inl 0)]) (st' := [.inr (.inr t3), .inl z19]) rfl ?_
              refine k_run 1 (pc' := 84) (l' := [(0, .inr (.inr 406)), (1, .inr (.inr t)), (2, .inl x2), (3, .inl (H.1 367 (x2).toNat)), (4, .inl z19), (5, .inl 0)]) (st' := [.inl x2, .inr (.inr t3), .inl z19]) rfl ?_
              refine h_ild (c := t3) (j := (x2).toNat) (i := x2) rfl (iAs k4) (by omega) (by omega) (by omega) ?_
              have g27 : -2 ≤ (H.1 t3 (x2).toNat) ∧ (H.1 t3 (x2).toNat) ≤ 100 := iAz hI k4 (x2).toNat
              refine k_run 0 (pc' := 85) (l' := [(0, .inr (.inr 406)), (1, .inr (.inr t)), (2, .inl x2), (3, .inl (H.1 367 (x2).toNat)), (4, .inl z19), (5, .inl 0)]) (st' := [.inl (H.1 t3 (x2).toNat), .inl z19]) rfl ?_
              refine h_ine (off := 17) (t := 102) rfl rfl (by omega) (by omega) (fun c28 => ?_) (fun c28 => ?_)
              · refine k_run 0 (pc' := 102) (l' := [(0, .inr (.inr 406)), (1, .inr (.inr t)), (2, .inl x2), (3, .inl (H.1 367 (x2).toNat)), (4, .inl z19), (5, .inl 0)]) (st' := []) rfl ?_
                refine k_run 1 (pc' := 103) (l' := [(0, .inr (.inr 406)), (1, .inr (.inr t)), (2, .inl x2), (3, .inl (H.1 367 (x2).toNat)), (4, .inl z19), (5, .inl 0)]) (st' := [.inl 0]) rfl ?_
                refine h_retz (x := 0) rfl rfl (by decide) ?_
                exact ⟨_, rfl, (by omega), rfl⟩
              · refine k_run 0 (pc' := 88) (l' := [(0, .inr (.inr 406)), (1, .inr (.inr t)), (2, .inl x2), (3, .inl (H.1 367 (x2).toNat)), (4, .inl z19), (5, .inl 0)]) (st' := []) rfl ?_
                refine k_run 1 (pc' := 90) (l' := [(0, .inr (.inr 406)), (1, .inr (.inr t)), (2, .inl x2), (3, .inl (H.1 367 (x2).toNat)), (4, .inl z19), (5, .inl 0)]) (st' := [.inl 0]) rfl ?_
                refine h_zeq (off := 14) (t := 104) rfl rfl (by decide) (fun _ => ?_) (fun c => absurd c (by decide))
                refine k_run 0 (pc' := 104) (l' := [(0, .inr (.inr 406)), (1, .inr (.inr t)), (2, .inl x2), (3, .inl (H.1 367 (x2).toNat)), (4, .inl z19), (5, .inl 0)]) (st' := []) rfl ?_
                refine k_run 2 (pc' := 2) (l' := [(0, .inr (.inr 406)), (1, .inr (.inr t)), (2, .inl (x2 + 1)), (3, .inl (H.1 367 (x2).toNat)), (4, .inl z19), (5, .inl 0)]) (st' := []) rfl ?_
                refine h_loc [0, 1, 2] rfl ?_
                exact ih (x2 + 1) (by omega) (by omega) (by omega)
          · refine k_run 0 (pc' := 65) (l' := [(0, .inr (.inr 406)), (1, .inr (.inr t)), (2, .inl x2), (3, .inl (H.1 367 (x2).toNat)), (4, .inl z19)]) (st' := []) rfl ?_
            refine k_run 4 (pc' := 74) (l' := [(0, .inr (.inr 406)), (1, .inr (.inr t)), (2, .inl x2), (3, .inl (H.1 367 (x2).toNat)), (4, .inl z19), (5, .inl 1)]) (st' := [.inl z19]) rfl ?_
            refine h_zlt (off := 14) (t := 88) rfl rfl (by omega) (fun c29 => ?_) (fun c29 => ?_)
            · refine k_run 0 (pc' := 88) (l' := [(0, .inr (.inr 406)), (1, .inr (.inr t)), (2, .inl x2), (3, .inl (H.1 367 (x2).toNat)), (4, .inl z19), (5, .inl 1)]) (st' := []) rfl ?_
              refine k_run 1 (pc' := 90) (l' := [(0, .inr (.inr 406)), (1, .inr (.inr t)), (2, .inl x2), (3, .inl (H.1 367 (x2).toNat)), (4, .inl z19), (5, .inl 1)]) (st' := [.inl 1]) rfl ?_
              refine h_zeq (off := 14) (t := 104) rfl rfl (by decide) (fun c => absurd c (by decide)) (fun _ => ?_)
              refine k_run 0 (pc' := 93) (l' := [(0, .inr (.inr 406)), (1, .inr (.inr t)), (2, .inl x2), (3, .inl (H.1 367 (x2).toNat)), (4, .inl z19), (5, .inl 1)]) (st' := []) rfl ?_
              refine k_run 3 (pc' := 96) (l' := [(0, .inr (.inr 406)), (1, .inr (.inr t)), (2, .inl x2), (3, .inl (H.1 367 (x2).toNat)), (4, .inl z19), (5, .inl 1)]) (st' := [.inl (H.1 367 (x2).toNat), .inr (.inr t), .inr (.inr 406)]) rfl ?_
              refine h_cv (i := 164) (j := 122) (b := 406) (M' := mt_122) (xs := [.inl (H.1 367 (x2).toNat), .inr (.inr t)]) (rest := []) rfl rfl rfl rfl (zs_K (x := kx_406) rfl (by decide)) rfl (Nat.le_of_ble_eq_true rfl) (Nat.le_of_ble_eq_true rfl) (by omega) (k_Prover_isSure (by omega) hI ht (by omega) (by omega)) ?_
              rintro _ _ ⟨z34, rfl, g30, rfl⟩
              refine k_run 0 (pc' := 99) (l' := [(0, .inr (.inr 406)), (1, .inr (.inr t)), (2, .inl x2), (3, .inl (H.1 367 (x2).toNat)), (4, .inl z19), (5, .inl 1)]) (st' := [.inl z34]) rfl ?_
              refine h_zne (off := 5) (t := 104) rfl rfl (by omega) (fun c35 => ?_) (fun c35 => ?_)
              · refine k_run 0 (pc' := 104) (l' := [(0, .inr (.inr 406)), (1, .inr (.inr t)), (2, .inl x2), (3, .inl (H.1 367 (x2).toNat)), (4, .inl z19), (5, .inl 1)]) (st' := []) rfl ?_
                refine k_run 2 (pc' := 2) (l' := [(0, .inr (.inr 406)), (1, .inr (.inr t)), (2, .inl (x2 + 1)), (3, .inl (H.1 367 (x2).toNat)), (4, .inl z19), (5, .inl 1)]) (st' := []) rfl ?_
                refine h_loc [0, 1, 2] rfl ?_
                exact ih (x2 + 1) (by omega) (by omega) (by omega)
              · refine k_run 0 (pc' := 102) (l' := [(0, .inr (.inr 406)), (1, .inr (.inr t)), (2, .inl x2), (3, .inl (H.1 367 (x2).toNat)), (4, .inl z19), (5, .inl 1)]) (st' := []) rfl ?_
                refine k_run 1 (pc' := 103) (l' := [(0, .inr (.inr 406)), (1, .inr (.inr t)), (2, .inl x2), (3, .inl (H.1 367 (x2).toNat)), (4, .inl z19), (5, .inl 1)]) (st' := [.inl 0]) rfl ?_
                refine h_retz (x := 0) rfl rfl (by decide) ?_
                exact ⟨_, rfl, (by omega), rfl⟩
            · refine k_run 0 (pc' := 77) (l' := [(0, .inr (.inr 406)), (1, .inr (.inr t)), (2, .inl x2), (3, .inl (H.1 367 (x2).toNat)), (4, .inl z19), (5, .inl 1)]) (st' := []) rfl ?_
              refine k_run 2 (pc' := 80) (l' := [(0, .inr (.inr 406)), (1, .inr (.inr t)), (2, .inl x2), (3, .inl (H.1 367 (x2).toNat)), (4, .inl z19), (5, .inl 1)]) (st' := [.inr (.inr 406), .inl z19]) rfl ?_
              refine k_getr (a := 406) (x := kx_406) rfl rfl rfl (by decide) rfl rfl rfl hI (fun h36 => ?_)
              rw [← et5]
              refine k_run 0 (pc' := 83) (l' := [(0, .inr (.inr 406)), (1, .inr (.inr t)), (2, .inl x2), (3, .inl (H.1 367 (x2).toNat)), (4, .inl z19), (5, .inl 1)]) (st' := [.inr (.inr t3), .inl z19]) rfl ?_
              refine k_run 1 (pc' := 84) (l' := [(0, .inr (.inr 406)), (1, .inr (.inr t)), (2, .inl x2), (3, .inl (H.1 367 (x2).toNat)), (4, .inl z19), (5, .inl 1)]) (st' := [.inl x2, .inr (.inr t3), .inl z19]) rfl ?_
              refine h_ild (c := t3) (j := (x2).toNat) (i := x2) rfl (iAs k4) (by omega) (by omega) (by omega) ?_
              have g37 : -2 ≤ (H.1 t3 (x2).toNat) ∧ (H.1 t3 (x2).toNat) ≤ 100 := iAz hI k4 (x2).toNat
              refine k_run 0 (pc' := 85) (l' := [(0, .inr (.inr 406)), (1, .inr (.inr t)), (2, .inl x2), (3, .inl (H.1 367 (x2).toNat)), (4, .inl z19), (5, .inl 1)]) (st' := [.inl (H.1 t3 (x2).toNat), .inl z19]) rfl ?_
              refine h_ine (off := 17) (t := 102) rfl rfl (by omega) (by omega) (fun c38 => ?_) (fun c38 => ?_)
              · refine k_run 0 (pc' := 102) (l' := [(0, .inr (.inr 406)), (1, .inr (.inr t)), (2, .inl x2), (3, .inl (H.1 367 (x2).toNat)), (4, .inl z19), (5, .inl 1)]) (st' := []) rfl ?_
                refine k_run 1 (pc' := 103) (l' := [(0, .inr (.inr 406)), (1, .inr (.inr t)), (2, .inl x2), (3, .inl (H.1 367 (x2).toNat)), (4, .inl z19), (5, .inl 1)]) (st' := [.inl 0]) rfl ?_
                refine h_retz (x := 0) rfl rfl (by decide) ?_
                exact ⟨_, rfl, (by omega), rfl⟩
              · refine k_run 0 (pc' := 88) (l' := [(0, .inr (.inr 406)), (1, .inr (.inr t)), (2, .inl x2), (3, .inl (H.1 367 (x2).toNat)), (4, .inl z19), (5, .inl 1)]) (st' := []) rfl ?_
                refine k_run 1 (pc' := 90) (l' := [(0, .inr (.inr 406)), (1, .inr (.inr t)), (2, .inl x2), (3, .inl (H.1 367 (x2).toNat)), (4, .inl z19), (5, .inl 1)]) (st' := [.inl 1]) rfl ?_
                refine h_zeq (off := 14) (t := 104) rfl rfl (by decide) (fun c => absurd c (by decide)) (fun _ => ?_)
                refine k_run 0 (pc' := 93) (l' := [(0, .inr (.inr 406)), (1, .inr (.inr t)), (2, .inl x2), (3, .inl (H.1 367 (x2).toNat)), (4, .inl z19), (5, .inl 1)]) (st' := []) rfl ?_
                refine k_run 3 (pc' := 96) (l' := [(0, .inr (.inr 406)), (1, .inr (.inr t)), (2, .inl x2), (3, .inl (H.1 367 (x2).toNat)), (4, .inl z19), (5, .inl 1)]) (st' := [.inl (H.1 367 (x2).toNat), .inr (.inr t), .inr (.inr 406)]) rfl ?_
                refine h_cv (i := 164) (j := 122) (b := 406) (M' := mt_122) (xs := [.inl (H.1 367 (x2).toNat), .inr (.inr t)]) (rest := []) rfl rfl rfl rfl (zs_K (x := kx_406) rfl (by decide)) rfl (Nat.le_of_ble_eq_true rfl) (Nat.le_of_ble_eq_true rfl) (by omega) (k_Prover_isSure (by omega) hI ht (by omega) (by omega)) ?_
                rintro _ _ ⟨z43, rfl, g39, rfl⟩
                refine k_run 0 (pc' := 99) (l' := [(0, .inr (.inr 406)), (1, .inr (.inr t)), (2, .inl x2), (3, .inl (H.1 367 (x2).toNat)), (4, .inl z19), (5, .inl 1)]) (st' := [.inl z43]) rfl ?_
                refine h_zne (off := 5) (t := 104) rfl rfl (by omega) (fun c44 => ?_) (fun c44 => ?_)
                · refine k_run 0 (pc' := 104) (l' := [(0, .inr (.inr 406)), (1, .inr (.inr t)), (2, .inl x2), (3, .inl (H.1 367 (x2).toNat)), (4, .inl z19), (5, .inl 1)]) (st' := []) rfl ?_
                  refine k_run 2 (pc' := 2) (l' := [(0, .inr (.inr 406)), (1, .inr (.inr t)), (2, .inl (x2 + 1)), (3, .inl (H.1 367 (x2).toNat)), (4, .inl z19), (5, .inl 1)]) (st' := []) rfl ?_
                  refine h_loc [0, 1, 2] rfl ?_
                  exact ih (x2 + 1) (by omega) (by omega) (by omega)
                · refine k_run 0 (pc' := 102) (l' := [(0, .inr (.inr 406)), (1, .inr (.inr t)), (2, .inl x2), (3, .inl (H.1 367 (x2).toNat)), (4, .inl z19), (5, .inl 1)]) (st' := []) rfl ?_
                  refine k_run 1 (pc' := 103) (l' := [(0, .inr (.inr 406)), (1, .inr (.inr t)), (2, .inl x2), (3, .inl (H.1 367 (x2).toNat)), (4, .inl z19), (5, .inl 1)]) (st' := [.inl 0]) rfl ?_
                  refine h_retz (x := 0) rfl rfl (by decide) ?_
                  exact ⟨_, rfl, (by omega), rfl⟩
set_option maxRecDepth 100000 in
theorem k_Prover_isAllowed {d : Nat} (hd : 3 ≤ d) {H : hp} (hI : Inv H) {t n : Nat} (ht : isT t n) : hG (zs zK) d mt_121 0 (zargs 0 [.inr (.inr 406), .inr (.inr t)]) [] H (fun r9 H9 => ∃ z : Int, r9 = some (.inl z) ∧ ((0 ≤ z ∧ z ≤ 1)) ∧ H = H9) := by
  have htb := ht.2.2.2.2
  refine k_run 0 (pc' := 0) (l' := [(0, .inr (.inr 406)), (1, .inr (.inr t))]) (st' := []) rfl ?_
  refine k_run 2 (pc' := 2) (l' := [(0, .inr (.inr 406)), (1, .inr (.inr t)), (2, .inl 0)]) (st' := []) rfl ?_
  exact (k_Prover_isAllowed_cut hd hI ht _) (0 : Int) (by decide) (by omega) (Nat.lt_succ_self _)

/-! Prover.rewriteAt -/
set_option maxRecDepth 100000 in
theorem k_Prover_rewriteAt {d : Nat} (hd : 4 ≤ d) {H : hp} (hI : Inv H) {a : Int} {b : Int} (ha : -2147483648 ≤ a ∧ a ≤ 2147483647) (hb : -2147483648 ≤ b ∧ b ≤ 2147483647) : hG (zs zK) d mt_120 0 (zargs 0 [.inr (.inr 406), .inl a, .inl b]) [] H (fun r9 H9 => ∃ z : Int, r9 = some (.inl z) ∧ ((-2147483648 ≤ z ∧ z ≤ 2147483647)) ∧ Inv H9 ∧ fq [(407, 3)] [367] false H H9) := by
  refine k_run 0 (pc' := 0) (l' := [(0, .inr (.inr 406)), (1, .inl a), (2, .inl b)]) (st' := []) rfl ?_
  refine k_run 2 (pc' := 2) (l' := [(0, .inr (.inr 406)), (1, .inl a), (2, .inl b)]) (st' := [.inl a, .inr (.inr 406)]) rfl ?_
  refine h_cv (i := 69) (j := 115) (b := 406) (M' := mt_115) (xs := [.inl a]) (rest := []) rfl rfl rfl rfl (zs_K (x := kx_406) rfl (by decide)) rfl (Nat.le_of_ble_eq_true rfl) (Nat.le_of_ble_eq_true rfl) (by omega) (k_Prover_sideOf (by omega) hI (by omega)) ?_
  rintro _ _ ⟨t5, n6, rfl, g1, rfl⟩
  have g1b := g1.2.2.2.2
  refine k_run 0 (pc' := 5) (l' := [(0, .inr (.inr 406)), (1, .inl a), (2, .inl b)]) (st' := [.inr (.inr t5)]) rfl ?_
  refine k_run 2 (pc' := 7) (l' := [(0, .inr (.inr 406)), (1, .inl a), (2, .inl b), (3, .inr (.inr t5))]) (st' := [.inl b]) rfl ?_
  refine h_zlt (off := 23) (t := 30) rfl rfl (by omega) (fun c7 => ?_) (fun c7 => ?_)
  · refine k_run 0 (pc' := 30) (l' := [(0, .inr (.inr 406)), (1, .inl a), (2, .inl b), (3, .inr (.inr t5))]) (st' := []) rfl ?_
    refine k_run 1 (pc' := 32) (l' := [(0, .inr (.inr 406)), (1, .inl a), (2, .inl b), (3, .inr (.inr t5))]) (st' := [.inl (-104)]) rfl ?_
    refine h_reti (x := (-104)) rfl rfl ?_
    exact ⟨_, rfl, (by omega), hI, (fq_rf _ _ _ _)⟩
  · refine k_run 0 (pc' := 10) (l' := [(0, .inr (.inr 406)), (1, .inl a), (2, .inl b), (3, .inr (.inr t5))]) (st' := []) rfl ?_
    refine k_run 3 (pc' := 15) (l' := [(0, .inr (.inr 406)), (1, .inl a), (2, .inl b), (3, .inr (.inr t5))]) (st' := [.inr (.inr 406), .inr (.inr 366)]) rfl ?_
    refine k_getr (a := 406) (x := kx_406) rfl rfl rfl (by decide) rfl rfl rfl hI (fun h8 => ?_)
    obtain ⟨t9, et11⟩ : ∃ t9, t9 = H.2 406 6 := ⟨_, rfl⟩
    rw [← et11] at h8 ⊢
    obtain ⟨n12, k10⟩ := (show ∃ n, isT t9 n from h8)
    have k10b := k10.2.2.2.2
    refine k_run 0 (pc' := 18) (l' := [(0, .inr (.inr 406)), (1, .inl a), (2, .inl b), (3, .inr (.inr t5))]) (st' := [.inr (.inr t9), .inr (.inr 366)]) rfl ?_
    refine k_run 2 (pc' := 22) (l' := [(0, .inr (.inr 406)), (1, .inl a), (2, .inl b), (3, .inr (.inr t5))]) (st' := [.inr (.inl (H.1 406 8)), .inr (.inr t9), .inr (.inr 366)]) rfl ?_
    have g13 : -9223372036854775808 ≤ (H.1 406 8) ∧ (H.1 406 8) ≤ 9223372036854775807 := kn (x := kx_406) hI rfl 8
    refine k_run 2 (pc' := 24) (l' := [(0, .inr (.inr 406)), (1, .inl a), (2, .inl b), (3, .inr (.inr t5))]) (st' := [.inl b, .inr (.inr t5), .inr (.inl (H.1 406 8)), .inr (.inr t9), .inr (.inr 366)]) rfl ?_
    refine h_cv (i := 145) (j := 96) (b := 366) (M' := mt_96) (xs := [.inl b, .inr (.inr t5), .inr (.inl (H.1 406 8)), .inr (.inr t9)]) (rest := []) rfl rfl rfl rfl (zs_K (x := kx_366) rfl (by decide)) rfl (Nat.le_of_ble_eq_true rfl) (Nat.le_of_ble_eq_true rfl) (by omega) (k_Rewriter_matchSide (by omega) hI k10 g1 (by omega)) ?_
    rintro _ H15 ⟨z18, rfl, g14, hI16, hq17⟩
    have hf19 : fq [(407, 3)] [367] false H H15 := fq_t (fq_rf _ _ _ _) hq17 rfl rfl rfl
    refine k_run 0 (pc' := 27) (l' := [(0, .inr (.inr 406)), (1, .inl a), (2, .inl b), (3, .inr (.inr t5))]) (st' := [.inl z18]) rfl ?_
    refine h_zne (off := 6) (t := 33) rfl rfl (by omega) (fun c20 => ?_) (fun c20 => ?_)
    · refine k_run 0 (pc' := 33) (l' := [(0, .inr (.inr 406)), (1, .inl a), (2, .inl b), (3, .inr (.inr t5))]) (st' := []) rfl ?_
      refine k_run 2 (pc' := 35) (l' := [(0, .inr (.inr 406)), (1, .inl a), (2, .inl b), (3, .inr (.inr t5))]) (st' := [.inr (.inr t5), .inr (.inr 406)]) rfl ?_
      refine h_cv (i := 149) (j := 121) (b := 406) (M' := mt_121) (xs := [.inr (.inr t5)]) (rest := []) rfl rfl rfl rfl (zs_K (x := kx_406) rfl (by decide)) rfl (Nat.le_of_ble_eq_true rfl) (Nat.le_of_ble_eq_true rfl) (by omega) (k_Prover_isAllowed (by omega) hI16 g1) ?_
      rintro _ _ ⟨z25, rfl, g21, rfl⟩
      refine k_run 0 (pc' := 38) (l' := [(0, .inr (.inr 406)), (1, .inl a), (2, .inl b), (3, .inr (.inr t5))]) (st' := [.inl z25]) rfl ?_
      refine h_zeq (off := 21) (t := 59) rfl rfl (by omega) (fun c26 => ?_) (fun c26 => ?_)
      · refine k_run 0 (pc' := 59) (l' := [(0, .inr (.inr 406)), (1, .inl a), (2, .inl b), (3, .inr (.inr t5))]) (st' := []) rfl ?_
        refine k_run 1 (pc' := 61) (l' := [(0, .inr (.inr 406)), (1, .inl a), (2, .inl b), (3, .inr (.inr t5))]) (st' := [.inl (-104)]) rfl ?_
        refine h_reti (x := (-104)) rfl rfl ?_
        exact ⟨_, rfl, (by omega), hI16, hf19⟩
      · refine k_run 0 (pc' := 41) (l' := [(0, .inr (.inr 406)), (1, .inl a), (2, .inl b), (3, .inr (.inr t5))]) (st' := []) rfl ?_
        refine k_run 3 (pc' := 46) (l' := [(0, .inr (.inr 406)), (1, .inl a), (2, .inl b), (3, .inr (.inr t5))]) (st' := [.inr (.inr 406), .inr (.inr 366)]) rfl ?_
        refine k_getr (a := 406) (x := kx_406) rfl rfl rfl (by decide) rfl rfl rfl hI16 (fun h27 => ?_)
        obtain ⟨t28, et30⟩ : ∃ t9, t9 = H15.2 406 7 := ⟨_, rfl⟩
        rw [← et30] at h27 ⊢
        obtain ⟨n31, k29⟩ := (show ∃ n, isT t28 n from h27)
        have k29b := k29.2.2.2.2
        refine k_run 0 (pc' := 49) (l' := [(0, .inr (.inr 406)), (1, .inl a), (2, .inl b), (3, .inr (.inr t5))]) (st' := [.inr (.inr t28), .inr (.inr 366)]) rfl ?_
        refine k_run 2 (pc' := 53) (l' := [(0, .inr (.inr 406)), (1, .inl a), (2, .inl b), (3, .inr (.inr t5))]) (st' := [.inr (.inl (H15.1 406 8)), .inr (.inr t28), .inr (.inr 366)]) rfl ?_
        have g32 : -9223372036854775808 ≤ (H15.1 406 8) ∧ (H15.1 406 8) ≤ 9223372036854775807 := kn (x := kx_406) hI16 rfl 8
        have e33 : (H15.1 406 8) = (H.1 406 8) := (hq17.1 406 8 rfl (by decide) (by decide)).1
        refine h_cv (i := 153) (j := 97) (b := 366) (M' := mt_97) (xs := [.inr (.inl (H15.1 406 8)), .inr (.inr t28)]) (rest := []) rfl rfl rfl rfl (zs_K (x := kx_366) rfl (by decide)) rfl (Nat.le_of_ble_eq_true rfl) (Nat.le_of_ble_eq_true rfl) (by omega) (k_Rewriter_isBound (by omega) hI16 k29) ?_
        rintro _ _ ⟨z38, rfl, g34, rfl⟩
        refine k_run 0 (pc' := 56) (l' := [(0, .inr (.inr 406)), (1, .inl a), (2, .inl b), (3, .inr (.inr t5))]) (st' := [.inl z38]) rfl ?_
        refine h_zne (off := 6) (t := 62) rfl rfl (by omega) (fun c39 => ?_) (fun c39 => ?_)
        · refine k_run 0 (pc' := 62) (l' := [(0, .inr (.inr 406)), (1, .inl a), (2, .inl b), (3, .inr (.inr t5))]) (st' := []) rfl ?_
          refine k_run 5 (pc' := 69) (l' := [(0, .inr (.inr 406)), (1, .inl a), (2, .inl b), (3, .inr (.inr t5))]) (st' := [.inr (.inr 406), .inl b, .inr (.inr t5), .inr (.inr 366)]) rfl ?_
          refine k_getr (a := 406) (x := kx_406) rfl rfl rfl (by decide) rfl rfl rfl hI16 (fun h40 => ?_)
          rw [← et30]
          refine k_run 0 (pc' := 72) (l' := [(0, .inr (.inr 406)), (1, .inl a), (2, .inl b), (3, .inr (.inr t5))]) (st' := [.inr (.inr t28), .inl b, .inr (.inr t5), .inr (.inr 366)]) rfl ?_
          refine k_run 2 (pc' := 76) (l' := [(0, .inr (.inr 406)), (1, .inl a), (2, .inl b), (3, .inr (.inr t5))]) (st' := [.inr (.inr 1350), .inr (.inr t28), .inl b, .inr (.inr t5), .inr (.inr 366)]) rfl ?_
          refine h_cv (i := 92) (j := 98) (b := 366) (M' := mt_98) (xs := [.inr (.inr 1350), .inr (.inr t28), .inl b, .inr (.inr t5)]) (rest := []) rfl rfl rfl rfl (zs_K (x := kx_366) rfl (by decide)) rfl (Nat.le_of_ble_eq_true rfl) (Nat.le_of_ble_eq_true rfl) (by omega) (k_Rewriter_replaceAt (by omega) hI16 g1 (by omega) k29 iT_1350) ?_
          rintro _ H42 ⟨z45, rfl, g41, hI43, hq44⟩
          have hf46 : fq [(407, 3)] [367] false H H42 := fq_t hf19 hq44 rfl rfl rfl
          refine k_run 0 (pc' := 79) (l' := [(0, .inr (.inr 406)), (1, .inl a), (2, .inl b), (3, .inr (.inr t5))]) (st' := [.inl z45]) rfl ?_
          refine h_zeq (off := 11) (t := 90) rfl rfl (by omega) (fun c47 => ?_) (fun c47 => ?_)
          · refine k_run 0 (pc' := 90) (l' := [(0, .inr (.inr 406)), (1, .inl a), (2, .inl b), (3, .inr (.inr t5))]) (st' := []) rfl ?_
            refine k_run 1 (pc' := 92) (l' := [(0, .inr (.inr 406)), (1, .inl a), (2, .inl b), (3, .inr (.inr t5))]) (st' := [.inl (-105)]) rfl ?_
            refine h_reti (x := (-105)) rfl rfl ?_
            exact ⟨_, rfl, (by omega), hI43, hf46⟩
          · refine k_run 0 (pc' := 82) (l' := [(0, .inr (.inr 406)), (1, .inl a), (2, .inl b), (3, .inr (.inr t5))]) (st' := []) rfl ?_
            refine k_run 2 (pc' := 84) (l' := [(0, .inr (.inr 406)), (1, .inl a), (2, .inl b), (3, .inr (.inr t5))]) (st' := [.inr (.inr t5), .inr (.inr 406)]) rfl ?_
            refine h_cv (i := 96) (j := 123) (b := 406) (M' := mt_123) (xs := [.inr (.inr t5)]) (rest := []) rfl rfl rfl rfl (zs_K (x := kx_406) rfl (by decide)) rfl (Nat.le_of_ble_eq_true rfl) (Nat.le_of_ble_eq_true rfl) (by omega) (k_Prover_changeSide (by omega) hI43 g1) ?_
            rintro _ H49 ⟨z52, rfl, g48, hI50, hq51⟩
            have hf53 : fq [(407, 3)] [367] false H H49 := fq_t hf46 hq51 rfl rfl rfl
            refine k_run 0 (pc' := 87) (l' := [(0, .inr (.inr 406)), (1, .inl a), (2, .inl b), (3, .inr (.inr t5))]) (st' := [.inl z52]) rfl ?_
            refine k_run 1 (pc' := 92) (l' := [(0, .inr (.inr 406)), (1, .inl a), (2, .inl b), (3, .inr (.inr t5))]) (st' := [.inl z52]) rfl ?_
            refine h_reti (x := z52) rfl rfl ?_
            exact ⟨_, rfl, (by omega), hI50, hf53⟩
        · refine k_run 0 (pc' := 59) (l' := [(0, .inr (.inr 406)), (1, .inl a), (2, .inl b), (3, .inr (.inr t5))]) (st' := []) rfl ?_
          refine k_run 1 (pc' := 61) (l' := [(0, .inr (.inr 406)), (1, .inl a), (2, .inl b), (3, .inr (.inr t5))]) (st' := [.inl (-104)]) rfl ?_
          refine h_reti (x := (-104)) rfl rfl ?_
          exact ⟨_, rfl, (by omega), hI16, hf19⟩
    · refine k_run 0 (pc' := 30) (l' := [(0, .inr (.inr 406)), (1, .inl a), (2, .inl b), (3, .inr (.inr t5))]) (st' := []) rfl ?_
      refine k_run 1 (pc' := 32) (l' := [(0, .inr (.inr 406)), (1, .inl a), (2, .inl b), (3, .inr (.inr t5))]) (st' := [.inl (-104)]) rfl ?_
      refine h_reti (x := (-104)) rfl rfl ?_
      exact ⟨_, rfl, (by omega), hI16, hf19⟩

/-! Prover.aimAtVariable -/
set_option maxRecDepth 100000 in
theorem k_Prover_aimAtVariable {d : Nat} (hd : 2 ≤ d) {H : hp} (hI : Inv H) {a : Int} (ha : -2147483648 ≤ a ∧ a ≤ 2147483647) : hG (zs zK) d mt_126 0 (zargs 0 [.inr (.inr 406), .inl a]) [] H (fun r9 H9 => r9 = none ∧ Inv H9 ∧ fq [(406, 13), (406, 14), (406, 18)] [] false H H9) := by
  refine k_run 0 (pc' := 0) (l' := [(0, .inr (.inr 406)), (1, .inl a)]) (st' := []) rfl ?_
  refine k_run 3 (pc' := 5) (l' := [(0, .inr (.inr 406)), (1, .inl a)]) (st' := [.inl 0, .inr (.inr 1352)]) rfl ?_
  refine k_puti (z := 0) (a := 1352) (x := (kTo 1352 60)) rfl rfl iT_1352.1 (iT0 iT_1352) iT_1352.2.2.1 rfl rfl rfl rfl hI (by decide) (show 0 ≤ (0 : Int) ∧ (0 : Int) ≤ 60 by omega) (fun H1 hI2 hw3 hv4 => ?_)
  have hf5 : fq [(406, 13), (406, 14), (406, 18)] [] false H H1 := fq_w (fq_rf _ _ _ _) hw3 (fpT iT_1352)
  refine k_run 0 (pc' := 8) (l' := [(0, .inr (.inr 406)), (1, .inl a)]) (st' := []) rfl ?_
  refine k_run 5 (pc' := 15) (l' := [(0, .inr (.inr 406)), (1, .inl a)]) (st' := [.inl 0, .inl a, .inl 3, .inr (.inr 1352)]) rfl ?_
  refine h_cs (i := 238) (j := 48) (M' := mt_48) (xs := [.inl 0, .inl a, .inl 3]) (rest := [.inr (.inr 1352)]) rfl rfl rfl rfl rfl (Nat.le_of_ble_eq_true rfl) (Nat.le_of_ble_eq_true rfl) (by omega) (k_Term_codeOf (by omega)  (by decide) (by omega) (by decide)) ?_
  rintro _ _ ⟨z10, rfl, g6, rfl⟩
  refine k_run 0 (pc' := 18) (l' := [(0, .inr (.inr 406)), (1, .inl a)]) (st' := [.inl z10, .inr (.inr 1352)]) rfl ?_
  refine h_cv (i := 242) (j := 52) (b := 1352) (M' := mt_52) (xs := [.inl z10]) (rest := []) rfl rfl rfl rfl (by rw [zs_K iT_1352.1 (iT0 iT_1352)]; rfl) rfl (Nat.le_of_ble_eq_true rfl) (Nat.le_of_ble_eq_true rfl) (by omega) (k_Term_put (by omega) hI2 iT_1352 (by omega)) ?_
  rintro _ H12 ⟨rfl, hI13, hq14⟩
  have hf15 : fq [(406, 13), (406, 14), (406, 18)] [] false H H12 := fq_t hf5 hq14 rfl rfl rfl
  refine k_run 0 (pc' := 21) (l' := [(0, .inr (.inr 406)), (1, .inl a)]) (st' := []) rfl ?_
  refine k_run 2 (pc' := 23) (l' := [(0, .inr (.inr 406)), (1, .inl a)]) (st' := [.inl a, .inr (.inr 406)]) rfl ?_
  refine k_putw (a := 406) (x := kx_406) rfl rfl rfl (by decide) (by decide) rfl rfl rfl rfl hI13 rfl (fun H16 hI17 hw18 => ?_)
  have hf20 : fq [(406, 13), (406, 14), (406, 18)] [] false H H16 := fq_w hf15 hw18 (fpo (by decide) rfl)
  refine k_run 0 (pc' := 26) (l' := [(0, .inr (.inr 406)), (1, .inl a)]) (st' := []) rfl ?_
  refine k_run 2 (pc' := 28) (l' := [(0, .inr (.inr 406)), (1, .inl a)]) (st' := [.inl a, .inr (.inr 406)]) rfl ?_
  refine h_zlt (off := 27) (t := 55) rfl rfl (by omega) (fun c21 => ?_) (fun c21 => ?_)
  · refine k_run 0 (pc' := 55) (l' := [(0, .inr (.inr 406)), (1, .inl a)]) (st' := [.inr (.inr 406)]) rfl ?_
    refine k_run 1 (pc' := 56) (l' := [(0, .inr (.inr 406)), (1, .inl a)]) (st' := [.inl (-1), .inr (.inr 406)]) rfl ?_
    refine k_putw (a := 406) (x := kx_406) rfl rfl rfl (by decide) (by decide) rfl rfl rfl rfl hI17 rfl (fun H22 hI23 hw24 => ?_)
    have hf26 : fq [(406, 13), (406, 14), (406, 18)] [] false H H22 := fq_w hf20 hw24 (fpo (by decide) rfl)
    refine k_run 0 (pc' := 59) (l' := [(0, .inr (.inr 406)), (1, .inl a)]) (st' := []) rfl ?_
    refine k_run 4 (pc' := 67) (l' := [(0, .inr (.inr 406)), (1, .inl a)]) (st' := [.inr (.inl (H22.1 407 7)), .inr (.inr 406)]) rfl ?_
    have g27 : -9223372036854775808 ≤ (H22.1 407 7) ∧ (H22.1 407 7) ≤ 9223372036854775807 := kn (x := kx_407) hI23 rfl 7
    have e28 : (H22.1 407 7) = (H16.1 407 7) := hw24.2 _ _ (fun q => absurd q.1 (by decide))
    have e29 : (H16.1 407 7) = (H12.1 407 7) := hw18.2 _ _ (fun q => absurd q.1 (by decide))
    have e30 : (H12.1 407 7) = (H1.1 407 7) := (hq14.1 407 7 rfl (by decide) (by decide)).1
    have e31 : (H1.1 407 7) = (H.1 407 7) := hw3.2 _ _ (fun q => by have h9 := (iTf iT_1352); rw [← q.1] at h9; exact absurd h9 (by decide))
    refine k_run 2 (pc' := 69) (l' := [(0, .inr (.inr 406)), (1, .inl a)]) (st' := [.inr (.inl (z_lshr (H22.1 407 7) a)), .inr (.inr 406)]) rfl ?_
    refine k_nrmj (fun y32 hy32 => ?_)
    refine k_run 2 (pc' := 71) (l' := [(0, .inr (.inr 406)), (1, .inl a)]) (st' := [.inr (.inl (z_land y32 1)), .inr (.inr 406)]) rfl ?_
    refine k_nrmj (fun y33 hy33 => ?_)
    refine k_run 2 (pc' := 73) (l' := [(0, .inr (.inr 406)), (1, .inl a)]) (st' := [.inl (z_cmp y33 1), .inr (.inr 406)]) rfl ?_
    refine k_nrm (fun y34 hy34 => ?_)
    refine k_run 0 (pc' := 73) (l' := [(0, .inr (.inr 406)), (1, .inl a)]) (st' := [.inl y34, .inr (.inr 406)]) rfl ?_
    refine h_zne (off := 7) (t := 80) rfl rfl (by omega) (fun c35 => ?_) (fun c35 => ?_)
    · refine k_run 0 (pc' := 80) (l' := [(0, .inr (.inr 406)), (1, .inl a)]) (st' := [.inr (.inr 406)]) rfl ?_
      refine k_run 1 (pc' := 81) (l' := [(0, .inr (.inr 406)), (1, .inl a)]) (st' := [.inl 0, .inr (.inr 406)]) rfl ?_
      refine k_putz (z := 0) (a := 406) (x := kx_406) rfl rfl rfl (by decide) (by decide) rfl rfl rfl rfl hI23 (by decide) rfl (fun H36 hI37 hw38 hv39 => ?_)
      have hf40 : fq [(406, 13), (406, 14), (406, 18)] [] false H H36 := fq_w hf26 hw38 (fpo (by decide) rfl)
      refine k_run 0 (pc' := 84) (l' := [(0, .inr (.inr 406)), (1, .inl a)]) (st' := []) rfl ?_
      refine h_ret rfl rfl ?_
      exact ⟨rfl, hI37, hf40⟩
    · refine k_run 0 (pc' := 76) (l' := [(0, .inr (.inr 406)), (1, .inl a)]) (st' := [.inr (.inr 406)]) rfl ?_
      refine k_run 2 (pc' := 81) (l' := [(0, .inr (.inr 406)), (1, .inl a)]) (st' := [.inl 1, .inr (.inr 406)]) rfl ?_
      refine k_putz (z := 1) (a := 406) (x := kx_406) rfl rfl rfl (by decide) (by decide) rfl rfl rfl rfl hI23 (by decide) rfl (fun H41 hI42 hw43 hv44 => ?_)
      have hf45 : fq [(406, 13), (406, 14), (406, 18)] [] false H H41 := fq_w hf26 hw43 (fpo (by decide) rfl)
      refine k_run 0 (pc' := 84) (l' := [(0, .inr (.inr 406)), (1, .inl a)]) (st' := []) rfl ?_
      refine h_ret rfl rfl ?_
      exact ⟨rfl, hI42, hf45⟩
  · refine k_run 0 (pc' := 31) (l' := [(0, .inr (.inr 406)), (1, .inl a)]) (st' := [.inr (.inr 406)]) rfl ?_
    refine k_run 4 (pc' := 39) (l' := [(0, .inr (.inr 406)), (1, .inl a)]) (st' := [.inr (.inr 409), .inl a, .inr (.inr 406)]) rfl ?_
    refine k_alen (c := 409) (x := kx_409) rfl rfl (by decide) rfl ?_
    refine k_run 0 (pc' := 40) (l' := [(0, .inr (.inr 406)), (1, .inl a)]) (st' := [.inl 60, .inl a, .inr (.inr 406)]) rfl ?_
    refine h_ige (off := 15) (t := 55) rfl rfl (by omega) (by decide) (fun c46 => ?_) (fun c46 => ?_)
    · refine k_run 0 (pc' := 55) (l' := [(0, .inr (.inr 406)), (1, .inl a)]) (st' := [.inr (.inr 406)]) rfl ?_
      refine k_run 1 (pc' := 56) (l' := [(0, .inr (.inr 406)), (1, .inl a)]) (st' := [.inl (-1), .inr (.inr 406)]) rfl ?_
      refine k_putw (a := 406) (x := kx_406) rfl rfl rfl (by decide) (by decide) rfl rfl rfl rfl hI17 rfl (fun H47 hI48 hw49 => ?_)
      have hf51 : fq [(406, 13), (406, 14), (406, 18)] [] false H H47 := fq_w hf20 hw49 (fpo (by decide) rfl)
      refine k_run 0 (pc' := 59) (l' := [(0, .inr (.inr 406)), (1, .inl a)]) (st' := []) rfl ?_
      refine k_run 4 (pc' := 67) (l' := [(0, .inr (.inr 406)), (1, .inl a)]) (st' := [.inr (.inl (H47.1 407 7)), .inr (.inr 406)]) rfl ?_
      have g52 : -9223372036854775808 ≤ (H47.1 407 7) ∧ (H47.1 407 7) ≤ 9223372036854775807 := kn (x := kx_407) hI48 rfl 7
      have e53 : (H47.1 407 7) = (H16.1 407 7) := hw49.2 _ _ (fun q => absurd q.1 (by decide))
      have e54 : (H16.1 407 7) = (H12.1 407 7) := hw18.2 _ _ (fun q => absurd q.1 (by decide))
      have e55 : (H12.1 407 7) = (H1.1 407 7) := (hq14.1 407 7 rfl (by decide) (by decide)).1
      have e56 : (H1.1 407 7) = (H.1 407 7) := hw3.2 _ _ (fun q => by have h9 := (iTf iT_1352); rw [← q.1] at h9; exact absurd h9 (by decide))
      refine k_run 2 (pc' := 69) (l' := [(0, .inr (.inr 406)), (1, .inl a)]) (st' := [.inr (.inl (z_lshr (H47.1 407 7) a)), .inr (.inr 406)]) rfl ?_
      refine k_nrmj (fun y57 hy57 => ?_)
      refine k_run 2 (pc' := 71) (l' := [(0, .inr (.inr 406)), (1, .inl a)]) (st' := [.inr (.inl (z_land y57 1)), .inr (.inr 406)]) rfl ?_
      refine k_nrmj (fun y58 hy58 => ?_)
      refine k_run 2 (pc' := 73) (l' := [(0, .inr (.inr 406)), (1, .inl a)]) (st' := [.inl (z_cmp y58 1), .inr (.inr 406)]) rfl ?_
      refine k_nrm (fun y59 hy59 => ?_)
      refine k_run 0 (pc' := 73) (l' := [(0, .inr (.inr 406)), (1, .inl a)]) (st' := [.inl y59, .inr (.inr 406)]) rfl ?_
      refine h_zne (off := 7) (t := 80) rfl rfl (by omega) (fun c60 => ?_) (fun c60 => ?_)
      · refine k_run 0 (pc' := 80) (l' := [(0, .inr (.inr 406)), (1, .inl a)]) (st' := [.inr (.inr 406)]) rfl ?_
        refine k_run 1 (pc' := 81) (l' := [(0, .inr (.inr 406)), (1, .inl a)]) (st' := [.inl 0, .inr (.inr 406)]) rfl ?_
        refine k_putz (z := 0) (a := 406) (x := kx_406) rfl rfl rfl (by decide) (by decide) rfl rfl rfl rfl hI48 (by decide) rfl (fun H61 hI62 hw63 hv64 => ?_)
        have hf65 : fq [(406, 13), (406, 14), (406, 18)] [] false H H61 := fq_w hf51 hw63 (fpo (by decide) rfl)
        refine k_run 0 (pc' := 84) (l' := [(0, .inr (.inr 406)), (1, .inl a)]) (st' := []) rfl ?_
        refine h_ret rfl rfl ?_
        exact ⟨rfl, hI62, hf65⟩
      · refine k_run 0 (pc' := 76) (l' := [(0, .inr (.inr 406)), (1, .inl a)]) (st' := [.inr (.inr 406)]) rfl ?_
        refine k_run 2 (pc' := 81) (l' := [(0, .inr (.inr 406)), (1, .inl a)]) (st' := [.inl 1, .inr (.inr 406)]) rfl ?_
        refine k_putz (z := 1) (a := 406) (x := kx_406) rfl rfl rfl (by decide) (by decide) rfl rfl rfl rfl hI48 (by decide) rfl (fun H66 hI67 hw68 hv69 => ?_)
        have hf70 : fq [(406, 13), (406, 14), (406, 18)] [] false H H66 := fq_w hf51 hw68 (fpo (by decide) rfl)
        refine k_run 0 (pc' := 84) (l' := [(0, .inr (.inr 406)), (1, .inl a)]) (st' := []) rfl ?_
        refine h_ret rfl rfl ?_
        exact ⟨rfl, hI67, hf70⟩
    · refine k_run 0 (pc' := 43) (l' := [(0, .inr (.inr 406)), (1, .inl a)]) (st' := [.inr (.inr 406)]) rfl ?_
      refine k_run 4 (pc' := 51) (l' := [(0, .inr (.inr 406)), (1, .inl a)]) (st' := [.inl a, .inr (.inr 409), .inr (.inr 406)]) rfl ?_
      refine k_ild (c := 409) (j := (a).toNat) (i := a) (x := kx_409) rfl rfl (by decide) rfl (by decide) (by omega) (by omega) ?_
      have g71 : -2 ≤ (H16.1 409 (a).toNat) ∧ (H16.1 409 (a).toNat) ≤ 100 := kn (x := kx_409) hI17 rfl (a).toNat
      have e72 : (H16.1 409 (a).toNat) = (H12.1 409 (a).toNat) := hw18.2 _ _ (fun q => absurd q.1 (by decide))
      have e73 : (H12.1 409 (a).toNat) = (H1.1 409 (a).toNat) := (hq14.1 409 (a).toNat rfl (by decide) (fun q => by simp at q)).1
      have e74 : (H1.1 409 (a).toNat) = (H.1 409 (a).toNat) := hw3.2 _ _ (fun q => by have h9 := (iTf iT_1352); rw [← q.1] at h9; exact absurd h9 (by decide))
      refine k_run 0 (pc' := 52) (l' := [(0, .inr (.inr 406)), (1, .inl a)]) (st' := [.inl (H16.1 409 (a).toNat), .inr (.inr 406)]) rfl ?_
      refine k_run 1 (pc' := 56) (l' := [(0, .inr (.inr 406)), (1, .inl a)]) (st' := [.inl (H16.1 409 (a).toNat), .inr (.inr 406)]) rfl ?_
      refine k_putw (a := 406) (x := kx_406) rfl rfl rfl (by decide) (by decide) rfl rfl rfl rfl hI17 rfl (fun H75 hI76 hw77 => ?_)
      have hf79 : fq [(406, 13), (406, 14), (406, 18)] [] false H H75 := fq_w hf20 hw77 (fpo (by decide) rfl)
      refine k_run 0 (pc' := 59) (l' := [(0, .inr (.inr 406)), (1, .inl a)]) (st' := []) rfl ?_
      refine k_run 4 (pc' := 67) (l' := [(0, .inr (.inr 406)), (1, .inl a)]) (st' := [.inr (.inl (H75.1 407 7)), .inr (.inr 406)]) rfl ?_
      have g80 : -9223372036854775808 ≤ (H75.1 407 7) ∧ (H75.1 407 7) ≤ 9223372036854775807 := kn (x := kx_407) hI76 rfl 7
      have e81 : (H75.1 407 7) = (H16.1 407 7) := hw77.2 _ _ (fun q => absurd q.1 (by decide))
      have e82 : (H16.1 407 7) = (H12.1 407 7) := hw18.2 _ _ (fun q => absurd q.1 (by decide))
      have e83 : (H12.1 407 7) = (H1.1 407 7) := (hq14.1 407 7 rfl (by decide) (by decide)).1
      have e84 : (H1.1 407 7) = (H.1 407 7) := hw3.2 _ _ (fun q => by have h9 := (iTf iT_1352); rw [← q.1] at h9; exact absurd h9 (by decide))
      refine k_run 2 (pc' := 69) (l' := [(0, .inr (.inr 406)), (1, .inl a)]) (st' := [.inr (.inl (z_lshr (H75.1 407 7) a)), .inr (.inr 406)]) rfl ?_
      refine k_nrmj (fun y85 hy85 => ?_)
      refine k_run 2 (pc' := 71) (l' := [(0, .inr (.inr 406)), (1, .inl a)]) (st' := [.inr (.inl (z_land y85 1)), .inr (.inr 406)]) rfl ?_
      refine k_nrmj (fun y86 hy86 => ?_)
      refine k_run 2 (pc' := 73) (l' := [(0, .inr (.inr 406)), (1, .inl a)]) (st' := [.inl (z_cmp y86 1), .inr (.inr 406)]) rfl ?_
      refine k_nrm (fun y87 hy87 => ?_)
      refine k_run 0 (pc' := 73) (l' := [(0, .inr (.inr 406)), (1, .inl a)]) (st' := [.inl y87, .inr (.inr 406)]) rfl ?_
      refine h_zne (off := 7) (t := 80) rfl rfl (by omega) (fun c88 => ?_) (fun c88 => ?_)
      · refine k_run 0 (pc' := 80) (l' := [(0, .inr (.inr 406)), (1, .inl a)]) (st' := [.inr (.inr 406)]) rfl ?_
        refine k_run 1 (pc' := 81) (l' := [(0, .inr (.inr 406)), (1, .inl a)]) (st' := [.inl 0, .inr (.inr 406)]) rfl ?_
        refine k_putz (z := 0) (a := 406) (x := kx_406) rfl rfl rfl (by decide) (by decide) rfl rfl rfl rfl hI76 (by decide) rfl (fun H89 hI90 hw91 hv92 => ?_)
        have hf93 : fq [(406, 13), (406, 14), (406, 18)] [] false H H89 := fq_w hf79 hw91 (fpo (by decide) rfl)
        refine k_run 0 (pc' := 84) (l' := [(0, .inr (.inr 406)), (1, .inl a)]) (st' := []) rfl ?_
        refine h_ret rfl rfl ?_
        exact ⟨rfl, hI90, hf93⟩
      · refine k_run 0 (pc' := 76) (l' := [(0, .inr (.inr 406)), (1, .inl a)]) (st' := [.inr (.inr 406)]) rfl ?_
        refine k_run 2 (pc' := 81) (l' := [(0, .inr (.inr 406)), (1, .inl a)]) (st' := [.inl 1, .inr (.inr 406)]) rfl ?_
        refine k_putz (z := 1) (a := 406) (x := kx_406) rfl rfl rfl (by decide) (by decide) rfl rfl rfl rfl hI76 (by decide) rfl (fun H94 hI95 hw96 hv97 => ?_)
        have hf98 : fq [(406, 13), (406, 14), (406, 18)] [] false H H94 := fq_w hf79 hw96 (fpo (by decide) rfl)
        refine k_run 0 (pc' := 84) (l' := [(0, .inr (.inr 406)), (1, .inl a)]) (st' := []) rfl ?_
        refine h_ret rfl rfl ?_
        exact ⟨rfl, hI95, hf98⟩

/-! Prover.putInstead -/
set_option maxRecDepth 100000 in
theorem k_Prover_putInstead_cut {d : Nat} (hd : 3 ≤ d) {H : hp} (hI : Inv H) {a : Int} {b : Int} (ha : -2147483648 ≤ a ∧ a ≤ 2147483647) (hb : -2147483648 ≤ b ∧ b ≤ 2147483647) (hp0 : -1 ≤ a ∧ a < 16) (hp1 : 0 ≤ b ∧ b ≤ 60) : ∀ w : Nat, (∀ (H1 : hp), Inv H1 → fq [] [409] false H H1 → ∀ (x3 : Int) (x4 : Int) , (-2147483648 ≤ x3 ∧ x3 ≤ 2147483647) → (-2147483648 ≤ x4 ∧ x4 ≤ 2147483647) → (0 ≤ x4) → (0 ≤ x3 ∧ x3 ≤ 4) → (((100 - x4).toNat) < w) → hG (zs zK) d mt_128 55 [(0, .inr (.inr 406)), (1, .inl a), (2, .inl b), (3, .inl x3), (4, .inl x4)] [] H1 (fun r9 H9 => ∃ z : Int, r9 = some (.inl z) ∧ ((-2147483648 ≤ z ∧ z ≤ 2147483647) ∧ (b ≤ z ∧ z ≤ b + 4)) ∧ Inv H9 ∧ fq [] [409] false H H9)) := by
  intro w
  induction w with
  | zero => exact fun _ _ _ _ _ _ _ _ _ h => absurd h (Nat.not_lt_zero _)
  | succ w ih =>
    intro H1 hI1 hf1 x3 x4 hx3 hx4 hi0 hi1 hw
    refine k_run 2 (pc' := 58) (l' := [(0, .inr (.inr 406)), (1, .inl a), (2, .inl b), (3, .inl x3), (4, .inl x4)]) (st' := [.inl x3, .inl x4]) rfl ?_
    refine h_ige (off := 59) (t := 117) rfl rfl (by omega) (by omega) (fun c27 => ?_) (fun c27 => ?_)
    · refine k_run 0 (pc' := 117) (l' := [(0, .inr (.inr 406)), (1, .inl a), (2, .inl b), (3, .inl x3), (4, .inl x4)]) (st' := []) rfl ?_
      refine k_run 3 (pc' := 120) (l' := [(0, .inr (.inr 406)), (1, .inl a), (2, .inl b), (3, .inl x3), (4, .inl x4)]) (st' := [.inl (b + x3)]) rfl ?_
      refine h_reti (x := (b + x3)) rfl rfl ?_
      exact ⟨_, rfl, (by omega), hI1, hf1⟩
    · refine k_run 0 (pc' := 61) (l' := [(0, .inr (.inr 406)), (1, .inl a), (2, .inl b), (3, .inl x3), (4, .inl x4)]) (st' := []) rfl ?_
      refine k_run 4 (pc' := 67) (l' := [(0, .inr (.inr 406)), (1, .inl a), (2, .inl b), (3, .inl x3), (4, .inl x4)]) (st' := [.inl 60, .inl (b + x4)]) rfl ?_
      refine h_ige (off := 50) (t := 117) rfl rfl (by omega) (by decide) (fun c28 => ?_) (fun c28 => ?_)
      · refine k_run 0 (pc' := 117) (l' := [(0, .inr (.inr 406)), (1, .inl a), (2, .inl b), (3, .inl x3), (4, .inl x4)]) (st' := []) rfl ?_
        refine k_run 3 (pc' := 120) (l' := [(0, .inr (.inr 406)), (1, .inl a), (2, .inl b), (3, .inl x3), (4, .inl x4)]) (st' := [.inl (b + x3)]) rfl ?_
        refine h_reti (x := (b + x3)) rfl rfl ?_
        exact ⟨_, rfl, (by omega), hI1, hf1⟩
      · refine k_run 0 (pc' := 70) (l' := [(0, .inr (.inr 406)), (1, .inl a), (2, .inl b), (3, .inl x3), (4, .inl x4)]) (st' := []) rfl ?_
        refine k_run 11 (pc' := 91) (l' := [(0, .inr (.inr 406)), (1, .inl a), (2, .inl b), (3, .inl x3), (4, .inl x4)]) (st' := [.inl x4, .inl a, .inr (.inr 13), .inl (b + x4), .inr (.inr 409)]) rfl ?_
        refine h_cv (i := 280) (j := 45) (b := 13) (M' := mt_45) (xs := [.inl x4, .inl a]) (rest := [.inl (b + x4), .inr (.inr 409)]) rfl rfl rfl rfl (zs_K (x := kx_13) rfl (by decide)) rfl (Nat.le_of_ble_eq_true rfl) (Nat.le_of_ble_eq_true rfl) (by omega) (k_Symbols_argument_13 (by omega) hI1 (by omega) (by omega) (by omega)) ?_
        rintro _ _ ⟨z33, rfl, g29, rfl⟩
        refine k_run 0 (pc' := 94) (l' := [(0, .inr (.inr 406)), (1, .inl a), (2, .inl b), (3, .inl x3), (4, .inl x4)]) (st' := [.inl z33, .inl (b + x4), .inr (.inr 409)]) rfl ?_
        refine k_ist (z := z33) (c := 409) (j := ((b + x4)).toNat) (i := (b + x4)) (x := kx_409) rfl rfl (by decide) (by decide) rfl (by decide) (by omega) (by omega) hI1 (by omega) (show -2 ≤ z33 ∧ z33 ≤ 100 by omega) (fun H34 hI35 hw36 hv37 => ?_)
        have hf38 : fq [] [409] false H H34 := fq_w hf1 hw36 (fpa (by decide) rfl)
        refine k_run 0 (pc' := 95) (l' := [(0, .inr (.inr 406)), (1, .inl a), (2, .inl b), (3, .inl x3), (4, .inl x4)]) (st' := []) rfl ?_
        refine k_run 7 (pc' := 105) (l' := [(0, .inr (.inr 406)), (1, .inl a), (2, .inl b), (3, .inl x3), (4, .inl x4)]) (st' := [.inl 0, .inl (b + x4), .inl 3, .inr (.inr 1354)]) rfl ?_
        refine h_cs (i := 238) (j := 48) (M' := mt_48) (xs := [.inl 0, .inl (b + x4), .inl 3]) (rest := [.inr (.inr 1354)]) rfl rfl rfl rfl rfl (Nat.le_of_ble_eq_true rfl) (Nat.le_of_ble_eq_true rfl) (by omega) (k_Term_codeOf (by omega)  (by decide) (by omega) (by decide)) ?_
        rintro _ _ ⟨z43, rfl, g39, rfl⟩
        refine k_run 0 (pc' := 108) (l' := [(0, .inr (.inr 406)), (1, .inl a), (2, .inl b), (3, .inl x3), (4, .inl x4)]) (st' := [.inl z43, .inr (.inr 1354)]) rfl ?_
        refine h_cv (i := 242) (j := 52) (b := 1354) (M' := mt_52) (xs := [.inl z43]) (rest := []) rfl rfl rfl rfl (by rw [zs_K iT_1354.1 (iT0 iT_1354)]; rfl) rfl (Nat.le_of_ble_eq_true rfl) (Nat.le_of_ble_eq_true rfl) (by omega) (k_Term_put (by omega) hI35 iT_1354 (by omega)) ?_
        rintro _ H45 ⟨rfl, hI46, hq47⟩
        have hf48 : fq [] [409] false H H45 := fq_t hf38 hq47 rfl rfl rfl
        refine k_run 0 (pc' := 111) (l' := [(0, .inr (.inr 406)), (1, .inl a), (2, .inl b), (3, .inl x3), (4, .inl x4)]) (st' := []) rfl ?_
        refine k_run 2 (pc' := 55) (l' := [(0, .inr (.inr 406)), (1, .inl a), (2, .inl b), (3, .inl x3), (4, .inl (x4 + 1))]) (st' := []) rfl ?_
        exact ih H45 hI46 hf48 x3 (x4 + 1) (by omega) (by omega) (by omega) (by omega) (by omega)
set_option maxRecDepth 100000 in
theorem k_Prover_putInstead {d : Nat} (hd : 3 ≤ d) {H : hp} (hI : Inv H) {a : Int} {b : Int} (ha : -2147483648 ≤ a ∧ a ≤ 2147483647) (hb : -2147483648 ≤ b ∧ b ≤ 2147483647) (hp0 : -1 ≤ a ∧ a < 16) (hp1 : 0 ≤ b ∧ b ≤ 60) : hG (zs zK) d mt_128 0 (zargs 0 [.inr (.inr 406), .inl a, .inl b]) [] H (fun r9 H9 => ∃ z : Int, r9 = some (.inl z) ∧ ((-2147483648 ≤ z ∧ z ≤ 2147483647) ∧ (b ≤ z ∧ z ≤ b + 4)) ∧ Inv H9 ∧ fq [] [409] false H H9) := by
  refine k_run 0 (pc' := 0) (l' := [(0, .inr (.inr 406)), (1, .inl a), (2, .inl b)]) (st' := []) rfl ?_
  refine k_run 3 (pc' := 5) (l' := [(0, .inr (.inr 406)), (1, .inl a), (2, .inl b)]) (st' := [.inl 0, .inr (.inr 1354)]) rfl ?_
  refine k_puti (z := 0) (a := 1354) (x := (kTo 1354 4)) rfl rfl iT_1354.1 (iT0 iT_1354) iT_1354.2.2.1 rfl rfl rfl rfl hI (by decide) (show 0 ≤ (0 : Int) ∧ (0 : Int) ≤ 4 by omega) (fun H1 hI2 hw3 hv4 => ?_)
  have hf5 : fq [] [409] false H H1 := fq_w (fq_rf _ _ _ _) hw3 (fpT iT_1354)
  refine k_run 0 (pc' := 8) (l' := [(0, .inr (.inr 406)), (1, .inl a), (2, .inl b)]) (st' := []) rfl ?_
  refine k_run 3 (pc' := 13) (l' := [(0, .inr (.inr 406)), (1, .inl a), (2, .inl b)]) (st' := [.inl a, .inr (.inr 1354)]) rfl ?_
  refine h_zge (off := 7) (t := 20) rfl rfl (by omega) (fun c6 => ?_) (fun c6 => ?_)
  · refine k_run 0 (pc' := 20) (l' := [(0, .inr (.inr 406)), (1, .inl a), (2, .inl b)]) (st' := [.inr (.inr 1354)]) rfl ?_
    refine k_run 3 (pc' := 25) (l' := [(0, .inr (.inr 406)), (1, .inl a), (2, .inl b)]) (st' := [.inl a, .inr (.inr 7), .inr (.inr 1354)]) rfl ?_
    refine h_cv (i := 274) (j := 38) (b := 7) (M' := mt_38) (xs := [.inl a]) (rest := [.inr (.inr 1354)]) rfl rfl rfl rfl (zs_K (x := kx_7) rfl (by decide)) rfl (Nat.le_of_ble_eq_true rfl) (Nat.le_of_ble_eq_true rfl) (by omega) (k_Program_codeOfConstructor (by omega) hI2 (by omega)) ?_
    rintro _ _ ⟨z11, rfl, g7, rfl⟩
    refine k_run 0 (pc' := 28) (l' := [(0, .inr (.inr 406)), (1, .inl a), (2, .inl b)]) (st' := [.inl z11, .inr (.inr 1354)]) rfl ?_
    refine h_cv (i := 242) (j := 52) (b := 1354) (M' := mt_52) (xs := [.inl z11]) (rest := []) rfl rfl rfl rfl (by rw [zs_K iT_1354.1 (iT0 iT_1354)]; rfl) rfl (Nat.le_of_ble_eq_true rfl) (Nat.le_of_ble_eq_true rfl) (by omega) (k_Term_put (by omega) hI2 iT_1354 (by omega)) ?_
    rintro _ H13 ⟨rfl, hI14, hq15⟩
    have hf16 : fq [] [409] false H H13 := fq_t hf5 hq15 rfl rfl rfl
    refine k_run 0 (pc' := 31) (l' := [(0, .inr (.inr 406)), (1, .inl a), (2, .inl b)]) (st' := []) rfl ?_
    refine k_run 1 (pc' := 32) (l' := [(0, .inr (.inr 406)), (1, .inl a), (2, .inl b)]) (st' := [.inl a]) rfl ?_
    refine h_zge (off := 7) (t := 39) rfl rfl (by omega) (fun c17 => ?_) (fun c17 => ?_)
    · refine k_run 0 (pc' := 39) (l' := [(0, .inr (.inr 406)), (1, .inl a), (2, .inl b)]) (st' := []) rfl ?_
      refine k_run 5 (pc' := 50) (l' := [(0, .inr (.inr 406)), (1, .inl a), (2, .inl b)]) (st' := [.inl a, .inr (.inr 16)]) rfl ?_
      refine k_ild (c := 16) (j := (a).toNat) (i := a) (x := kx_16) rfl rfl (by decide) rfl (by decide) (by omega) (by omega) ?_
      have g18 : 0 ≤ (H13.1 16 (a).toNat) ∧ (H13.1 16 (a).toNat) ≤ 4 := kn (x := kx_16) hI14 rfl (a).toNat
      have e19 : (H13.1 16 (a).toNat) = (H1.1 16 (a).toNat) := (hq15.1 16 (a).toNat rfl (by decide) (fun q => by simp at q)).1
      have e20 : (H1.1 16 (a).toNat) = (H.1 16 (a).toNat) := hw3.2 _ _ (fun q => by have h9 := (iTf iT_1354); rw [← q.1] at h9; exact absurd h9 (by decide))
      refine k_run 0 (pc' := 51) (l' := [(0, .inr (.inr 406)), (1, .inl a), (2, .inl b)]) (st' := [.inl (H13.1 16 (a).toNat)]) rfl ?_
      refine k_run 3 (pc' := 55) (l' := [(0, .inr (.inr 406)), (1, .inl a), (2, .inl b), (3, .inl (H13.1 16 (a).toNat)), (4, .inl 0)]) (st' := []) rfl ?_
      exact (k_Prover_putInstead_cut hd hI ha hb hp0 hp1 _) H13 hI14 hf16 (H13.1 16 (a).toNat) (0 : Int) (by omega) (by decide) (by omega) (by omega) (Nat.lt_succ_self _)
    · exfalso
      omega
  · refine k_run 0 (pc' := 16) (l' := [(0, .inr (.inr 406)), (1, .inl a), (2, .inl b)]) (st' := [.inr (.inr 1354)]) rfl ?_
    refine k_run 2 (pc' := 28) (l' := [(0, .inr (.inr 406)), (1, .inl a), (2, .inl b)]) (st' := [.inl 0, .inr (.inr 1354)]) rfl ?_
    refine h_cv (i := 242) (j := 52) (b := 1354) (M' := mt_52) (xs := [.inl 0]) (rest := []) rfl rfl rfl rfl (by rw [zs_K iT_1354.1 (iT0 iT_1354)]; rfl) rfl (Nat.le_of_ble_eq_true rfl) (Nat.le_of_ble_eq_true rfl) (by omega) (k_Term_put (by omega) hI2 iT_1354 (by decide)) ?_
    rintro _ H22 ⟨rfl, hI23, hq24⟩
    have hf25 : fq [] [409] false H H22 := fq_t hf5 hq24 rfl rfl rfl
    refine k_run 0 (pc' := 31) (l' := [(0, .inr (.inr 406)), (1, .inl a), (2, .inl b)]) (st' := []) rfl ?_
    refine k_run 1 (pc' := 32) (l' := [(0, .inr (.inr 406)), (1, .inl a), (2, .inl b)]) (st' := [.inl a]) rfl ?_
    refine h_zge (off := 7) (t := 39) rfl rfl (by omega) (fun c26 => ?_) (fun c26 => ?_)
    · exfalso
      omega
    · refine k_run 0 (pc' := 35) (l' := [(0, .inr (.inr 406)), (1, .inl a), (2, .inl b)]) (st' := []) rfl ?_
      refine k_run 5 (pc' := 55) (l' := [(0, .inr (.inr 406)), (1, .inl a), (2, .inl b), (3, .inl 0), (4, .inl 0)]) (st' := []) rfl ?_
      exact (k_Prover_putInstead_cut hd hI ha hb hp0 hp1 _) H22 hI23 hf25 (0 : Int) (0 : Int) (by decide) (by decide) (by omega) (by omega) (Nat.lt_succ_self _)

/-! Prover.makeGoal -/
set_option maxRecDepth 100000 in
theorem k_Prover_makeGoal {d : Nat} (hd : 3 ≤ d) {H : hp} (hI : Inv H) {g : Nat} (hg : isG g) : hG (zs zK) d mt_129 0 (zargs 0 [.inr (.inr 406), .inr (.inr g)]) [] H (fun r9 H9 => ∃ z : Int, r9 = some (.inl z) ∧ ((0 ≤ z ∧ z ≤ 1)) ∧ Inv H9 ∧ fq [] [] true H H9) := by
  refine k_run 0 (pc' := 0) (l' := [(0, .inr (.inr 406)), (1, .inr (.inr g))]) (st' := []) rfl ?_
  refine k_run 4 (pc' := 8) (l' := [(0, .inr (.inr 406)), (1, .inr (.inr g))]) (st' := [.inl 0, .inr (.inr 408)]) rfl ?_
  refine k_ald (c := 408) (j := 0) (i := 0) (x := kx_408) rfl rfl (by decide) rfl (by decide) rfl (by decide) hI (fun h1 => ?_)
  obtain ⟨t2, et4⟩ : ∃ t9, t9 = H.2 408 0 := ⟨_, rfl⟩
  rw [← et4] at h1 ⊢
  have k3 : isG t2 := h1
  refine k_run 0 (pc' := 9) (l' := [(0, .inr (.inr 406)), (1, .inr (.inr g))]) (st' := [.inr (.inr t2)]) rfl ?_
  refine k_run 3 (pc' := 12) (l' := [(0, .inr (.inr 406)), (1, .inr (.inr g)), (2, .inr (.inr t2))]) (st' := [.inr (.inr t2), .inr (.inr g)]) rfl ?_
  refine h_cv (i := 283) (j := 150) (b := g) (M' := mt_150) (xs := [.inr (.inr t2)]) (rest := []) rfl rfl rfl rfl (by rw [zs_K hg.1 (iG0 hg)]; rfl) rfl (Nat.le_of_ble_eq_true rfl) (Nat.le_of_ble_eq_true rfl) (by omega) (k_Goal_copyRest (by omega) hI hg k3) ?_
  rintro _ H6 ⟨rfl, hI7, hq8⟩
  have hf9 : fq [] [] true H H6 := fq_t (fq_rf _ _ _ _) hq8 rfl rfl rfl
  refine k_run 0 (pc' := 15) (l' := [(0, .inr (.inr 406)), (1, .inr (.inr g)), (2, .inr (.inr t2))]) (st' := []) rfl ?_
  refine k_run 2 (pc' := 17) (l' := [(0, .inr (.inr 406)), (1, .inr (.inr g)), (2, .inr (.inr t2))]) (st' := [.inr (.inr g), .inr (.inr g)]) rfl ?_
  refine k_get (a := g) (x := (kGo g)) (v := .inl (H6.1 g 3)) rfl rfl hg.1 (iG0 hg) rfl rfl rfl ?_
  have g10 : -2147483648 ≤ (H6.1 g 3) ∧ (H6.1 g 3) ≤ 2147483647 := kn hI7 hg.1 3
  refine k_run 0 (pc' := 20) (l' := [(0, .inr (.inr 406)), (1, .inr (.inr g)), (2, .inr (.inr t2))]) (st' := [.inl (H6.1 g 3), .inr (.inr g)]) rfl ?_
  refine k_run 2 (pc' := 22) (l' := [(0, .inr (.inr 406)), (1, .inr (.inr g)), (2, .inr (.inr t2))]) (st' := [.inl ((H6.1 g 3) + 1), .inr (.inr g)]) rfl ?_
  refine k_putw (a := g) (x := (kGo g)) rfl rfl hg.1 (iG0 hg) hg.2.2.2.1 rfl rfl rfl rfl hI7 rfl (fun H11 hI12 hw13 => ?_)
  have hf15 : fq [] [] true H H11 := fq_w hf9 hw13 (fpg (iGf hg))
  refine k_run 0 (pc' := 25) (l' := [(0, .inr (.inr 406)), (1, .inr (.inr g)), (2, .inr (.inr t2))]) (st' := []) rfl ?_
  refine k_run 1 (pc' := 26) (l' := [(0, .inr (.inr 406)), (1, .inr (.inr g)), (2, .inr (.inr t2))]) (st' := [.inr (.inr g)]) rfl ?_
  refine k_get (a := g) (x := (kGo g)) (v := .inr (.inr (g + 1))) rfl rfl hg.1 (iG0 hg) rfl rfl rfl ?_
  refine k_run 0 (pc' := 29) (l' := [(0, .inr (.inr 406)), (1, .inr (.inr g)), (2, .inr (.inr t2))]) (st' := [.inr (.inr (g + 1))]) rfl ?_
  refine k_run 1 (pc' := 30) (l' := [(0, .inr (.inr 406)), (1, .inr (.inr g)), (2, .inr (.inr t2))]) (st' := [.inl 0, .inr (.inr (g + 1))]) rfl ?_
  refine k_ald (c := (g + 1)) (j := 0) (i := 0) (x := kGt) rfl hg.2.1 (iG1 hg) rfl (by decide) rfl (by decide) hI12 (fun h16 => ?_)
  obtain ⟨t17, et19⟩ : ∃ t9, t9 = H11.2 (g + 1) 0 := ⟨_, rfl⟩
  rw [← et19] at h16 ⊢
  obtain ⟨n20, k18⟩ := (show (∃ n, isT t17 n) ∧ 369 < t17 from h16).1
  have k18b := k18.2.2.2.2
  refine k_run 0 (pc' := 31) (l' := [(0, .inr (.inr 406)), (1, .inr (.inr g)), (2, .inr (.inr t2))]) (st' := [.inr (.inr t17)]) rfl ?_
  refine k_run 1 (pc' := 32) (l' := [(0, .inr (.inr 406)), (1, .inr (.inr g)), (2, .inr (.inr t2))]) (st' := [.inr (.inr t2), .inr (.inr t17)]) rfl ?_
  refine k_get (a := t2) (x := (kGo t2)) (v := .inr (.inr (t2 + 1))) rfl rfl k3.1 (iG0 k3) rfl rfl rfl ?_
  refine k_run 0 (pc' := 35) (l' := [(0, .inr (.inr 406)), (1, .inr (.inr g)), (2, .inr (.inr t2))]) (st' := [.inr (.inr (t2 + 1)), .inr (.inr t17)]) rfl ?_
  refine k_run 1 (pc' := 36) (l' := [(0, .inr (.inr 406)), (1, .inr (.inr g)), (2, .inr (.inr t2))]) (st' := [.inl 0, .inr (.inr (t2 + 1)), .inr (.inr t17)]) rfl ?_
  refine k_ald (c := (t2 + 1)) (j := 0) (i := 0) (x := kGt) rfl k3.2.1 (iG1 k3) rfl (by decide) rfl (by decide) hI12 (fun h21 => ?_)
  obtain ⟨t22, et24⟩ : ∃ t9, t9 = H11.2 (t2 + 1) 0 := ⟨_, rfl⟩
  rw [← et24] at h21 ⊢
  obtain ⟨n25, k23⟩ := (show (∃ n, isT t22 n) ∧ 369 < t22 from h21).1
  have k23b := k23.2.2.2.2
  refine k_run 0 (pc' := 37) (l' := [(0, .inr (.inr 406)), (1, .inr (.inr g)), (2, .inr (.inr t2))]) (st' := [.inr (.inr t22), .inr (.inr t17)]) rfl ?_
  refine k_run 4 (pc' := 45) (l' := [(0, .inr (.inr 406)), (1, .inr (.inr g)), (2, .inr (.inr t2))]) (st' := [.inr (.inr 1354), .inr (.inr 1352), .inr (.inr t22), .inr (.inr t17)]) rfl ?_
  refine h_cv (i := 290) (j := 59) (b := t17) (M' := mt_59) (xs := [.inr (.inr 1354), .inr (.inr 1352), .inr (.inr t22)]) (rest := []) rfl rfl rfl rfl (by rw [zs_K k18.1 (iT0 k18)]; rfl) rfl (Nat.le_of_ble_eq_true rfl) (Nat.le_of_ble_eq_true rfl) (by omega) (k_Term_copyReplacing (by omega) hI12 k18 k23 iT_1352 iT_1354) ?_
  rintro _ H27 ⟨z30, rfl, g26, hI28, hq29⟩
  have hf31 : fq [] [] true H H27 := fq_t hf15 hq29 rfl rfl rfl
  refine k_run 0 (pc' := 48) (l' := [(0, .inr (.inr 406)), (1, .inr (.inr g)), (2, .inr (.inr t2))]) (st' := [.inl z30]) rfl ?_
  refine h_zeq (off := 33) (t := 81) rfl rfl (by omega) (fun c32 => ?_) (fun c32 => ?_)
  · refine k_run 0 (pc' := 81) (l' := [(0, .inr (.inr 406)), (1, .inr (.inr g)), (2, .inr (.inr t2))]) (st' := []) rfl ?_
    refine k_run 1 (pc' := 82) (l' := [(0, .inr (.inr 406)), (1, .inr (.inr g)), (2, .inr (.inr t2))]) (st' := [.inl 0]) rfl ?_
    refine h_retz (x := 0) rfl rfl (by decide) ?_
    exact ⟨_, rfl, (by omega), hI28, hf31⟩
  · refine k_run 0 (pc' := 51) (l' := [(0, .inr (.inr 406)), (1, .inr (.inr g)), (2, .inr (.inr t2))]) (st' := []) rfl ?_
    refine k_run 1 (pc' := 52) (l' := [(0, .inr (.inr 406)), (1, .inr (.inr g)), (2, .inr (.inr t2))]) (st' := [.inr (.inr g)]) rfl ?_
    refine k_get (a := g) (x := (kGo g)) (v := .inr (.inr (g + 1))) rfl rfl hg.1 (iG0 hg) rfl rfl rfl ?_
    refine k_run 0 (pc' := 55) (l' := [(0, .inr (.inr 406)), (1, .inr (.inr g)), (2, .inr (.inr t2))]) (st' := [.inr (.inr (g + 1))]) rfl ?_
    refine k_run 1 (pc' := 56) (l' := [(0, .inr (.inr 406)), (1, .inr (.inr g)), (2, .inr (.inr t2))]) (st' := [.inl 1, .inr (.inr (g + 1))]) rfl ?_
    refine k_ald (c := (g + 1)) (j := 1) (i := 1) (x := kGt) rfl hg.2.1 (iG1 hg) rfl (by decide) rfl (by decide) hI28 (fun h33 => ?_)
    obtain ⟨t34, et36⟩ : ∃ t9, t9 = H27.2 (g + 1) 1 := ⟨_, rfl⟩
    rw [← et36] at h33 ⊢
    obtain ⟨n37, k35⟩ := (show (∃ n, isT t34 n) ∧ 369 < t34 from h33).1
    have k35b := k35.2.2.2.2
    refine k_run 0 (pc' := 57) (l' := [(0, .inr (.inr 406)), (1, .inr (.inr g)), (2, .inr (.inr t2))]) (st' := [.inr (.inr t34)]) rfl ?_
    refine k_run 1 (pc' := 58) (l' := [(0, .inr (.inr 406)), (1, .inr (.inr g)), (2, .inr (.inr t2))]) (st' := [.inr (.inr t2), .inr (.inr t34)]) rfl ?_
    refine k_get (a := t2) (x := (kGo t2)) (v := .inr (.inr (t2 + 1))) rfl rfl k3.1 (iG0 k3) rfl rfl rfl ?_
    refine k_run 0 (pc' := 61) (l' := [(0, .inr (.inr 406)), (1, .inr (.inr g)), (2, .inr (.inr t2))]) (st' := [.inr (.inr (t2 + 1)), .inr (.inr t34)]) rfl ?_
    refine k_run 1 (pc' := 62) (l' := [(0, .inr (.inr 406)), (1, .inr (.inr g)), (2, .inr (.inr t2))]) (st' := [.inl 1, .inr (.inr (t2 + 1)), .inr (.inr t34)]) rfl ?_
    refine k_ald (c := (t2 + 1)) (j := 1) (i := 1) (x := kGt) rfl k3.2.1 (iG1 k3) rfl (by decide) rfl (by decide) hI28 (fun h38 => ?_)
    obtain ⟨t39, et41⟩ : ∃ t9, t9 = H27.2 (t2 + 1) 1 := ⟨_, rfl⟩
    rw [← et41] at h38 ⊢
    obtain ⟨n42, k40⟩ := (show (∃ n, isT t39 n) ∧ 369 < t39 from h38).1
    have k40b := k40.2.2.2.2
    refine k_run 0 (pc' := 63) (l' := [(0, .inr (.inr 406)), (1, .inr (.inr g)), (2, .inr (.inr t2))]) (st' := [.inr (.inr t39), .inr (.inr t34)]) rfl ?_
    refine k_run 4 (pc' := 71) (l' := [(0, .inr (.inr 406)), (1, .inr (.inr g)), (2, .inr (.inr t2))]) (st' := [.inr (.inr 1354), .inr (.inr 1352), .inr (.inr t39), .inr (.inr t34)]) rfl ?_
    refine h_cv (i := 290) (j := 59) (b := t34) (M' := mt_59) (xs := [.inr (.inr 1354), .inr (.inr 1352), .inr (.inr t39)]) (rest := []) rfl rfl rfl rfl (by rw [zs_K k35.1 (iT0 k35)]; rfl) rfl (Nat.le_of_ble_eq_true rfl) (Nat.le_of_ble_eq_true rfl) (by omega) (k_Term_copyReplacing (by omega) hI28 k35 k40 iT_1352 iT_1354) ?_
    rintro _ H44 ⟨z47, rfl, g43, hI45, hq46⟩
    have hf48 : fq [] [] true H H44 := fq_t hf31 hq46 rfl rfl rfl
    refine k_run 0 (pc' := 74) (l' := [(0, .inr (.inr 406)), (1, .inr (.inr g)), (2, .inr (.inr t2))]) (st' := [.inl z47]) rfl ?_
    refine h_zeq (off := 7) (t := 81) rfl rfl (by omega) (fun c49 => ?_) (fun c49 => ?_)
    · refine k_run 0 (pc' := 81) (l' := [(0, .inr (.inr 406)), (1, .inr (.inr g)), (2, .inr (.inr t2))]) (st' := []) rfl ?_
      refine k_run 1 (pc' := 82) (l' := [(0, .inr (.inr 406)), (1, .inr (.inr g)), (2, .inr (.inr t2))]) (st' := [.inl 0]) rfl ?_
      refine h_retz (x := 0) rfl rfl (by decide) ?_
      exact ⟨_, rfl, (by omega), hI45, hf48⟩
    · refine k_run 0 (pc' := 77) (l' := [(0, .inr (.inr 406)), (1, .inr (.inr g)), (2, .inr (.inr t2))]) (st' := []) rfl ?_
      refine k_run 2 (pc' := 82) (l' := [(0, .inr (.inr 406)), (1, .inr (.inr g)), (2, .inr (.inr t2))]) (st' := [.inl 1]) rfl ?_
      refine h_retz (x := 1) rfl rfl (by decide) ?_
      exact ⟨_, rfl, (by omega), hI45, hf48⟩

/-! Prover.addInductionHypotheses -/
set_option maxRecDepth 100000 in
theorem k_Prover_addInductionHypotheses_cut {d : Nat} (hd : 3 ≤ d) {H : hp} (hI : Inv H) {g : Nat} {a : Int} (hg : isG g) (ha : -2147483648 ≤ a ∧ a ≤ 2147483647) (hp0 : 0 ≤ a ∧ a ≤ 60) : ∀ w : Nat, (∀ (H1 : hp), Inv H1 → fq [] [] true H H1 → ∀ (g3 : Nat) (x4 : Int) (x5 : Int) , (isG g3) → (-2147483648 ≤ x4 ∧ x4 ≤ 2147483647) → (-2147483648 ≤ x5 ∧ x5 ≤ 2147483647) → (0 ≤ x5) → (((100 - x5).toNat) < w) → hG (zs zK) d mt_130 26 [(0, .inr (.inr 406)), (1, .inr (.inr g)), (2, .inl a), (3, .inr (.inr g3)), (4, .inl x4), (5, .inl x5)] [] H1 (fun r9 H9 => ∃ z : Int, r9 = some (.inl z) ∧ ((0 ≤ z ∧ z ≤ 1)) ∧ Inv H9 ∧ fq [] [] true H H9)) := by
  intro w
  induction w with
  | zero => exact fun _ _ _ _ _ _ _ _ _ _ h => absurd h (Nat.not_lt_zero _)
  | succ w ih =>
    intro H1 hI1 hf1 g3 x4 x5 hG3 hx4 hx5 hi0 hw
    refine k_run 2 (pc' := 30) (l' := [(0, .inr (.inr 406)), (1, .inr (.inr g)), (2, .inl a), (3, .inr (.inr g3)), (4, .inl x4), (5, .inl x5)]) (st' := [.inl x4, .inl x5]) rfl ?_
    refine h_ige (off := 159) (t := 189) rfl rfl (by omega) (by omega) (fun c6 => ?_) (fun c6 => ?_)
    · refine k_run 0 (pc' := 189) (l' := [(0, .inr (.inr 406)), (1, .inr (.inr g)), (2, .inl a), (3, .inr (.inr g3)), (4, .inl x4), (5, .inl x5)]) (st' := []) rfl ?_
      refine k_run 1 (pc' := 190) (l' := [(0, .inr (.inr 406)), (1, .inr (.inr g)), (2, .inl a), (3, .inr (.inr g3)), (4, .inl x4), (5, .inl x5)]) (st' := [.inl 1]) rfl ?_
      refine h_retz (x := 1) rfl rfl (by decide) ?_
      exact ⟨_, rfl, (by omega), hI1, hf1⟩
    · refine k_run 0 (pc' := 33) (l' := [(0, .inr (.inr 406)), (1, .inr (.inr g)), (2, .inl a), (3, .inr (.inr g3)), (4, .inl x4), (5, .inl x5)]) (st' := []) rfl ?_
      refine k_run 4 (pc' := 42) (l' := [(0, .inr (.inr 406)), (1, .inr (.inr g)), (2, .inl a), (3, .inr (.inr g3)), (4, .inl x4), (5, .inl x5)]) (st' := [.inr (.inr 409), .inl x5]) rfl ?_
      refine k_alen (c := 409) (x := kx_409) rfl rfl (by decide) rfl ?_
      refine k_run 0 (pc' := 43) (l' := [(0, .inr (.inr 406)), (1, .inr (.inr g)), (2, .inl a), (3, .inr (.inr g3)), (4, .inl x4), (5, .inl x5)]) (st' := [.inl 60, .inl x5]) rfl ?_
      refine h_ige (off := 146) (t := 189) rfl rfl (by omega) (by decide) (fun c7 => ?_) (fun c7 => ?_)
      · refine k_run 0 (pc' := 189) (l' := [(0, .inr (.inr 406)), (1, .inr (.inr g)), (2, .inl a), (3, .inr (.inr g3)), (4, .inl x4), (5, .inl x5)]) (st' := []) rfl ?_
        refine k_run 1 (pc' := 190) (l' := [(0, .inr (.inr 406)), (1, .inr (.inr g)), (2, .inl a), (3, .inr (.inr g3)), (4, .inl x4), (5, .inl x5)]) (st' := [.inl 1]) rfl ?_
        refine h_retz (x := 1) rfl rfl (by decide) ?_
        exact ⟨_, rfl, (by omega), hI1, hf1⟩
      · refine k_run 0 (pc' := 46) (l' := [(0, .inr (.inr 406)), (1, .inr (.inr g)), (2, .inl a), (3, .inr (.inr g3)), (4, .inl x4), (5, .inl x5)]) (st' := []) rfl ?_
        refine k_run 4 (pc' := 55) (l' := [(0, .inr (.inr 406)), (1, .inr (.inr g)), (2, .inl a), (3, .inr (.inr g3)), (4, .inl x4), (5, .inl x5)]) (st' := [.inl x5, .inr (.inr 409)]) rfl ?_
        refine k_ild (c := 409) (j := (x5).toNat) (i := x5) (x := kx_409) rfl rfl (by decide) rfl (by decide) (by omega) (by omega) ?_
        have g8 : -2 ≤ (H1.1 409 (x5).toNat) ∧ (H1.1 409 (x5).toNat) ≤ 100 := kn (x := kx_409) hI1 rfl (x5).toNat
        have e9 : (H1.1 409 (x5).toNat) = (H.1 409 (x5).toNat) := (hf1.1 409 (x5).toNat rfl (by decide) (fun q => by simp at q)).1
        refine k_run 0 (pc' := 56) (l' := [(0, .inr (.inr 406)), (1, .inr (.inr g)), (2, .inl a), (3, .inr (.inr g3)), (4, .inl x4), (5, .inl x5)]) (st' := [.inl (H1.1 409 (x5).toNat)]) rfl ?_
        refine k_run 2 (pc' := 60) (l' := [(0, .inr (.inr 406)), (1, .inr (.inr g)), (2, .inl a), (3, .inr (.inr g3)), (4, .inl x4), (5, .inl x5)]) (st' := [.inl (H1.1 406 14), .inl (H1.1 409 (x5).toNat)]) rfl ?_
        have g10 : -2147483648 ≤ (H1.1 406 14) ∧ (H1.1 406 14) ≤ 2147483647 := kn (x := kx_406) hI1 rfl 14
        have e11 : (H1.1 406 14) = (H.1 406 14) := (hf1.1 406 14 rfl (by decide) (by decide)).1
        refine h_ine (off := 123) (t := 183) rfl rfl (by omega) (by omega) (fun c12 => ?_) (fun c12 => ?_)
        · refine k_run 0 (pc' := 183) (l' := [(0, .inr (.inr 406)), (1, .inr (.inr g)), (2, .inl a), (3, .inr (.inr g3)), (4, .inl x4), (5, .inl x5)]) (st' := []) rfl ?_
          refine k_run 2 (pc' := 26) (l' := [(0, .inr (.inr 406)), (1, .inr (.inr g)), (2, .inl a), (3, .inr (.inr g3)), (4, .inl x4), (5, .inl (x5 + 1))]) (st' := []) rfl ?_
          exact ih H1 hI1 hf1 g3 x4 (x5 + 1) hG3 (by omega) (by omega) (by omega) (by omega)
        · refine k_run 0 (pc' := 63) (l' := [(0, .inr (.inr 406)), (1, .inr (.inr g)), (2, .inl a), (3, .inr (.inr g3)), (4, .inl x4), (5, .inl x5)]) (st' := []) rfl ?_
          refine k_run 3 (pc' := 68) (l' := [(0, .inr (.inr 406)), (1, .inr (.inr g)), (2, .inl a), (3, .inr (.inr g3)), (4, .inl x4), (5, .inl x5)]) (st' := [.inl 0, .inr (.inr 1350)]) rfl ?_
          refine k_puti (z := 0) (a := 1350) (x := (kTo 1350 60)) rfl rfl iT_1350.1 (iT0 iT_1350) iT_1350.2.2.1 rfl rfl rfl rfl hI1 (by decide) (show 0 ≤ (0 : Int) ∧ (0 : Int) ≤ 60 by omega) (fun H13 hI14 hw15 hv16 => ?_)
          have hf17 : fq [] [] true H H13 := fq_w hf1 hw15 (fpT iT_1350)
          refine k_run 0 (pc' := 71) (l' := [(0, .inr (.inr 406)), (1, .inr (.inr g)), (2, .inl a), (3, .inr (.inr g3)), (4, .inl x4), (5, .inl x5)]) (st' := []) rfl ?_
          refine k_run 5 (pc' := 79) (l' := [(0, .inr (.inr 406)), (1, .inr (.inr g)), (2, .inl a), (3, .inr (.inr g3)), (4, .inl x4), (5, .inl x5)]) (st' := [.inl 0, .inl x5, .inl 3, .inr (.inr 1350)]) rfl ?_
          refine h_cs (i := 238) (j := 48) (M' := mt_48) (xs := [.inl 0, .inl x5, .inl 3]) (rest := [.inr (.inr 1350)]) rfl rfl rfl rfl rfl (Nat.le_of_ble_eq_true rfl) (Nat.le_of_ble_eq_true rfl) (by omega) (k_Term_codeOf (by omega)  (by decide) (by omega) (by decide)) ?_
          rintro _ _ ⟨z22, rfl, g18, rfl⟩
          refine k_run 0 (pc' := 82) (l' := [(0, .inr (.inr 406)), (1, .inr (.inr g)), (2, .inl a), (3, .inr (.inr g3)), (4, .inl x4), (5, .inl x5)]) (st' := [.inl z22, .inr (.inr 1350)]) rfl ?_
          refine h_cv (i := 242) (j := 52) (b := 1350) (M' := mt_52) (xs := [.inl z22]) (rest := []) rfl rfl rfl rfl (by rw [zs_K iT_1350.1 (iT0 iT_1350)]; rfl) rfl (Nat.le_of_ble_eq_true rfl) (Nat.le_of_ble_eq_true rfl) (by omega) (k_Term_put (by omega) hI14 iT_1350 (by omega)) ?_
          rintro _ H24 ⟨rfl, hI25, hq26⟩
          have hf27 : fq [] [] true H H24 := fq_t hf17 hq26 rfl rfl rfl
          refine k_run 0 (pc' := 85) (l' := [(0, .inr (.inr 406)), (1, .inr (.inr g)), (2, .inl a), (3, .inr (.inr g3)), (4, .inl x4), (5, .inl x5)]) (st' := []) rfl ?_
          refine k_run 1 (pc' := 86) (l' := [(0, .inr (.inr 406)), (1, .inr (.inr g)), (2, .inl a), (3, .inr (.inr g3)), (4, .inl x4), (5, .inl x5)]) (st' := [.inr (.inr g)]) rfl ?_
          refine k_get (a := g) (x := (kGo g)) (v := .inl (H24.1 g 2)) rfl rfl hg.1 (iG0 hg) rfl rfl rfl ?_
          have g28 : 0 ≤ (H24.1 g 2) ∧ (H24.1 g 2) ≤ 8 := kn hI25 hg.1 2
          have e29 : (H24.1 g 2) = (H13.1 g 2) := (hq26.2 rfl g 2 (iGt hg)).1
          have e30 : (H13.1 g 2) = (H1.1 g 2) := hw15.2 _ _ (fun q => by have h9 := (iTt iT_1350); rw [← q.1, (iGt hg)] at h9; cases h9)
          refine k_run 0 (pc' := 89) (l' := [(0, .inr (.inr 406)), (1, .inr (.inr g)), (2, .inl a), (3, .inr (.inr g3)), (4, .inl x4), (5, .inl x5)]) (st' := [.inl (H24.1 g 2)]) rfl ?_
          refine k_run 3 (pc' := 95) (l' := [(0, .inr (.inr 406)), (1, .inr (.inr g)), (2, .inl a), (3, .inr (.inr g3)), (4, .inl x4), (5, .inl x5), (6, .inl (H24.1 g 2))]) (st' := [.inl 8, .inl (H24.1 g 2)]) rfl ?_
          refine h_ige (off := 65) (t := 160) rfl rfl (by omega) (by decide) (fun c31 => ?_) (fun c31 => ?_)
          · refine k_run 0 (pc' := 160) (l' := [(0, .inr (.inr 406)), (1, .inr (.inr g)), (2, .inl a), (3, .inr (.inr g3)), (4, .inl x4), (5, .inl x5), (6, .inl (H24.1 g 2))]) (st' := []) rfl ?_
            refine k_run 1 (pc' := 161) (l' := [(0, .inr (.inr 406)), (1, .inr (.inr g)), (2, .inl a), (3, .inr (.inr g3)), (4, .inl x4), (5, .inl x5), (6, .inl (H24.1 g 2))]) (st' := [.inl 0]) rfl ?_
            refine h_retz (x := 0) rfl rfl (by decide) ?_
            exact ⟨_, rfl, (by omega), hI25, hf27⟩
          · refine k_run 0 (pc' := 98) (l' := [(0, .inr (.inr 406)), (1, .inr (.inr g)), (2, .inl a), (3, .inr (.inr g3)), (4, .inl x4), (5, .inl x5), (6, .inl (H24.1 g 2))]) (st' := []) rfl ?_
            refine k_run 1 (pc' := 99) (l' := [(0, .inr (.inr 406)), (1, .inr (.inr g)), (2, .inl a), (3, .inr (.inr g3)), (4, .inl x4), (5, .inl x5), (6, .inl (H24.1 g 2))]) (st' := [.inr (.inr g)]) rfl ?_
            refine k_get (a := g) (x := (kGo g)) (v := .inr (.inr (g + 1))) rfl rfl hg.1 (iG0 hg) rfl rfl rfl ?_
            refine k_run 0 (pc' := 102) (l' := [(0, .inr (.inr 406)), (1, .inr (.inr g)), (2, .inl a), (3, .inr (.inr g3)), (4, .inl x4), (5, .inl x5), (6, .inl (H24.1 g 2))]) (st' := [.inr (.inr (g + 1))]) rfl ?_
            refine k_run 5 (pc' := 108) (l' := [(0, .inr (.inr 406)), (1, .inr (.inr g)), (2, .inl a), (3, .inr (.inr g3)), (4, .inl x4), (5, .inl x5), (6, .inl (H24.1 g 2))]) (st' := [.inl (2 + (2 * (H24.1 g 2))), .inr (.inr (g + 1))]) rfl ?_
            refine k_ald (c := (g + 1)) (j := ((2 + (2 * (H24.1 g 2)))).toNat) (i := (2 + (2 * (H24.1 g 2)))) (x := kGt) rfl hg.2.1 (iG1 hg) rfl (by decide) (by omega) (by omega) hI25 (fun h32 => ?_)
            obtain ⟨t33, et35⟩ : ∃ t9, t9 = H24.2 (g + 1) ((2 + (2 * (H24.1 g 2)))).toNat := ⟨_, rfl⟩
            rw [← et35] at h32 ⊢
            obtain ⟨n36, k34⟩ := (show (∃ n, isT t33 n) ∧ 369 < t33 from h32).1
            have k34b := k34.2.2.2.2
            refine k_run 0 (pc' := 109) (l' := [(0, .inr (.inr 406)), (1, .inr (.inr g)), (2, .inl a), (3, .inr (.inr g3)), (4, .inl x4), (5, .inl x5), (6, .inl (H24.1 g 2))]) (st' := [.inr (.inr t33)]) rfl ?_
            refine k_run 1 (pc' := 110) (l' := [(0, .inr (.inr 406)), (1, .inr (.inr g)), (2, .inl a), (3, .inr (.inr g3)), (4, .inl x4), (5, .inl x5), (6, .inl (H24.1 g 2))]) (st' := [.inr (.inr g3), .inr (.inr t33)]) rfl ?_
            refine k_get (a := g3) (x := (kGo g3)) (v := .inr (.inr (g3 + 1))) rfl rfl hG3.1 (iG0 hG3) rfl rfl rfl ?_
            refine k_run 0 (pc' := 113) (l' := [(0, .inr (.inr 406)), (1, .inr (.inr g)), (2, .inl a), (3, .inr (.inr g3)), (4, .inl x4), (5, .inl x5), (6, .inl (H24.1 g 2))]) (st' := [.inr (.inr (g3 + 1)), .inr (.inr t33)]) rfl ?_
            refine k_run 1 (pc' := 114) (l' := [(0, .inr (.inr 406)), (1, .inr (.inr g)), (2, .inl a), (3, .inr (.inr g3)), (4, .inl x4), (5, .inl x5), (6, .inl (H24.1 g 2))]) (st' := [.inl 0, .inr (.inr (g3 + 1)), .inr (.inr t33)]) rfl ?_
            refine k_ald (c := (g3 + 1)) (j := 0) (i := 0) (x := kGt) rfl hG3.2.1 (iG1 hG3) rfl (by decide) rfl (by decide) hI25 (fun h37 => ?_)
            obtain ⟨t38, et40⟩ : ∃ t9, t9 = H24.2 (g3 + 1) 0 := ⟨_, rfl⟩
            rw [← et40] at h37 ⊢
            obtain ⟨n41, k39⟩ := (show (∃ n, isT t38 n) ∧ 369 < t38 from h37).1
            have k39b := k39.2.2.2.2
            refine k_run 0 (pc' := 115) (l' := [(0, .inr (.inr 406)), (1, .inr (.inr g)), (2, .inl a), (3, .inr (.inr g3)), (4, .inl x4), (5, .inl x5), (6, .inl (H24.1 g 2))]) (st' := [.inr (.inr t38), .inr (.inr t33)]) rfl ?_
            refine k_run 4 (pc' := 123) (l' := [(0, .inr (.inr 406)), (1, .inr (.inr g)), (2, .inl a), (3, .inr (.inr g3)), (4, .inl x4), (5, .inl x5), (6, .inl (H24.1 g 2))]) (st' := [.inr (.inr 1350), .inr (.inr 1352), .inr (.inr t38), .inr (.inr t33)]) rfl ?_
            refine h_cv (i := 290) (j := 59) (b := t33) (M' := mt_59) (xs := [.inr (.inr 1350), .inr (.inr 1352), .inr (.inr t38)]) (rest := []) rfl rfl rfl rfl (by rw [zs_K k34.1 (iT0 k34)]; rfl) rfl (Nat.le_of_ble_eq_true rfl) (Nat.le_of_ble_eq_true rfl) (by omega) (k_Term_copyReplacing (by omega) hI25 k34 k39 iT_1352 iT_1350) ?_
            rintro _ H43 ⟨z46, rfl, g42, hI44, hq45⟩
            have hf47 : fq [] [] true H H43 := fq_t hf27 hq45 rfl rfl rfl
            refine k_run 0 (pc' := 126) (l' := [(0, .inr (.inr 406)), (1, .inr (.inr g)), (2, .inl a), (3, .inr (.inr g3)), (4, .inl x4), (5, .inl x5), (6, .inl (H24.1 g 2))]) (st' := [.inl z46]) rfl ?_
            refine h_zeq (off := 34) (t := 160) rfl rfl (by omega) (fun c48 => ?_) (fun c48 => ?_)
            · refine k_run 0 (pc' := 160) (l' := [(0, .inr (.inr 406)), (1, .inr (.inr g)), (2, .inl a), (3, .inr (.inr g3)), (4, .inl x4), (5, .inl x5), (6, .inl (H24.1 g 2))]) (st' := []) rfl ?_
              refine k_run 1 (pc' := 161) (l' := [(0, .inr (.inr 406)), (1, .inr (.inr g)), (2, .inl a), (3, .inr (.inr g3)), (4, .inl x4), (5, .inl x5), (6, .inl (H24.1 g 2))]) (st' := [.inl 0]) rfl ?_
              refine h_retz (x := 0) rfl rfl (by decide) ?_
              exact ⟨_, rfl, (by omega), hI44, hf47⟩
            · refine k_run 0 (pc' := 129) (l' := [(0, .inr (.inr 406)), (1, .inr (.inr g)), (2, .inl a), (3, .inr (.inr g3)), (4, .inl x4), (5, .inl x5), (6, .inl (H24.1 g 2))]) (st' := []) rfl ?_
              refine k_run 1 (pc' := 130) (l' := [(0, .inr (.inr 406)), (1, .inr (.inr g)), (2, .inl a), (3, .inr (.inr g3)), (4, .inl x4), (5, .inl x5), (6, .inl (H24.1 g 2))]) (st' := [.inr (.inr g)]) rfl ?_
              refine k_get (a := g) (x := (kGo g)) (v := .inr (.inr (g + 1))) rfl rfl hg.1 (iG0 hg) rfl rfl rfl ?_
              refine k_run 0 (pc' := 133) (l' := [(0, .inr (.inr 406)), (1, .inr (.inr g)), (2, .inl a), (3, .inr (.inr g3)), (4, .inl x4), (5, .inl x5), (6, .inl (H24.1 g 2))]) (st' := [.inr (.inr (g + 1))]) rfl ?_
              refine k_run 5 (pc' := 139) (l' := [(0, .inr (.inr 406)), (1, .inr (.inr g)), (2, .inl a), (3, .inr (.inr g3)), (4, .inl x4), (5, .inl x5), (6, .inl (H24.1 g 2))]) (st' := [.inl (3 + (2 * (H24.1 g 2))), .inr (.inr (g + 1))]) rfl ?_
              refine k_ald (c := (g + 1)) (j := ((3 + (2 * (H24.1 g 2)))).toNat) (i := (3 + (2 * (H24.1 g 2)))) (x := kGt) rfl hg.2.1 (iG1 hg) rfl (by decide) (by omega) (by omega) hI44 (fun h49 => ?_)
              obtain ⟨t50, et52⟩ : ∃ t9, t9 = H43.2 (g + 1) ((3 + (2 * (H24.1 g 2)))).toNat := ⟨_, rfl⟩
              rw [← et52] at h49 ⊢
              obtain ⟨n53, k51⟩ := (show (∃ n, isT t50 n) ∧ 369 < t50 from h49).1
              have k51b := k51.2.2.2.2
              refine k_run 0 (pc' := 140) (l' := [(0, .inr (.inr 406)), (1, .inr (.inr g)), (2, .inl a), (3, .inr (.inr g3)), (4, .inl x4), (5, .inl x5), (6, .inl (H24.1 g 2))]) (st' := [.inr (.inr t50)]) rfl ?_
              refine k_run 1 (pc' := 141) (l' := [(0, .inr (.inr 406)), (1, .inr (.inr g)), (2, .inl a), (3, .inr (.inr g3)), (4, .inl x4), (5, .inl x5), (6, .inl (H24.1 g 2))]) (st' := [.inr (.inr g3), .inr (.inr t50)]) rfl ?_
              refine k_get (a := g3) (x := (kGo g3)) (v := .inr (.inr (g3 + 1))) rfl rfl hG3.1 (iG0 hG3) rfl rfl rfl ?_
              refine k_run 0 (pc' := 144) (l' := [(0, .inr (.inr 406)), (1, .inr (.inr g)), (2, .inl a), (3, .inr (.inr g3)), (4, .inl x4), (5, .inl x5), (6, .inl (H24.1 g 2))]) (st' := [.inr (.inr (g3 + 1)), .inr (.inr t50)]) rfl ?_
              refine k_run 1 (pc' := 145) (l' := [(0, .inr (.inr 406)), (1, .inr (.inr g)), (2, .inl a), (3, .inr (.inr g3)), (4, .inl x4), (5, .inl x5), (6, .inl (H24.1 g 2))]) (st' := [.inl 1, .inr (.inr (g3 + 1)), .inr (.inr t50)]) rfl ?_
              refine k_ald (c := (g3 + 1)) (j := 1) (i := 1) (x := kGt) rfl hG3.2.1 (iG1 hG3) rfl (by decide) rfl (by decide) hI44 (fun h54 => ?_)
              obtain ⟨t55, et57⟩ : ∃ t9, t9 = H43.2 (g3 + 1) 1 := ⟨_, rfl⟩
              rw [← et57] at h54 ⊢
              obtain ⟨n58, k56⟩ := (show (∃ n, isT t55 n) ∧ 369 < t55 from h54).1
              have k56b := k56.2.2.2.2
              refine k_run 0 (pc' := 146) (l' := [(0, .inr (.inr 406)), (1, .inr (.inr g)), (2, .inl a), (3, .inr (.inr g3)), (4, .inl x4), (5, .inl x5), (6, .inl (H24.1 g 2))]) (st' := [.inr (.inr t55), .inr (.inr t50)]) rfl ?_
              refine k_run 4 (pc' := 154) (l' := [(0, .inr (.inr 406)), (1, .inr (.inr g)), (2, .inl a), (3, .inr (.inr g3)), (4, .inl x4), (5, .inl x5), (6, .inl (H24.1 g 2))]) (st' := [.inr (.inr 1350), .inr (.inr 1352), .inr (.inr t55), .inr (.inr t50)]) rfl ?_
              refine h_cv (i := 290) (j := 59) (b := t50) (M' := mt_59) (xs := [.inr (.inr 1350), .inr (.inr 1352), .inr (.inr t55)]) (rest := []) rfl rfl rfl rfl (by rw [zs_K k51.1 (iT0 k51)]; rfl) rfl (Nat.le_of_ble_eq_true rfl) (Nat.le_of_ble_eq_true rfl) (by omega) (k_Term_copyReplacing (by omega) hI44 k51 k56 iT_1352 iT_1350) ?_
              rintro _ H60 ⟨z63, rfl, g59, hI61, hq62⟩
              have hf64 : fq [] [] true H H60 := fq_t hf47 hq62 rfl rfl rfl
              refine k_run 0 (pc' := 157) (l' := [(0, .inr (.inr 406)), (1, .inr (.inr g)), (2, .inl a), (3, .inr (.inr g3)), (4, .inl x4), (5, .inl x5), (6, .inl (H24.1 g 2))]) (st' := [.inl z63]) rfl ?_
              refine h_zne (off := 5) (t := 162) rfl rfl (by omega) (fun c65 => ?_) (fun c65 => ?_)
              · refine k_run 0 (pc' := 162) (l' := [(0, .inr (.inr 406)), (1, .inr (.inr g)), (2, .inl a), (3, .inr (.inr g3)), (4, .inl x4), (5, .inl x5), (6, .inl (H24.1 g 2))]) (st' := []) rfl ?_
                refine k_run 1 (pc' := 163) (l' := [(0, .inr (.inr 406)), (1, .inr (.inr g)), (2, .inl a), (3, .inr (.inr g3)), (4, .inl x4), (5, .inl x5), (6, .inl (H24.1 g 2))]) (st' := [.inr (.inr g)]) rfl ?_
                refine k_get (a := g) (x := (kGo g)) (v := .inr (.inr (g + 2))) rfl rfl hg.1 (iG0 hg) rfl rfl rfl ?_
                refine k_run 0 (pc' := 166) (l' := [(0, .inr (.inr 406)), (1, .inr (.inr g)), (2, .inl a), (3, .inr (.inr g3)), (4, .inl x4), (5, .inl x5), (6, .inl (H24.1 g 2))]) (st' := [.inr (.inr (g + 2))]) rfl ?_
                refine k_run 3 (pc' := 172) (l' := [(0, .inr (.inr 406)), (1, .inr (.inr g)), (2, .inl a), (3, .inr (.inr g3)), (4, .inl x4), (5, .inl x5), (6, .inl (H24.1 g 2))]) (st' := [.inr (.inl (H60.1 406 15)), .inl (H24.1 g 2), .inr (.inr (g + 2))]) rfl ?_
                have g66 : -9223372036854775808 ≤ (H60.1 406 15) ∧ (H60.1 406 15) ≤ 9223372036854775807 := kn (x := kx_406) hI61 rfl 15
                have e67 : (H60.1 406 15) = (H43.1 406 15) := (hq62.1 406 15 rfl (by decide) (by decide)).1
                have e68 : (H43.1 406 15) = (H24.1 406 15) := (hq45.1 406 15 rfl (by decide) (by decide)).1
                have e69 : (H24.1 406 15) = (H13.1 406 15) := (hq26.1 406 15 rfl (by decide) (by decide)).1
                have e70 : (H13.1 406 15) = (H1.1 406 15) := hw15.2 _ _ (fun q => by have h9 := (iTf iT_1350); rw [← q.1] at h9; exact absurd h9 (by decide))
                have e71 : (H1.1 406 15) = (H.1 406 15) := (hf1.1 406 15 rfl (by decide) (by decide)).1
                refine k_lst (c := (g + 2)) (j := ((H24.1 g 2)).toNat) (i := (H24.1 g 2)) (x := kGf) rfl hg.2.2.1 (iG2 hg) (by omega) rfl (by decide) (by omega) (by omega) hI61 rfl (fun H72 hI73 hw74 => ?_)
                have hf76 : fq [] [] true H H72 := fq_w hf64 hw74 (fpg (iGg hg))
                refine k_run 0 (pc' := 173) (l' := [(0, .inr (.inr 406)), (1, .inr (.inr g)), (2, .inl a), (3, .inr (.inr g3)), (4, .inl x4), (5, .inl x5), (6, .inl (H24.1 g 2))]) (st' := []) rfl ?_
                refine k_run 2 (pc' := 175) (l' := [(0, .inr (.inr 406)), (1, .inr (.inr g)), (2, .inl a), (3, .inr (.inr g3)), (4, .inl x4), (5, .inl x5), (6, .inl (H24.1 g 2))]) (st' := [.inr (.inr g), .inr (.inr g)]) rfl ?_
                refine k_get (a := g) (x := (kGo g)) (v := .inl (H72.1 g 2)) rfl rfl hg.1 (iG0 hg) rfl rfl rfl ?_
                have g77 : 0 ≤ (H72.1 g 2) ∧ (H72.1 g 2) ≤ 8 := kn hI73 hg.1 2
                have e78 : (H72.1 g 2) = (H60.1 g 2) := hw74.2 _ _ (fun q => by have h9 := q.1; omega)
                have e79 : (H60.1 g 2) = (H43.1 g 2) := (hq62.2 rfl g 2 (iGt hg)).1
                have e80 : (H43.1 g 2) = (H24.1 g 2) := (hq45.2 rfl g 2 (iGt hg)).1
                refine k_run 0 (pc' := 178) (l' := [(0, .inr (.inr 406)), (1, .inr (.inr g)), (2, .inl a), (3, .inr (.inr g3)), (4, .inl x4), (5, .inl x5), (6, .inl (H24.1 g 2))]) (st' := [.inl (H72.1 g 2), .inr (.inr g)]) rfl ?_
                refine k_run 2 (pc' := 180) (l' := [(0, .inr (.inr 406)), (1, .inr (.inr g)), (2, .inl a), (3, .inr (.inr g3)), (4, .inl x4), (5, .inl x5), (6, .inl (H24.1 g 2))]) (st' := [.inl ((H72.1 g 2) + 1), .inr (.inr g)]) rfl ?_
                refine k_puti (z := ((H72.1 g 2) + 1)) (a := g) (x := (kGo g)) rfl rfl hg.1 (iG0 hg) hg.2.2.2.1 rfl rfl rfl rfl hI73 (by omega) (show 0 ≤ ((H72.1 g 2) + 1) ∧ ((H72.1 g 2) + 1) ≤ 8 by omega) (fun H81 hI82 hw83 hv84 => ?_)
                have hf85 : fq [] [] true H H81 := fq_w hf76 hw83 (fpg (iGf hg))
                refine k_run 0 (pc' := 183) (l' := [(0, .inr (.inr 406)), (1, .inr (.inr g)), (2, .inl a), (3, .inr (.inr g3)), (4, .inl x4), (5, .inl x5), (6, .inl (H24.1 g 2))]) (st' := []) rfl ?_
                refine k_run 2 (pc' := 26) (l' := [(0, .inr (.inr 406)), (1, .inr (.inr g)), (2, .inl a), (3, .inr (.inr g3)), (4, .inl x4), (5, .inl (x5 + 1)), (6, .inl (H24.1 g 2))]) (st' := []) rfl ?_
                refine h_loc [0, 1, 2, 3, 4, 5] rfl ?_
                exact ih H81 hI82 hf85 g3 x4 (x5 + 1) hG3 (by omega) (by omega) (by omega) (by omega)
              · refine k_run 0 (pc' := 160) (l' := [(0, .inr (.inr 406)), (1, .inr (.inr g)), (2, .inl a), (3, .inr (.inr g3)), (4, .inl x4), (5, .inl x5), (6, .inl (H24.1 g 2))]) (st' := []) rfl ?_
                refine k_run 1 (pc' := 161) (l' := [(0, .inr (.inr 406)), (1, .inr (.inr g)), (2, .inl a), (3, .inr (.inr g3)), (4, .inl x4), (5, .inl x5), (6, .inl (H24.1 g 2))]) (st' := [.inl 0]) rfl ?_
                refine h_retz (x := 0) rfl rfl (by decide) ?_
                exact ⟨_, rfl, (by omega), hI61, hf64⟩
set_option maxRecDepth 100000 in
theorem k_Prover_addInductionHypotheses {d : Nat} (hd : 3 ≤ d) {H : hp} (hI : Inv H) {g : Nat} {a : Int} (hg : isG g) (ha : -2147483648 ≤ a ∧ a ≤ 2147483647) (hp0 : 0 ≤ a ∧ a ≤ 60) : hG (zs zK) d mt_130 0 (zargs 0 [.inr (.inr 406), .inr (.inr g), .inl a]) [] H (fun r9 H9 => ∃ z : Int, r9 = some (.inl z) ∧ ((0 ≤ z ∧ z ≤ 1)) ∧ Inv H9 ∧ fq [] [] true H H9) := by
  refine k_run 0 (pc' := 0) (l' := [(0, .inr (.inr 406)), (1, .inr (.inr g)), (2, .inl a)]) (st' := []) rfl ?_
  refine k_run 4 (pc' := 8) (l' := [(0, .inr (.inr 406)), (1, .inr (.inr g)), (2, .inl a)]) (st' := [.inl 0, .inr (.inr 408)]) rfl ?_
  refine k_ald (c := 408) (j := 0) (i := 0) (x := kx_408) rfl rfl (by decide) rfl (by decide) rfl (by decide) hI (fun h1 => ?_)
  obtain ⟨t2, et4⟩ : ∃ t9, t9 = H.2 408 0 := ⟨_, rfl⟩
  rw [← et4] at h1 ⊢
  have k3 : isG t2 := h1
  refine k_run 0 (pc' := 9) (l' := [(0, .inr (.inr 406)), (1, .inr (.inr g)), (2, .inl a)]) (st' := [.inr (.inr t2)]) rfl ?_
  refine k_run 4 (pc' := 15) (l' := [(0, .inr (.inr 406)), (1, .inr (.inr g)), (2, .inl a), (3, .inr (.inr t2))]) (st' := [.inr (.inr 1354), .inl a]) rfl ?_
  refine k_get (a := 1354) (x := (kTo 1354 4)) (v := .inl (H.1 1354 1)) rfl rfl iT_1354.1 (iT0 iT_1354) rfl rfl rfl ?_
  have g5 : 0 ≤ (H.1 1354 1) ∧ (H.1 1354 1) ≤ 4 := kn hI iT_1354.1 1
  refine k_run 0 (pc' := 18) (l' := [(0, .inr (.inr 406)), (1, .inr (.inr g)), (2, .inl a), (3, .inr (.inr t2))]) (st' := [.inl (H.1 1354 1), .inl a]) rfl ?_
  refine k_run 6 (pc' := 26) (l' := [(0, .inr (.inr 406)), (1, .inr (.inr g)), (2, .inl a), (3, .inr (.inr t2)), (4, .inl ((a + (H.1 1354 1)) - 1)), (5, .inl a)]) (st' := []) rfl ?_
  exact (k_Prover_addInductionHypotheses_cut hd hI hg ha hp0 _) H hI (fq_rf _ _ _ _) t2 ((a + (H.1 1354 1)) - 1) a k3 (by omega) (by omega) (by omega) (Nat.lt_succ_self _)

/-! Prover.addCallHypothesis -/
set_option maxRecDepth 100000 in
theorem k_Prover_addCallHypothesis {d : Nat} (hd : 2 ≤ d) {H : hp} (hI : Inv H) {g : Nat} (hg : isG g) : hG (zs zK) d mt_131 0 (zargs 0 [.inr (.inr 406), .inr (.inr g)]) [] H (fun r9 H9 => ∃ z : Int, r9 = some (.inl z) ∧ ((0 ≤ z ∧ z ≤ 1)) ∧ Inv H9 ∧ fq [] [] true H H9) := by
  refine k_run 0 (pc' := 0) (l' := [(0, .inr (.inr 406)), (1, .inr (.inr g))]) (st' := []) rfl ?_
  refine k_run 1 (pc' := 1) (l' := [(0, .inr (.inr 406)), (1, .inr (.inr g))]) (st' := [.inr (.inr g)]) rfl ?_
  refine k_get (a := g) (x := (kGo g)) (v := .inl (H.1 g 2)) rfl rfl hg.1 (iG0 hg) rfl rfl rfl ?_
  have g1 : 0 ≤ (H.1 g 2) ∧ (H.1 g 2) ≤ 8 := kn hI hg.1 2
  refine k_run 0 (pc' := 4) (l' := [(0, .inr (.inr 406)), (1, .inr (.inr g))]) (st' := [.inl (H.1 g 2)]) rfl ?_
  refine k_run 3 (pc' := 8) (l' := [(0, .inr (.inr 406)), (1, .inr (.inr g)), (2, .inl (H.1 g 2))]) (st' := [.inl 8, .inl (H.1 g 2)]) rfl ?_
  refine h_ilt (off := 5) (t := 13) rfl rfl (by omega) (by decide) (fun c2 => ?_) (fun c2 => ?_)
  · refine k_run 0 (pc' := 13) (l' := [(0, .inr (.inr 406)), (1, .inr (.inr g)), (2, .inl (H.1 g 2))]) (st' := []) rfl ?_
    refine k_run 1 (pc' := 14) (l' := [(0, .inr (.inr 406)), (1, .inr (.inr g)), (2, .inl (H.1 g 2))]) (st' := [.inr (.inr g)]) rfl ?_
    refine k_get (a := g) (x := (kGo g)) (v := .inr (.inr (g + 1))) rfl rfl hg.1 (iG0 hg) rfl rfl rfl ?_
    refine k_run 0 (pc' := 17) (l' := [(0, .inr (.inr 406)), (1, .inr (.inr g)), (2, .inl (H.1 g 2))]) (st' := [.inr (.inr (g + 1))]) rfl ?_
    refine k_run 5 (pc' := 22) (l' := [(0, .inr (.inr 406)), (1, .inr (.inr g)), (2, .inl (H.1 g 2))]) (st' := [.inl (2 + (2 * (H.1 g 2))), .inr (.inr (g + 1))]) rfl ?_
    refine k_ald (c := (g + 1)) (j := ((2 + (2 * (H.1 g 2)))).toNat) (i := (2 + (2 * (H.1 g 2)))) (x := kGt) rfl hg.2.1 (iG1 hg) rfl (by decide) (by omega) (by omega) hI (fun h3 => ?_)
    obtain ⟨t4, et6⟩ : ∃ t9, t9 = H.2 (g + 1) ((2 + (2 * (H.1 g 2)))).toNat := ⟨_, rfl⟩
    rw [← et6] at h3 ⊢
    obtain ⟨n7, k5⟩ := (show (∃ n, isT t4 n) ∧ 369 < t4 from h3).1
    have k5b := k5.2.2.2.2
    refine k_run 0 (pc' := 23) (l' := [(0, .inr (.inr 406)), (1, .inr (.inr g)), (2, .inl (H.1 g 2))]) (st' := [.inr (.inr t4)]) rfl ?_
    refine k_run 2 (pc' := 27) (l' := [(0, .inr (.inr 406)), (1, .inr (.inr g)), (2, .inl (H.1 g 2))]) (st' := [.inr (.inr 1352), .inr (.inr t4)]) rfl ?_
    refine h_cv (i := 174) (j := 55) (b := t4) (M' := mt_55) (xs := [.inr (.inr 1352)]) (rest := []) rfl rfl rfl rfl (by rw [zs_K k5.1 (iT0 k5)]; rfl) rfl (Nat.le_of_ble_eq_true rfl) (Nat.le_of_ble_eq_true rfl) (by omega) (k_Term_copy (by omega) hI k5 iT_1352) ?_
    rintro _ H9 ⟨rfl, hI10, hq11⟩
    have hf12 : fq [] [] true H H9 := fq_t (fq_rf _ _ _ _) hq11 rfl rfl rfl
    refine k_run 0 (pc' := 30) (l' := [(0, .inr (.inr 406)), (1, .inr (.inr g)), (2, .inl (H.1 g 2))]) (st' := []) rfl ?_
    refine k_run 1 (pc' := 31) (l' := [(0, .inr (.inr 406)), (1, .inr (.inr g)), (2, .inl (H.1 g 2))]) (st' := [.inr (.inr g)]) rfl ?_
    refine k_get (a := g) (x := (kGo g)) (v := .inr (.inr (g + 1))) rfl rfl hg.1 (iG0 hg) rfl rfl rfl ?_
    refine k_run 0 (pc' := 34) (l' := [(0, .inr (.inr 406)), (1, .inr (.inr g)), (2, .inl (H.1 g 2))]) (st' := [.inr (.inr (g + 1))]) rfl ?_
    refine k_run 5 (pc' := 39) (l' := [(0, .inr (.inr 406)), (1, .inr (.inr g)), (2, .inl (H.1 g 2))]) (st' := [.inl (3 + (2 * (H.1 g 2))), .inr (.inr (g + 1))]) rfl ?_
    refine k_ald (c := (g + 1)) (j := ((3 + (2 * (H.1 g 2)))).toNat) (i := (3 + (2 * (H.1 g 2)))) (x := kGt) rfl hg.2.1 (iG1 hg) rfl (by decide) (by omega) (by omega) hI10 (fun h13 => ?_)
    obtain ⟨t14, et16⟩ : ∃ t9, t9 = H9.2 (g + 1) ((3 + (2 * (H.1 g 2)))).toNat := ⟨_, rfl⟩
    rw [← et16] at h13 ⊢
    obtain ⟨n17, k15⟩ := (show (∃ n, isT t14 n) ∧ 369 < t14 from h13).1
    have k15b := k15.2.2.2.2
    refine k_run 0 (pc' := 40) (l' := [(0, .inr (.inr 406)), (1, .inr (.inr g)), (2, .inl (H.1 g 2))]) (st' := [.inr (.inr t14)]) rfl ?_
    refine k_run 2 (pc' := 44) (l' := [(0, .inr (.inr 406)), (1, .inr (.inr g)), (2, .inl (H.1 g 2))]) (st' := [.inr (.inr 1354), .inr (.inr t14)]) rfl ?_
    refine h_cv (i := 174) (j := 55) (b := t14) (M' := mt_55) (xs := [.inr (.inr 1354)]) (rest := []) rfl rfl rfl rfl (by rw [zs_K k15.1 (iT0 k15)]; rfl) rfl (Nat.le_of_ble_eq_true rfl) (Nat.le_of_ble_eq_true rfl) (by omega) (k_Term_copy (by omega) hI10 k15 iT_1354) ?_
    rintro _ H19 ⟨rfl, hI20, hq21⟩
    have hf22 : fq [] [] true H H19 := fq_t hf12 hq21 rfl rfl rfl
    refine k_run 0 (pc' := 47) (l' := [(0, .inr (.inr 406)), (1, .inr (.inr g)), (2, .inl (H.1 g 2))]) (st' := []) rfl ?_
    refine k_run 1 (pc' := 48) (l' := [(0, .inr (.inr 406)), (1, .inr (.inr g)), (2, .inl (H.1 g 2))]) (st' := [.inr (.inr g)]) rfl ?_
    refine k_get (a := g) (x := (kGo g)) (v := .inr (.inr (g + 2))) rfl rfl hg.1 (iG0 hg) rfl rfl rfl ?_
    refine k_run 0 (pc' := 51) (l' := [(0, .inr (.inr 406)), (1, .inr (.inr g)), (2, .inl (H.1 g 2))]) (st' := [.inr (.inr (g + 2))]) rfl ?_
    refine k_run 2 (pc' := 53) (l' := [(0, .inr (.inr 406)), (1, .inr (.inr g)), (2, .inl (H.1 g 2))]) (st' := [.inr (.inl 0), .inl (H.1 g 2), .inr (.inr (g + 2))]) rfl ?_
    refine k_lst (c := (g + 2)) (j := ((H.1 g 2)).toNat) (i := (H.1 g 2)) (x := kGf) rfl hg.2.2.1 (iG2 hg) (by omega) rfl (by decide) (by omega) (by omega) hI20 rfl (fun H23 hI24 hw25 => ?_)
    have hf27 : fq [] [] true H H23 := fq_w hf22 hw25 (fpg (iGg hg))
    refine k_run 0 (pc' := 54) (l' := [(0, .inr (.inr 406)), (1, .inr (.inr g)), (2, .inl (H.1 g 2))]) (st' := []) rfl ?_
    refine k_run 2 (pc' := 56) (l' := [(0, .inr (.inr 406)), (1, .inr (.inr g)), (2, .inl (H.1 g 2))]) (st' := [.inr (.inr g), .inr (.inr g)]) rfl ?_
    refine k_get (a := g) (x := (kGo g)) (v := .inl (H23.1 g 2)) rfl rfl hg.1 (iG0 hg) rfl rfl rfl ?_
    have g28 : 0 ≤ (H23.1 g 2) ∧ (H23.1 g 2) ≤ 8 := kn hI24 hg.1 2
    have e29 : (H23.1 g 2) = (H19.1 g 2) := hw25.2 _ _ (fun q => by have h9 := q.1; omega)
    have e30 : (H19.1 g 2) = (H9.1 g 2) := (hq21.2 rfl g 2 (iGt hg)).1
    have e31 : (H9.1 g 2) = (H.1 g 2) := (hq11.2 rfl g 2 (iGt hg)).1
    refine k_run 0 (pc' := 59) (l' := [(0, .inr (.inr 406)), (1, .inr (.inr g)), (2, .inl (H.1 g 2))]) (st' := [.inl (H23.1 g 2), .inr (.inr g)]) rfl ?_
    refine k_run 2 (pc' := 61) (l' := [(0, .inr (.inr 406)), (1, .inr (.inr g)), (2, .inl (H.1 g 2))]) (st' := [.inl ((H23.1 g 2) + 1), .inr (.inr g)]) rfl ?_
    refine k_puti (z := ((H23.1 g 2) + 1)) (a := g) (x := (kGo g)) rfl rfl hg.1 (iG0 hg) hg.2.2.2.1 rfl rfl rfl rfl hI24 (by omega) (show 0 ≤ ((H23.1 g 2) + 1) ∧ ((H23.1 g 2) + 1) ≤ 8 by omega) (fun H32 hI33 hw34 hv35 => ?_)
    have hf36 : fq [] [] true H H32 := fq_w hf27 hw34 (fpg (iGf hg))
    refine k_run 0 (pc' := 64) (l' := [(0, .inr (.inr 406)), (1, .inr (.inr g)), (2, .inl (H.1 g 2))]) (st' := []) rfl ?_
    refine k_run 1 (pc' := 65) (l' := [(0, .inr (.inr 406)), (1, .inr (.inr g)), (2, .inl (H.1 g 2))]) (st' := [.inl 1]) rfl ?_
    refine h_retz (x := 1) rfl rfl (by decide) ?_
    exact ⟨_, rfl, (by omega), hI33, hf36⟩
  · refine k_run 0 (pc' := 11) (l' := [(0, .inr (.inr 406)), (1, .inr (.inr g)), (2, .inl (H.1 g 2))]) (st' := []) rfl ?_
    refine k_run 1 (pc' := 12) (l' := [(0, .inr (.inr 406)), (1, .inr (.inr g)), (2, .inl (H.1 g 2))]) (st' := [.inl 0]) rfl ?_
    refine h_retz (x := 0) rfl rfl (by decide) ?_
    exact ⟨_, rfl, (by omega), hI, (fq_rf _ _ _ _)⟩

/-! Prover.replaceInHypotheses -/
set_option maxRecDepth 100000 in
theorem k_Prover_replaceInHypotheses_cut {d : Nat} (hd : 3 ≤ d) {H : hp} (hI : Inv H) {g : Nat} (hg : isG g) : ∀ w : Nat, (∀ (H1 : hp), Inv H1 → fq [] [] false H H1 → ∀ (g2 : Nat) (x3 : Int) (x4 : Int) , (isG g2) → (-2147483648 ≤ x3 ∧ x3 ≤ 2147483647) → (-2147483648 ≤ x4 ∧ x4 ≤ 2147483647) → (0 ≤ x3 ∧ x3 ≤ 1) → (0 ≤ x4) → (((100 - x4).toNat) < w) → hG (zs zK) d mt_132 15 [(0, .inr (.inr 406)), (1, .inr (.inr g)), (2, .inr (.inr g2)), (3, .inl x3), (4, .inl x4)] [] H1 (fun r9 H9 => ∃ z : Int, r9 = some (.inl z) ∧ ((0 ≤ z ∧ z ≤ 1)) ∧ Inv H9 ∧ fq [] [] false H H9)) := by
  intro w
  induction w with
  | zero => exact fun _ _ _ _ _ _ _ _ _ _ _ h => absurd h (Nat.not_lt_zero _)
  | succ w ih =>
    intro H1 hI1 hf1 g2 x3 x4 hG2 hx3 hx4 hi0 hi1 hw
    refine k_run 1 (pc' := 16) (l' := [(0, .inr (.inr 406)), (1, .inr (.inr g)), (2, .inr (.inr g2)), (3, .inl x3), (4, .inl x4)]) (st' := [.inl x3]) rfl ?_
    refine h_zeq (off := 122) (t := 138) rfl rfl (by omega) (fun c5 => ?_) (fun c5 => ?_)
    · refine k_run 0 (pc' := 138) (l' := [(0, .inr (.inr 406)), (1, .inr (.inr g)), (2, .inr (.inr g2)), (3, .inl x3), (4, .inl x4)]) (st' := []) rfl ?_
      refine k_run 1 (pc' := 139) (l' := [(0, .inr (.inr 406)), (1, .inr (.inr g)), (2, .inr (.inr g2)), (3, .inl x3), (4, .inl x4)]) (st' := [.inl x3]) rfl ?_
      refine h_retz (x := x3) rfl rfl (by omega) ?_
      exact ⟨_, rfl, (by omega), hI1, hf1⟩
    · refine k_run 0 (pc' := 19) (l' := [(0, .inr (.inr 406)), (1, .inr (.inr g)), (2, .inr (.inr g2)), (3, .inl x3), (4, .inl x4)]) (st' := []) rfl ?_
      refine k_run 2 (pc' := 22) (l' := [(0, .inr (.inr 406)), (1, .inr (.inr g)), (2, .inr (.inr g2)), (3, .inl x3), (4, .inl x4)]) (st' := [.inr (.inr g2), .inl x4]) rfl ?_
      refine k_get (a := g2) (x := (kGo g2)) (v := .inl (H1.1 g2 2)) rfl rfl hG2.1 (iG0 hG2) rfl rfl rfl ?_
      have g6 : 0 ≤ (H1.1 g2 2) ∧ (H1.1 g2 2) ≤ 8 := kn hI1 hG2.1 2
      have e7 : (H1.1 g2 2) = (H.1 g2 2) := (hf1.2 rfl g2 2 (iGt hG2)).1
      refine k_run 0 (pc' := 25) (l' := [(0, .inr (.inr 406)), (1, .inr (.inr g)), (2, .inr (.inr g2)), (3, .inl x3), (4, .inl x4)]) (st' := [.inl (H1.1 g2 2), .inl x4]) rfl ?_
      refine h_ige (off := 113) (t := 138) rfl rfl (by omega) (by omega) (fun c8 => ?_) (fun c8 => ?_)
      · refine k_run 0 (pc' := 138) (l' := [(0, .inr (.inr 406)), (1, .inr (.inr g)), (2, .inr (.inr g2)), (3, .inl x3), (4, .inl x4)]) (st' := []) rfl ?_
        refine k_run 1 (pc' := 139) (l' := [(0, .inr (.inr 406)), (1, .inr (.inr g)), (2, .inr (.inr g2)), (3, .inl x3), (4, .inl x4)]) (st' := [.inl x3]) rfl ?_
        refine h_retz (x := x3) rfl rfl (by omega) ?_
        exact ⟨_, rfl, (by omega), hI1, hf1⟩
      · refine k_run 0 (pc' := 28) (l' := [(0, .inr (.inr 406)), (1, .inr (.inr g)), (2, .inr (.inr g2)), (3, .inl x3), (4, .inl x4)]) (st' := []) rfl ?_
        refine k_run 2 (pc' := 32) (l' := [(0, .inr (.inr 406)), (1, .inr (.inr g)), (2, .inr (.inr g2)), (3, .inl x3), (4, .inl x4)]) (st' := [.inl 8, .inl x4]) rfl ?_
        refine h_ige (off := 106) (t := 138) rfl rfl (by omega) (by decide) (fun c9 => ?_) (fun c9 => ?_)
        · refine k_run 0 (pc' := 138) (l' := [(0, .inr (.inr 406)), (1, .inr (.inr g)), (2, .inr (.inr g2)), (3, .inl x3), (4, .inl x4)]) (st' := []) rfl ?_
          refine k_run 1 (pc' := 139) (l' := [(0, .inr (.inr 406)), (1, .inr (.inr g)), (2, .inr (.inr g2)), (3, .inl x3), (4, .inl x4)]) (st' := [.inl x3]) rfl ?_
          refine h_retz (x := x3) rfl rfl (by omega) ?_
          exact ⟨_, rfl, (by omega), hI1, hf1⟩
        · refine k_run 0 (pc' := 35) (l' := [(0, .inr (.inr 406)), (1, .inr (.inr g)), (2, .inr (.inr g2)), (3, .inl x3), (4, .inl x4)]) (st' := []) rfl ?_
          refine k_run 1 (pc' := 36) (l' := [(0, .inr (.inr 406)), (1, .inr (.inr g)), (2, .inr (.inr g2)), (3, .inl x3), (4, .inl x4)]) (st' := [.inr (.inr g2)]) rfl ?_
          refine k_get (a := g2) (x := (kGo g2)) (v := .inr (.inr (g2 + 2))) rfl rfl hG2.1 (iG0 hG2) rfl rfl rfl ?_
          refine k_run 0 (pc' := 39) (l' := [(0, .inr (.inr 406)), (1, .inr (.inr g)), (2, .inr (.inr g2)), (3, .inl x3), (4, .inl x4)]) (st' := [.inr (.inr (g2 + 2))]) rfl ?_
          refine k_run 1 (pc' := 41) (l' := [(0, .inr (.inr 406)), (1, .inr (.inr g)), (2, .inr (.inr g2)), (3, .inl x3), (4, .inl x4)]) (st' := [.inl x4, .inr (.inr (g2 + 2))]) rfl ?_
          refine k_lld (c := (g2 + 2)) (j := (x4).toNat) (i := x4) (x := kGf) rfl hG2.2.2.1 (iG2 hG2) rfl (by decide) (by omega) (by omega) ?_
          have g10 : -9223372036854775808 ≤ (H1.1 (g2 + 2) (x4).toNat) ∧ (H1.1 (g2 + 2) (x4).toNat) ≤ 9223372036854775807 := kn hI1 hG2.2.2.1 (x4).toNat
          refine k_run 0 (pc' := 42) (l' := [(0, .inr (.inr 406)), (1, .inr (.inr g)), (2, .inr (.inr g2)), (3, .inl x3), (4, .inl x4)]) (st' := [.inr (.inl (H1.1 (g2 + 2) (x4).toNat))]) rfl ?_
          refine k_run 2 (pc' := 46) (l' := [(0, .inr (.inr 406)), (1, .inr (.inr g)), (2, .inr (.inr g2)), (3, .inl x3), (4, .inl x4)]) (st' := [.inl (H1.1 406 13), .inr (.inl (H1.1 (g2 + 2) (x4).toNat))]) rfl ?_
          have g11 : -2147483648 ≤ (H1.1 406 13) ∧ (H1.1 406 13) ≤ 2147483647 := kn (x := kx_406) hI1 rfl 13
          have e12 : (H1.1 406 13) = (H.1 406 13) := (hf1.1 406 13 rfl (by decide) (by decide)).1
          refine k_run 1 (pc' := 47) (l' := [(0, .inr (.inr 406)), (1, .inr (.inr g)), (2, .inr (.inr g2)), (3, .inl x3), (4, .inl x4)]) (st' := [.inr (.inl (z_lshr (H1.1 (g2 + 2) (x4).toNat) (H1.1 406 13)))]) rfl ?_
          refine k_nrmj (fun y13 hy13 => ?_)
          refine k_run 2 (pc' := 49) (l' := [(0, .inr (.inr 406)), (1, .inr (.inr g)), (2, .inr (.inr g2)), (3, .inl x3), (4, .inl x4)]) (st' := [.inr (.inl (z_land y13 1))]) rfl ?_
          refine k_nrmj (fun y14 hy14 => ?_)
          refine k_run 2 (pc' := 51) (l' := [(0, .inr (.inr 406)), (1, .inr (.inr g)), (2, .inr (.inr g2)), (3, .inl x3), (4, .inl x4)]) (st' := [.inl (z_cmp y14 0)]) rfl ?_
          refine k_nrm (fun y15 hy15 => ?_)
          refine k_run 0 (pc' := 51) (l' := [(0, .inr (.inr 406)), (1, .inr (.inr g)), (2, .inr (.inr g2)), (3, .inl x3), (4, .inl x4)]) (st' := [.inl y15]) rfl ?_
          refine h_zne (off := 81) (t := 132) rfl rfl (by omega) (fun c16 => ?_) (fun c16 => ?_)
          · refine k_run 0 (pc' := 132) (l' := [(0, .inr (.inr 406)), (1, .inr (.inr g)), (2, .inr (.inr g2)), (3, .inl x3), (4, .inl x4)]) (st' := []) rfl ?_
            refine k_run 2 (pc' := 15) (l' := [(0, .inr (.inr 406)), (1, .inr (.inr g)), (2, .inr (.inr g2)), (3, .inl x3), (4, .inl (x4 + 1))]) (st' := []) rfl ?_
            exact ih H1 hI1 hf1 g2 x3 (x4 + 1) hG2 (by omega) (by omega) (by omega) (by omega) (by omega)
          · refine k_run 0 (pc' := 54) (l' := [(0, .inr (.inr 406)), (1, .inr (.inr g)), (2, .inr (.inr g2)), (3, .inl x3), (4, .inl x4)]) (st' := []) rfl ?_
            refine k_run 1 (pc' := 55) (l' := [(0, .inr (.inr 406)), (1, .inr (.inr g)), (2, .inr (.inr g2)), (3, .inl x3), (4, .inl x4)]) (st' := [.inr (.inr g)]) rfl ?_
            refine k_get (a := g) (x := (kGo g)) (v := .inr (.inr (g + 1))) rfl rfl hg.1 (iG0 hg) rfl rfl rfl ?_
            refine k_run 0 (pc' := 58) (l' := [(0, .inr (.inr 406)), (1, .inr (.inr g)), (2, .inr (.inr g2)), (3, .inl x3), (4, .inl x4)]) (st' := [.inr (.inr (g + 1))]) rfl ?_
            refine k_run 5 (pc' := 64) (l' := [(0, .inr (.inr 406)), (1, .inr (.inr g)), (2, .inr (.inr g2)), (3, .inl x3), (4, .inl x4)]) (st' := [.inl (2 + (2 * x4)), .inr (.inr (g + 1))]) rfl ?_
            refine k_ald (c := (g + 1)) (j := ((2 + (2 * x4))).toNat) (i := (2 + (2 * x4))) (x := kGt) rfl hg.2.1 (iG1 hg) rfl (by decide) (by omega) (by omega) hI1 (fun h17 => ?_)
            obtain ⟨t18, et20⟩ : ∃ t9, t9 = H1.2 (g + 1) ((2 + (2 * x4))).toNat := ⟨_, rfl⟩
            rw [← et20] at h17 ⊢
            obtain ⟨n21, k19⟩ := (show (∃ n, isT t18 n) ∧ 369 < t18 from h17).1
            have k19b := k19.2.2.2.2
            refine k_run 0 (pc' := 65) (l' := [(0, .inr (.inr 406)), (1, .inr (.inr g)), (2, .inr (.inr g2)), (3, .inl x3), (4, .inl x4)]) (st' := [.inr (.inr t18)]) rfl ?_
            refine k_run 1 (pc' := 66) (l' := [(0, .inr (.inr 406)), (1, .inr (.inr g)), (2, .inr (.inr g2)), (3, .inl x3), (4, .inl x4)]) (st' := [.inr (.inr g2), .inr (.inr t18)]) rfl ?_
            refine k_get (a := g2) (x := (kGo g2)) (v := .inr (.inr (g2 + 1))) rfl rfl hG2.1 (iG0 hG2) rfl rfl rfl ?_
            refine k_run 0 (pc' := 69) (l' := [(0, .inr (.inr 406)), (1, .inr (.inr g)), (2, .inr (.inr g2)), (3, .inl x3), (4, .inl x4)]) (st' := [.inr (.inr (g2 + 1)), .inr (.inr t18)]) rfl ?_
            refine k_run 5 (pc' := 75) (l' := [(0, .inr (.inr 406)), (1, .inr (.inr g)), (2, .inr (.inr g2)), (3, .inl x3), (4, .inl x4)]) (st' := [.inl (2 + (2 * x4)), .inr (.inr (g2 + 1)), .inr (.inr t18)]) rfl ?_
            refine k_ald (c := (g2 + 1)) (j := ((2 + (2 * x4))).toNat) (i := (2 + (2 * x4))) (x := kGt) rfl hG2.2.1 (iG1 hG2) rfl (by decide) (by omega) (by omega) hI1 (fun h22 => ?_)
            obtain ⟨t23, et25⟩ : ∃ t9, t9 = H1.2 (g2 + 1) ((2 + (2 * x4))).toNat := ⟨_, rfl⟩
            rw [← et25] at h22 ⊢
            obtain ⟨n26, k24⟩ := (show (∃ n, isT t23 n) ∧ 369 < t23 from h22).1
            have k24b := k24.2.2.2.2
            refine k_run 0 (pc' := 76) (l' := [(0, .inr (.inr 406)), (1, .inr (.inr g)), (2, .inr (.inr g2)), (3, .inl x3), (4, .inl x4)]) (st' := [.inr (.inr t23), .inr (.inr t18)]) rfl ?_
            refine k_run 4 (pc' := 84) (l' := [(0, .inr (.inr 406)), (1, .inr (.inr g)), (2, .inr (.inr g2)), (3, .inl x3), (4, .inl x4)]) (st' := [.inr (.inr 1354), .inr (.inr 1352), .inr (.inr t23), .inr (.inr t18)]) rfl ?_
            refine h_cv (i := 290) (j := 59) (b := t18) (M' := mt_59) (xs := [.inr (.inr 1354), .inr (.inr 1352), .inr (.inr t23)]) (rest := []) rfl rfl rfl rfl (by rw [zs_K k19.1 (iT0 k19)]; rfl) rfl (Nat.le_of_ble_eq_true rfl) (Nat.le_of_ble_eq_true rfl) (by omega) (k_Term_copyReplacing (by omega) hI1 k19 k24 iT_1352 iT_1354) ?_
            rintro _ H28 ⟨z31, rfl, g27, hI29, hq30⟩
            have hf32 : fq [] [] false H H28 := fq_t hf1 hq30 rfl rfl rfl
            refine k_run 0 (pc' := 87) (l' := [(0, .inr (.inr 406)), (1, .inr (.inr g)), (2, .inr (.inr g2)), (3, .inl x3), (4, .inl x4)]) (st' := [.inl z31]) rfl ?_
            refine h_zeq (off := 43) (t := 130) rfl rfl (by omega) (fun c33 => ?_) (fun c33 => ?_)
            · refine k_run 0 (pc' := 130) (l' := [(0, .inr (.inr 406)), (1, .inr (.inr g)), (2, .inr (.inr g2)), (3, .inl x3), (4, .inl x4)]) (st' := []) rfl ?_
              refine k_run 4 (pc' := 15) (l' := [(0, .inr (.inr 406)), (1, .inr (.inr g)), (2, .inr (.inr g2)), (3, .inl 0), (4, .inl (x4 + 1))]) (st' := []) rfl ?_
              exact ih H28 hI29 hf32 g2 (0 : Int) (x4 + 1) hG2 (by decide) (by omega) (by omega) (by omega) (by omega)
            · refine k_run 0 (pc' := 90) (l' := [(0, .inr (.inr 406)), (1, .inr (.inr g)), (2, .inr (.inr g2)), (3, .inl x3), (4, .inl x4)]) (st' := []) rfl ?_
              refine k_run 1 (pc' := 91) (l' := [(0, .inr (.inr 406)), (1, .inr (.inr g)), (2, .inr (.inr g2)), (3, .inl x3), (4, .inl x4)]) (st' := [.inr (.inr g)]) rfl ?_
              refine k_get (a := g) (x := (kGo g)) (v := .inr (.inr (g + 1))) rfl rfl hg.1 (iG0 hg) rfl rfl rfl ?_
              refine k_run 0 (pc' := 94) (l' := [(0, .inr (.inr 406)), (1, .inr (.inr g)), (2, .inr (.inr g2)), (3, .inl x3), (4, .inl x4)]) (st' := [.inr (.inr (g + 1))]) rfl ?_
              refine k_run 5 (pc' := 100) (l' := [(0, .inr (.inr 406)), (1, .inr (.inr g)), (2, .inr (.inr g2)), (3, .inl x3), (4, .inl x4)]) (st' := [.inl (3 + (2 * x4)), .inr (.inr (g + 1))]) rfl ?_
              refine k_ald (c := (g + 1)) (j := ((3 + (2 * x4))).toNat) (i := (3 + (2 * x4))) (x := kGt) rfl hg.2.1 (iG1 hg) rfl (by decide) (by omega) (by omega) hI29 (fun h34 => ?_)
              obtain ⟨t35, et37⟩ : ∃ t9, t9 = H28.2 (g + 1) ((3 + (2 * x4))).toNat := ⟨_, rfl⟩
              rw [← et37] at h34 ⊢
              obtain ⟨n38, k36⟩ := (show (∃ n, isT t35 n) ∧ 369 < t35 from h34).1
              have k36b := k36.2.2.2.2
              refine k_run 0 (pc' := 101) (l' := [(0, .inr (.inr 406)), (1, .inr (.inr g)), (2, .inr (.inr g2)), (3, .inl x3), (4, .inl x4)]) (st' := [.inr (.inr t35)]) rfl ?_
              refine k_run 1 (pc' := 102) (l' := [(0, .inr (.inr 406)), (1, .inr (.inr g)), (2, .inr (.inr g2)), (3, .inl x3), (4, .inl x4)]) (st' := [.inr (.inr g2), .inr (.inr t35)]) rfl ?_
              refine k_get (a := g2) (x := (kGo g2)) (v := .inr (.inr (g2 + 1))) rfl rfl hG2.1 (iG0 hG2) rfl rfl rfl ?_
              refine k_run 0 (pc' := 105) (l' := [(0, .inr (.inr 406)), (1, .inr (.inr g)), (2, .inr (.inr g2)), (3, .inl x3), (4, .inl x4)]) (st' := [.inr (.inr (g2 + 1)), .inr (.inr t35)]) rfl ?_
              refine k_run 5 (pc' := 111) (l' := [(0, .inr (.inr 406)), (1, .inr (.inr g)), (2, .inr (.inr g2)), (3, .inl x3), (4, .inl x4)]) (st' := [.inl (3 + (2 * x4)), .inr (.inr (g2 + 1)), .inr (.inr t35)]) rfl ?_
              refine k_ald (c := (g2 + 1)) (j := ((3 + (2 * x4))).toNat) (i := (3 + (2 * x4))) (x := kGt) rfl hG2.2.1 (iG1 hG2) rfl (by decide) (by omega) (by omega) hI29 (fun h39 => ?_)
              obtain ⟨t40, et42⟩ : ∃ t9, t9 = H28.2 (g2 + 1) ((3 + (2 * x4))).toNat := ⟨_, rfl⟩
              rw [← et42] at h39 ⊢
              obtain ⟨n43, k41⟩ := (show (∃ n, isT t40 n) ∧ 369 < t40 from h39).1
              have k41b := k41.2.2.2.2
              refine k_run 0 (pc' := 112) (l' := [(0, .inr (.inr 406)), (1, .inr (.inr g)), (2, .inr (.inr g2)), (3, .inl x3), (4, .inl x4)]) (st' := [.inr (.inr t40), .inr (.inr t35)]) rfl ?_
              refine k_run 4 (pc' := 120) (l' := [(0, .inr (.inr 406)), (1, .inr (.inr g)), (2, .inr (.inr g2)), (3, .inl x3), (4, .inl x4)]) (st' := [.inr (.inr 1354), .inr (.inr 1352), .inr (.inr t40), .inr (.inr t35)]) rfl ?_
              refine h_cv (i := 290) (j := 59) (b := t35) (M' := mt_59) (xs := [.inr (.inr 1354), .inr (.inr 1352), .inr (.inr t40)]) (rest := []) rfl rfl rfl rfl (by rw [zs_K k36.1 (iT0 k36)]; rfl) rfl (Nat.le_of_ble_eq_true rfl) (Nat.le_of_ble_eq_true rfl) (by omega) (k_Term_copyReplacing (by omega) hI29 k36 k41 iT_1352 iT_1354) ?_
              rintro _ H45 ⟨z48, rfl, g44, hI46, hq47⟩
              have hf49 : fq [] [] false H H45 := fq_t hf32 hq47 rfl rfl rfl
              refine k_run 0 (pc' := 123) (l' := [(0, .inr (.inr 406)), (1, .inr (.inr g)), (2, .inr (.inr g2)), (3, .inl x3), (4, .inl x4)]) (st' := [.inl z48]) rfl ?_
              refine h_zeq (off := 7) (t := 130) rfl rfl (by omega) (fun c50 => ?_) (fun c50 => ?_)
              · refine k_run 0 (pc' := 130) (l' := [(0, .inr (.inr 406)), (1, .inr (.inr g)), (2, .inr (.inr g2)), (3, .inl x3), (4, .inl x4)]) (st' := []) rfl ?_
                refine k_run 4 (pc' := 15) (l' := [(0, .inr (.inr 406)), (1, .inr (.inr g)), (2, .inr (.inr g2)), (3, .inl 0), (4, .inl (x4 + 1))]) (st' := []) rfl ?_
                exact ih H45 hI46 hf49 g2 (0 : Int) (x4 + 1) hG2 (by decide) (by omega) (by omega) (by omega) (by omega)
              · refine k_run 0 (pc' := 126) (l' := [(0, .inr (.inr 406)), (1, .inr (.inr g)), (2, .inr (.inr g2)), (3, .inl x3), (4, .inl x4)]) (st' := []) rfl ?_
                refine k_run 5 (pc' := 15) (l' := [(0, .inr (.inr 406)), (1, .inr (.inr g)), (2, .inr (.inr g2)), (3, .inl 1), (4, .inl (x4 + 1))]) (st' := []) rfl ?_
                exact ih H45 hI46 hf49 g2 (1 : Int) (x4 + 1) hG2 (by decide) (by omega) (by omega) (by omega) (by omega)
set_option maxRecDepth 100000 in
theorem k_Prover_replaceInHypotheses {d : Nat} (hd : 3 ≤ d) {H : hp} (hI : Inv H) {g : Nat} (hg : isG g) : hG (zs zK) d mt_132 0 (zargs 0 [.inr (.inr 406), .inr (.inr g)]) [] H (fun r9 H9 => ∃ z : Int, r9 = some (.inl z) ∧ ((0 ≤ z ∧ z ≤ 1)) ∧ Inv H9 ∧ fq [] [] false H H9) := by
  refine k_run 0 (pc' := 0) (l' := [(0, .inr (.inr 406)), (1, .inr (.inr g))]) (st' := []) rfl ?_
  refine k_run 4 (pc' := 8) (l' := [(0, .inr (.inr 406)), (1, .inr (.inr g))]) (st' := [.inl 0, .inr (.inr 408)]) rfl ?_
  refine k_ald (c := 408) (j := 0) (i := 0) (x := kx_408) rfl rfl (by decide) rfl (by decide) rfl (by decide) hI (fun h1 => ?_)
  obtain ⟨t2, et4⟩ : ∃ t9, t9 = H.2 408 0 := ⟨_, rfl⟩
  rw [← et4] at h1 ⊢
  have k3 : isG t2 := h1
  refine k_run 0 (pc' := 9) (l' := [(0, .inr (.inr 406)), (1, .inr (.inr g))]) (st' := [.inr (.inr t2)]) rfl ?_
  refine k_run 5 (pc' := 15) (l' := [(0, .inr (.inr 406)), (1, .inr (.inr g)), (2, .inr (.inr t2)), (3, .inl 1), (4, .inl 0)]) (st' := []) rfl ?_
  exact (k_Prover_replaceInHypotheses_cut hd hI hg _) H hI (fq_rf _ _ _ _) t2 (1 : Int) (0 : Int) k3 (by decide) (by decide) (by omega) (by omega) (Nat.lt_succ_self _)

/-! Prover.bits -/
set_option maxRecDepth 100000 in
theorem k_Prover_bits_cut {d : Nat} (hd : 1 ≤ d) {H : hp} {a : Int} {b : Int} (ha : -2147483648 ≤ a ∧ a ≤ 2147483647) (hb : -2147483648 ≤ b ∧ b ≤ 2147483647) : ∀ w : Nat, (∀ (x2 : Int) (x4 : Int) , (-9223372036854775808 ≤ x2 ∧ x2 ≤ 9223372036854775807) → (-2147483648 ≤ x4 ∧ x4 ≤ 2147483647) → (a ≤ x4) → (((100 - x4).toNat) < w) → hG (zs zK) d mt_133 5 [(0, .inl a), (1, .inl b), (2, .inr (.inl x2)), (4, .inl x4)] [] H (fun r9 H9 => ∃ z : Int, r9 = some (.inr (.inl z)) ∧ (-9223372036854775808 ≤ z ∧ z ≤ 9223372036854775807) ∧ H = H9)) := by
  intro w
  induction w with
  | zero => exact fun _ _ _ _ _ h => absurd h (Nat.not_lt_zero _)
  | succ w ih =>
    intro x2 x4 hx2 hx4 hi0 hw
    refine k_run 2 (pc' := 8) (l' := [(0, .inl a), (1, .inl b), (2, .inr (.inl x2)), (4, .inl x4)]) (st' := [.inl b, .inl x4]) rfl ?_
    refine h_ige (off := 23) (t := 31) rfl rfl (by omega) (by omega) (fun c1 => ?_) (fun c1 => ?_)
    · refine k_run 0 (pc' := 31) (l' := [(0, .inl a), (1, .inl b), (2, .inr (.inl x2)), (4, .inl x4)]) (st' := []) rfl ?_
      refine k_run 1 (pc' := 32) (l' := [(0, .inl a), (1, .inl b), (2, .inr (.inl x2)), (4, .inl x4)]) (st' := [.inr (.inl x2)]) rfl ?_
      refine h_retl (x := x2) rfl rfl ?_
      exact ⟨_, rfl, (by omega), rfl⟩
    · refine k_run 0 (pc' := 11) (l' := [(0, .inl a), (1, .inl b), (2, .inr (.inl x2)), (4, .inl x4)]) (st' := []) rfl ?_
      refine k_run 2 (pc' := 15) (l' := [(0, .inl a), (1, .inl b), (2, .inr (.inl x2)), (4, .inl x4)]) (st' := [.inl 60, .inl x4]) rfl ?_
      refine h_ige (off := 16) (t := 31) rfl rfl (by omega) (by decide) (fun c2 => ?_) (fun c2 => ?_)
      · refine k_run 0 (pc' := 31) (l' := [(0, .inl a), (1, .inl b), (2, .inr (.inl x2)), (4, .inl x4)]) (st' := []) rfl ?_
        refine k_run 1 (pc' := 32) (l' := [(0, .inl a), (1, .inl b), (2, .inr (.inl x2)), (4, .inl x4)]) (st' := [.inr (.inl x2)]) rfl ?_
        refine h_retl (x := x2) rfl rfl ?_
        exact ⟨_, rfl, (by omega), rfl⟩
      · refine k_run 0 (pc' := 18) (l' := [(0, .inl a), (1, .inl b), (2, .inr (.inl x2)), (4, .inl x4)]) (st' := []) rfl ?_
        refine k_run 4 (pc' := 23) (l' := [(0, .inl a), (1, .inl b), (2, .inr (.inl x2)), (4, .inl x4)]) (st' := [.inr (.inl (z_lshl 1 x4)), .inr (.inl x2)]) rfl ?_
        refine k_nrmj (fun y3 hy3 => ?_)
        refine k_run 1 (pc' := 24) (l' := [(0, .inl a), (1, .inl b), (2, .inr (.inl x2)), (4, .inl x4)]) (st' := [.inr (.inl (z_lor x2 y3))]) rfl ?_
        refine k_nrmj (fun y4 hy4 => ?_)
        refine k_run 3 (pc' := 5) (l' := [(0, .inl a), (1, .inl b), (2, .inr (.inl y4)), (4, .inl (x4 + 1))]) (st' := []) rfl ?_
        exact ih y4 (x4 + 1) (by omega) (by omega) (by omega) (by omega)
set_option maxRecDepth 100000 in
theorem k_Prover_bits {d : Nat} (hd : 1 ≤ d) {H : hp} {a : Int} {b : Int} (ha : -2147483648 ≤ a ∧ a ≤ 2147483647) (hb : -2147483648 ≤ b ∧ b ≤ 2147483647) : hG (zs zK) d mt_133 0 (zargs 0 [.inl a, .inl b]) [] H (fun r9 H9 => ∃ z : Int, r9 = some (.inr (.inl z)) ∧ (-9223372036854775808 ≤ z ∧ z ≤ 9223372036854775807) ∧ H = H9) := by
  refine k_run 0 (pc' := 0) (l' := [(0, .inl a), (1, .inl b)]) (st' := []) rfl ?_
  refine k_run 4 (pc' := 5) (l' := [(0, .inl a), (1, .inl b), (2, .inr (.inl 0)), (4, .inl a)]) (st' := []) rfl ?_
  exact (k_Prover_bits_cut hd ha hb _) (0 : Int) a (by decide) (by omega) (by omega) (Nat.lt_succ_self _)

/-! Prover.swapGoals -/
set_option maxRecDepth 100000 in
theorem k_Prover_swapGoals {d : Nat} (hd : 1 ≤ d) {H : hp} (hI : Inv H) {a : Int} {b : Int} (ha : -2147483648 ≤ a ∧ a ≤ 2147483647) (hb : -2147483648 ≤ b ∧ b ≤ 2147483647) : hG (zs zK) d mt_137 0 (zargs 0 [.inr (.inr 406), .inl a, .inl b]) [] H (fun r9 H9 => r9 = none ∧ Inv H9 ∧ fq [] [408] false H H9) := by
  refine k_run 0 (pc' := 0) (l' := [(0, .inr (.inr 406)), (1, .inl a), (2, .inl b)]) (st' := []) rfl ?_
  refine k_run 1 (pc' := 1) (l' := [(0, .inr (.inr 406)), (1, .inl a), (2, .inl b)]) (st' := [.inl a]) rfl ?_
  refine h_zlt (off := 57) (t := 58) rfl rfl (by omega) (fun c1 => ?_) (fun c1 => ?_)
  · refine k_run 0 (pc' := 58) (l' := [(0, .inr (.inr 406)), (1, .inl a), (2, .inl b)]) (st' := []) rfl ?_
    refine h_ret rfl rfl ?_
    exact ⟨rfl, hI, (fq_rf _ _ _ _)⟩
  · refine k_run 0 (pc' := 4) (l' := [(0, .inr (.inr 406)), (1, .inl a), (2, .inl b)]) (st' := []) rfl ?_
    refine k_run 2 (pc' := 7) (l' := [(0, .inr (.inr 406)), (1, .inl a), (2, .inl b)]) (st' := [.inl 12, .inl a]) rfl ?_
    refine h_ige (off := 51) (t := 58) rfl rfl (by omega) (by decide) (fun c2 => ?_) (fun c2 => ?_)
    · refine k_run 0 (pc' := 58) (l' := [(0, .inr (.inr 406)), (1, .inl a), (2, .inl b)]) (st' := []) rfl ?_
      refine h_ret rfl rfl ?_
      exact ⟨rfl, hI, (fq_rf _ _ _ _)⟩
    · refine k_run 0 (pc' := 10) (l' := [(0, .inr (.inr 406)), (1, .inl a), (2, .inl b)]) (st' := []) rfl ?_
      refine k_run 1 (pc' := 11) (l' := [(0, .inr (.inr 406)), (1, .inl a), (2, .inl b)]) (st' := [.inl b]) rfl ?_
      refine h_zlt (off := 47) (t := 58) rfl rfl (by omega) (fun c3 => ?_) (fun c3 => ?_)
      · refine k_run 0 (pc' := 58) (l' := [(0, .inr (.inr 406)), (1, .inl a), (2, .inl b)]) (st' := []) rfl ?_
        refine h_ret rfl rfl ?_
        exact ⟨rfl, hI, (fq_rf _ _ _ _)⟩
      · refine k_run 0 (pc' := 14) (l' := [(0, .inr (.inr 406)), (1, .inl a), (2, .inl b)]) (st' := []) rfl ?_
        refine k_run 2 (pc' := 17) (l' := [(0, .inr (.inr 406)), (1, .inl a), (2, .inl b)]) (st' := [.inl 12, .inl b]) rfl ?_
        refine h_ige (off := 41) (t := 58) rfl rfl (by omega) (by decide) (fun c4 => ?_) (fun c4 => ?_)
        · refine k_run 0 (pc' := 58) (l' := [(0, .inr (.inr 406)), (1, .inl a), (2, .inl b)]) (st' := []) rfl ?_
          refine h_ret rfl rfl ?_
          exact ⟨rfl, hI, (fq_rf _ _ _ _)⟩
        · refine k_run 0 (pc' := 20) (l' := [(0, .inr (.inr 406)), (1, .inl a), (2, .inl b)]) (st' := []) rfl ?_
          refine k_run 4 (pc' := 28) (l' := [(0, .inr (.inr 406)), (1, .inl a), (2, .inl b)]) (st' := [.inl a, .inr (.inr 408)]) rfl ?_
          refine k_ald (c := 408) (j := (a).toNat) (i := a) (x := kx_408) rfl rfl (by decide) rfl (by decide) (by omega) (by omega) hI (fun h5 => ?_)
          obtain ⟨t6, et8⟩ : ∃ t9, t9 = H.2 408 (a).toNat := ⟨_, rfl⟩
          rw [← et8] at h5 ⊢
          have k7 : isG t6 := h5
          refine k_run 0 (pc' := 29) (l' := [(0, .inr (.inr 406)), (1, .inl a), (2, .inl b)]) (st' := [.inr (.inr t6)]) rfl ?_
          refine k_run 9 (pc' := 46) (l' := [(0, .inr (.inr 406)), (1, .inl a), (2, .inl b), (3, .inr (.inr t6))]) (st' := [.inl b, .inr (.inr 408), .inl a, .inr (.inr 408)]) rfl ?_
          refine k_ald (c := 408) (j := (b).toNat) (i := b) (x := kx_408) rfl rfl (by decide) rfl (by decide) (by omega) (by omega) hI (fun h9 => ?_)
          obtain ⟨t10, et12⟩ : ∃ t9, t9 = H.2 408 (b).toNat := ⟨_, rfl⟩
          rw [← et12] at h9 ⊢
          have k11 : isG t10 := h9
          refine k_run 0 (pc' := 47) (l' := [(0, .inr (.inr 406)), (1, .inl a), (2, .inl b), (3, .inr (.inr t6))]) (st' := [.inr (.inr t10), .inl a, .inr (.inr 408)]) rfl ?_
          refine k_ast (c := 408) (j := (a).toNat) (i := a) (t := t10) (x := kx_408) (xt := (kGo t10)) rfl rfl (by decide) (by decide) rfl (by decide) (by omega) (by omega) k11.1 (iG0 k11) rfl rfl rfl hI (show isG t10 from k11) (fun H13 hI14 hw15 => ?_)
          have hf16 : fq [] [408] false H H13 := fq_r (fq_rf _ _ _ _) hw15 (fpa (by decide) rfl)
          refine k_run 0 (pc' := 48) (l' := [(0, .inr (.inr 406)), (1, .inl a), (2, .inl b), (3, .inr (.inr t6))]) (st' := []) rfl ?_
          refine k_run 5 (pc' := 57) (l' := [(0, .inr (.inr 406)), (1, .inl a), (2, .inl b), (3, .inr (.inr t6))]) (st' := [.inr (.inr t6), .inl b, .inr (.inr 408)]) rfl ?_
          refine k_ast (c := 408) (j := (b).toNat) (i := b) (t := t6) (x := kx_408) (xt := (kGo t6)) rfl rfl (by decide) (by decide) rfl (by decide) (by omega) (by omega) k7.1 (iG0 k7) rfl rfl rfl hI14 (show isG t6 from k7) (fun H17 hI18 hw19 => ?_)
          have hf20 : fq [] [408] false H H17 := fq_r hf16 hw19 (fpa (by decide) rfl)
          refine k_run 0 (pc' := 58) (l' := [(0, .inr (.inr 406)), (1, .inl a), (2, .inl b), (3, .inr (.inr t6))]) (st' := []) rfl ?_
          refine h_ret rfl rfl ?_
          exact ⟨rfl, hI18, hf20⟩

/-! Prover.putGoals -/
set_option maxRecDepth 100000 in
theorem k_Prover_putGoals_cut {d : Nat} (hd : 2 ≤ d) {H : hp} (hI : Inv H) {a : Int} (ha : -2147483648 ≤ a ∧ a ≤ 2147483647) (hp0 : 0 ≤ a ∧ a ≤ 12) (hp1 : 1 ≤ H.1 407 2) (hp2 : H.1 407 2 - 1 + a ≤ 12) : ∀ w : Nat, (∀ (H1 : hp), Inv H1 → fq [(407, 2), (407, 3)] [408, 1349] true H H1 → ∀ (x2 : Int) (x3 : Int) , (-2147483648 ≤ x2 ∧ x2 ≤ 2147483647) → (-2147483648 ≤ x3 ∧ x3 ≤ 2147483647) → (x2 = a - 1) → (1 ≤ x3 ∧ x3 ≤ 13) → (H1.1 407 2 = H.1 407 2) → (((300000 - x3).toNat) < w) → hG (zs zK) d mt_136 10 [(0, .inr (.inr 406)), (1, .inl a), (2, .inl x2), (3, .inl x3)] [] H1 (fun r9 H9 => ∃ z : Int, r9 = some (.inl z) ∧ ((-2147483648 ≤ z ∧ z ≤ 2147483647) ∧ (0 ≤ z ∧ z ≤ 12)) ∧ Inv H9 ∧ fq [(407, 2), (407, 3)] [408, 1349] true H H9)) ∧ (∀ (H1 : hp), Inv H1 → fq [(407, 2), (407, 3)] [408, 1349] true H H1 → ∀ (x2 : Int) (x3 : Int) , (-2147483648 ≤ x2 ∧ x2 ≤ 2147483647) → (-2147483648 ≤ x3 ∧ x3 ≤ 2147483647) → (x2 = a - 1) → (-1 ≤ x3 ∧ x3 ≤ 12) → (H1.1 407 2 = H.1 407 2) → (((1000 + x3).toNat) < w) → hG (zs zK) d mt_136 45 [(0, .inr (.inr 406)), (1, .inl a), (2, .inl x2), (3, .inl x3)] [] H1 (fun r9 H9 => ∃ z : Int, r9 = some (.inl z) ∧ ((-2147483648 ≤ z ∧ z ≤ 2147483647) ∧ (0 ≤ z ∧ z ≤ 12)) ∧ Inv H9 ∧ fq [(407, 2), (407, 3)] [408, 1349] true H H9)) ∧ (∀ (H1 : hp), Inv H1 → fq [(407, 2), (407, 3)] [408, 1349] true H H1 → ∀ (x2 : Int) (x3 : Int) , (-2147483648 ≤ x2 ∧ x2 ≤ 2147483647) → (-2147483648 ≤ x3 ∧ x3 ≤ 2147483647) → (x2 = a - 1) → (0 ≤ x3 ∧ x3 ≤ 13) → (H1.1 407 2 = H.1 407 2) → (((500 - x3).toNat) < w) → hG (zs zK) d mt_136 70 [(0, .inr (.inr 406)), (1, .inl a), (2, .inl x2), (3, .inl x3)] [] H1 (fun r9 H9 => ∃ z : Int, r9 = some (.inl z) ∧ ((-2147483648 ≤ z ∧ z ≤ 2147483647) ∧ (0 ≤ z ∧ z ≤ 12)) ∧ Inv H9 ∧ fq [(407, 2), (407, 3)] [408, 1349] true H H9)) := by
  intro w
  induction w with
  | zero => exact ⟨fun _ _ _ _ _ _ _ _ _ _ h => absurd h (Nat.not_lt_zero _), fun _ _ _ _ _ _ _ _ _ _ h => absurd h (Nat.not_lt_zero _), fun _ _ _ _ _ _ _ _ _ _ h => absurd h (Nat.not_lt_zero _)⟩
  | succ w ih =>
    refine ⟨?_, ?_, ?_⟩
    · intro H1 hI1 hf1 x2 x3 hx2 hx3 hi0 hi1 hi2 hw
      have g4 : 0 ≤ (H1.1 407 2) ∧ (H1.1 407 2) ≤ 12 := kn (x := kx_407) hI1 rfl 2
      refine k_run 4 (pc' := 18) (l' := [(0, .inr (.inr 406)), (1, .inl a), (2, .inl x2), (3, .inl x3)]) (st' := [.inl (H1.1 407 2), .inl x3]) rfl ?_
      refine h_ige (off := 17) (t := 35) rfl rfl (by omega) (by omega) (fun c5 => ?_) (fun c5 => ?_)
      · refine k_run 0 (pc' := 35) (l' := [(0, .inr (.inr 406)), (1, .inl a), (2, .inl x2), (3, .inl x3)]) (st' := []) rfl ?_
        refine k_run 6 (pc' := 45) (l' := [(0, .inr (.inr 406)), (1, .inl a), (2, .inl x2), (3, .inl ((H1.1 407 2) - 1))]) (st' := []) rfl ?_
        exact ih.2.1 H1 hI1 hf1 x2 ((H1.1 407 2) - 1) (by omega) (by omega) (by omega) (by omega) (by omega) (by omega)
      · refine k_run 0 (pc' := 21) (l' := [(0, .inr (.inr 406)), (1, .inl a), (2, .inl x2), (3, .inl x3)]) (st' := []) rfl ?_
        refine k_run 5 (pc' := 26) (l' := [(0, .inr (.inr 406)), (1, .inl a), (2, .inl x2), (3, .inl x3)]) (st' := [.inl x3, .inl (x3 - 1), .inr (.inr 406)]) rfl ?_
        refine h_cv (i := 297) (j := 137) (b := 406) (M' := mt_137) (xs := [.inl x3, .inl (x3 - 1)]) (rest := []) rfl rfl rfl rfl (zs_K (x := kx_406) rfl (by decide)) rfl (Nat.le_of_ble_eq_true rfl) (Nat.le_of_ble_eq_true rfl) (by omega) (k_Prover_swapGoals (by omega) hI1 (by omega) (by omega)) ?_
        rintro _ H7 ⟨rfl, hI8, hq9⟩
        have hf10 : fq [(407, 2), (407, 3)] [408, 1349] true H H7 := fq_t hf1 hq9 rfl rfl rfl
        refine k_run 0 (pc' := 29) (l' := [(0, .inr (.inr 406)), (1, .inl a), (2, .inl x2), (3, .inl x3)]) (st' := []) rfl ?_
        refine k_run 2 (pc' := 10) (l' := [(0, .inr (.inr 406)), (1, .inl a), (2, .inl x2), (3, .inl (x3 + 1))]) (st' := []) rfl ?_
        have g11 : 0 ≤ (H7.1 407 2) ∧ (H7.1 407 2) ≤ 12 := kn (x := kx_407) hI8 rfl 2
        have e12 : (H7.1 407 2) = (H1.1 407 2) := (hq9.1 407 2 rfl (by decide) (by decide)).1
        exact ih.1 H7 hI8 hf10 x2 (x3 + 1) (by omega) (by omega) (by omega) (by omega) (by omega) (by omega)
    · intro H1 hI1 hf1 x2 x3 hx2 hx3 hi0 hi1 hi2 hw
      have g13 : 0 ≤ (H1.1 407 2) ∧ (H1.1 407 2) ≤ 12 := kn (x := kx_407) hI1 rfl 2
      refine k_run 1 (pc' := 46) (l' := [(0, .inr (.inr 406)), (1, .inl a), (2, .inl x2), (3, .inl x3)]) (st' := [.inl x2]) rfl ?_
      refine h_zle (off := 22) (t := 68) rfl rfl (by omega) (fun c14 => ?_) (fun c14 => ?_)
      · refine k_run 0 (pc' := 68) (l' := [(0, .inr (.inr 406)), (1, .inl a), (2, .inl x2), (3, .inl x3)]) (st' := []) rfl ?_
        refine k_run 2 (pc' := 70) (l' := [(0, .inr (.inr 406)), (1, .inl a), (2, .inl x2), (3, .inl 0)]) (st' := []) rfl ?_
        exact ih.2.2 H1 hI1 hf1 x2 (0 : Int) (by omega) (by decide) (by omega) (by omega) (by omega) (by omega)
      · refine k_run 0 (pc' := 49) (l' := [(0, .inr (.inr 406)), (1, .inl a), (2, .inl x2), (3, .inl x3)]) (st' := []) rfl ?_
        refine k_run 2 (pc' := 51) (l' := [(0, .inr (.inr 406)), (1, .inl a), (2, .inl x2), (3, .inl x3)]) (st' := [.inl 1, .inl x3]) rfl ?_
        refine h_ilt (off := 17) (t := 68) rfl rfl (by omega) (by decide) (fun c15 => ?_) (fun c15 => ?_)
        · refine k_run 0 (pc' := 68) (l' := [(0, .inr (.inr 406)), (1, .inl a), (2, .inl x2), (3, .inl x3)]) (st' := []) rfl ?_
          refine k_run 2 (pc' := 70) (l' := [(0, .inr (.inr 406)), (1, .inl a), (2, .inl x2), (3, .inl 0)]) (st' := []) rfl ?_
          exact ih.2.2 H1 hI1 hf1 x2 (0 : Int) (by omega) (by decide) (by omega) (by omega) (by omega) (by omega)
        · refine k_run 0 (pc' := 54) (l' := [(0, .inr (.inr 406)), (1, .inl a), (2, .inl x2), (3, .inl x3)]) (st' := []) rfl ?_
          refine k_run 5 (pc' := 59) (l' := [(0, .inr (.inr 406)), (1, .inl a), (2, .inl x2), (3, .inl x3)]) (st' := [.inl (x3 + x2), .inl x3, .inr (.inr 406)]) rfl ?_
          refine h_cv (i := 297) (j := 137) (b := 406) (M' := mt_137) (xs := [.inl (x3 + x2), .inl x3]) (rest := []) rfl rfl rfl rfl (zs_K (x := kx_406) rfl (by decide)) rfl (Nat.le_of_ble_eq_true rfl) (Nat.le_of_ble_eq_true rfl) (by omega) (k_Prover_swapGoals (by omega) hI1 (by omega) (by omega)) ?_
          rintro _ H17 ⟨rfl, hI18, hq19⟩
          have hf20 : fq [(407, 2), (407, 3)] [408, 1349] true H H17 := fq_t hf1 hq19 rfl rfl rfl
          refine k_run 0 (pc' := 62) (l' := [(0, .inr (.inr 406)), (1, .inl a), (2, .inl x2), (3, .inl x3)]) (st' := []) rfl ?_
          refine k_run 2 (pc' := 45) (l' := [(0, .inr (.inr 406)), (1, .inl a), (2, .inl x2), (3, .inl (x3 + (-1)))]) (st' := []) rfl ?_
          have g21 : 0 ≤ (H17.1 407 2) ∧ (H17.1 407 2) ≤ 12 := kn (x := kx_407) hI18 rfl 2
          have e22 : (H17.1 407 2) = (H1.1 407 2) := (hq19.1 407 2 rfl (by decide) (by decide)).1
          exact ih.2.1 H17 hI18 hf20 x2 (x3 + (-1)) (by omega) (by omega) (by omega) (by omega) (by omega) (by omega)
    · intro H1 hI1 hf1 x2 x3 hx2 hx3 hi0 hi1 hi2 hw
      have g23 : 0 ≤ (H1.1 407 2) ∧ (H1.1 407 2) ≤ 12 := kn (x := kx_407) hI1 rfl 2
      refine k_run 2 (pc' := 72) (l' := [(0, .inr (.inr 406)), (1, .inl a), (2, .inl x2), (3, .inl x3)]) (st' := [.inl a, .inl x3]) rfl ?_
      refine h_ige (off := 58) (t := 130) rfl rfl (by omega) (by omega) (fun c24 => ?_) (fun c24 => ?_)
      · refine k_run 0 (pc' := 130) (l' := [(0, .inr (.inr 406)), (1, .inl a), (2, .inl x2), (3, .inl x3)]) (st' := []) rfl ?_
        refine k_run 6 (pc' := 140) (l' := [(0, .inr (.inr 406)), (1, .inl a), (2, .inl x2), (3, .inl x3)]) (st' := [.inl ((H1.1 407 2) + x2), .inr (.inr 407)]) rfl ?_
        refine k_puti (z := ((H1.1 407 2) + x2)) (a := 407) (x := kx_407) rfl rfl rfl (by decide) (by decide) rfl rfl rfl rfl hI1 (by omega) (show 0 ≤ ((H1.1 407 2) + x2) ∧ ((H1.1 407 2) + x2) ≤ 12 by omega) (fun H25 hI26 hw27 hv28 => ?_)
        have hf29 : fq [(407, 2), (407, 3)] [408, 1349] true H H25 := fq_w hf1 hw27 (fpo (by decide) rfl)
        refine k_run 0 (pc' := 143) (l' := [(0, .inr (.inr 406)), (1, .inl a), (2, .inl x2), (3, .inl x3)]) (st' := []) rfl ?_
        refine k_run 4 (pc' := 151) (l' := [(0, .inr (.inr 406)), (1, .inl a), (2, .inl x2), (3, .inl x3)]) (st' := [.inl (H25.1 407 3), .inr (.inr 407)]) rfl ?_
        have g30 : -2147483648 ≤ (H25.1 407 3) ∧ (H25.1 407 3) ≤ 2147483647 := kn (x := kx_407) hI26 rfl 3
        have e31 : (H25.1 407 3) = (H1.1 407 3) := hw27.2 _ _ (fun q => absurd q.2 (by decide))
        refine k_run 2 (pc' := 153) (l' := [(0, .inr (.inr 406)), (1, .inl a), (2, .inl x2), (3, .inl x3)]) (st' := [.inl ((H25.1 407 3) + 1), .inr (.inr 407)]) rfl ?_
        refine k_putw (a := 407) (x := kx_407) rfl rfl rfl (by decide) (by decide) rfl rfl rfl rfl hI26 rfl (fun H32 hI33 hw34 => ?_)
        have hf36 : fq [(407, 2), (407, 3)] [408, 1349] true H H32 := fq_w hf29 hw34 (fpo (by decide) rfl)
        refine k_run 0 (pc' := 156) (l' := [(0, .inr (.inr 406)), (1, .inl a), (2, .inl x2), (3, .inl x3)]) (st' := []) rfl ?_
        refine k_run 3 (pc' := 163) (l' := [(0, .inr (.inr 406)), (1, .inl a), (2, .inl x2), (3, .inl x3)]) (st' := [.inl (H32.1 407 2)]) rfl ?_
        have g37 : 0 ≤ (H32.1 407 2) ∧ (H32.1 407 2) ≤ 12 := kn (x := kx_407) hI33 rfl 2
        have e38 : (H32.1 407 2) = (H25.1 407 2) := hw34.2 _ _ (fun q => absurd q.2 (by decide))
        refine h_zne (off := 62) (t := 225) rfl rfl (by omega) (fun c39 => ?_) (fun c39 => ?_)
        · refine k_run 0 (pc' := 225) (l' := [(0, .inr (.inr 406)), (1, .inl a), (2, .inl x2), (3, .inl x3)]) (st' := []) rfl ?_
          refine k_run 3 (pc' := 232) (l' := [(0, .inr (.inr 406)), (1, .inl a), (2, .inl x2), (3, .inl x3)]) (st' := [.inl (H32.1 407 2)]) rfl ?_
          refine h_reti (x := (H32.1 407 2)) rfl rfl ?_
          exact ⟨_, rfl, (by omega), hI33, hf36⟩
        · refine k_run 0 (pc' := 166) (l' := [(0, .inr (.inr 406)), (1, .inl a), (2, .inl x2), (3, .inl x3)]) (st' := []) rfl ?_
          refine k_run 5 (pc' := 177) (l' := [(0, .inr (.inr 406)), (1, .inl a), (2, .inl x2), (3, .inl x3)]) (st' := [.inl (H32.1 407 4), .inr (.inr 7)]) rfl ?_
          have g40 : -2147483648 ≤ (H32.1 407 4) ∧ (H32.1 407 4) ≤ 2147483647 := kn (x := kx_407) hI33 rfl 4
          have e41 : (H32.1 407 4) = (H25.1 407 4) := hw34.2 _ _ (fun q => absurd q.2 (by decide))
          have e42 : (H25.1 407 4) = (H1.1 407 4) := hw27.2 _ _ (fun q => absurd q.2 (by decide))
          have e43 : (H1.1 407 4) = (H.1 407 4) := (hf1.1 407 4 rfl (by decide) (by decide)).1
          refine h_cv (i := 100) (j := 35) (b := 7) (M' := mt_35) (xs := [.inl (H32.1 407 4)]) (rest := []) rfl rfl rfl rfl (zs_K (x := kx_7) rfl (by decide)) rfl (Nat.le_of_ble_eq_true rfl) (Nat.le_of_ble_eq_true rfl) (by omega) (k_Program_hasLaw (by omega) hI33 (by omega)) ?_
          rintro _ _ ⟨z48, rfl, g44, rfl⟩
          refine k_run 0 (pc' := 180) (l' := [(0, .inr (.inr 406)), (1, .inl a), (2, .inl x2), (3, .inl x3)]) (st' := [.inl z48]) rfl ?_
          refine h_zeq (off := 45) (t := 225) rfl rfl (by omega) (fun c49 => ?_) (fun c49 => ?_)
          · refine k_run 0 (pc' := 225) (l' := [(0, .inr (.inr 406)), (1, .inl a), (2, .inl x2), (3, .inl x3)]) (st' := []) rfl ?_
            refine k_run 3 (pc' := 232) (l' := [(0, .inr (.inr 406)), (1, .inl a), (2, .inl x2), (3, .inl x3)]) (st' := [.inl (H32.1 407 2)]) rfl ?_
            refine h_reti (x := (H32.1 407 2)) rfl rfl ?_
            exact ⟨_, rfl, (by omega), hI33, hf36⟩
          · refine k_run 0 (pc' := 183) (l' := [(0, .inr (.inr 406)), (1, .inl a), (2, .inl x2), (3, .inl x3)]) (st' := []) rfl ?_
            refine k_run 6 (pc' := 197) (l' := [(0, .inr (.inr 406)), (1, .inl a), (2, .inl x2), (3, .inl x3)]) (st' := [.inl (H32.1 407 4), .inr (.inr 24)]) rfl ?_
            refine k_ald (c := 24) (j := ((H32.1 407 4)).toNat) (i := (H32.1 407 4)) (x := kx_24) rfl rfl (by decide) rfl (by decide) (by omega) (by omega) hI33 (fun h50 => ?_)
            obtain ⟨t51, et53⟩ : ∃ t9, t9 = H32.2 24 ((H32.1 407 4)).toNat := ⟨_, rfl⟩
            rw [← et53] at h50 ⊢
            have k52 : isE t51 := h50
            refine k_run 0 (pc' := 198) (l' := [(0, .inr (.inr 406)), (1, .inl a), (2, .inl x2), (3, .inl x3)]) (st' := [.inr (.inr t51)]) rfl ?_
            refine k_run 3 (pc' := 201) (l' := [(0, .inr (.inr 406)), (1, .inl a), (2, .inl x2), (3, .inr (.inr t51))]) (st' := [.inr (.inr t51), .inr (.inr t51)]) rfl ?_
            refine k_get (a := t51) (x := (kEo t51)) (v := .inl (H32.1 t51 6)) rfl rfl k52.1 (iE0 k52) rfl rfl rfl ?_
            have g54 : -2147483648 ≤ (H32.1 t51 6) ∧ (H32.1 t51 6) ≤ 2147483647 := kn hI33 k52.1 6
            have e55 : (H32.1 t51 6) = (H25.1 t51 6) := hw34.2 _ _ (fun q => by have h9 := (iEf k52); rw [q.1] at h9; exact absurd h9 (by decide))
            have e56 : (H25.1 t51 6) = (H1.1 t51 6) := hw27.2 _ _ (fun q => by have h9 := (iEf k52); rw [q.1] at h9; exact absurd h9 (by decide))
            refine k_run 0 (pc' := 204) (l' := [(0, .inr (.inr 406)), (1, .inl a), (2, .inl x2), (3, .inr (.inr t51))]) (st' := [.inl (H32.1 t51 6), .inr (.inr t51)]) rfl ?_
            refine k_run 3 (pc' := 211) (l' := [(0, .inr (.inr 406)), (1, .inl a), (2, .inl x2), (3, .inr (.inr t51))]) (st' := [.inl (H32.1 407 5), .inl (H32.1 t51 6), .inr (.inr t51)]) rfl ?_
            have g57 : 0 ≤ (H32.1 407 5) ∧ (H32.1 407 5) ≤ 1 := kn (x := kx_407) hI33 rfl 5
            have e58 : (H32.1 407 5) = (H25.1 407 5) := hw34.2 _ _ (fun q => absurd q.2 (by decide))
            have e59 : (H25.1 407 5) = (H1.1 407 5) := hw27.2 _ _ (fun q => absurd q.2 (by decide))
            have e60 : (H1.1 407 5) = (H.1 407 5) := (hf1.1 407 5 rfl (by decide) (by decide)).1
            refine h_zeq (off := 7) (t := 218) rfl rfl (by omega) (fun c61 => ?_) (fun c61 => ?_)
            · refine k_run 0 (pc' := 218) (l' := [(0, .inr (.inr 406)), (1, .inl a), (2, .inl x2), (3, .inr (.inr t51))]) (st' := [.inl (H32.1 t51 6), .inr (.inr t51)]) rfl ?_
              refine k_run 1 (pc' := 219) (l' := [(0, .inr (.inr 406)), (1, .inl a), (2, .inl x2), (3, .inr (.inr t51))]) (st' := [.inl 1, .inl (H32.1 t51 6), .inr (.inr t51)]) rfl ?_
              refine k_max (i := 304) (x := (H32.1 t51 6)) (y := 1) rfl rfl (Nat.le_of_ble_eq_true rfl) (by omega) (by omega) (by decide) (fun z62 hz62 => ?_)
              refine k_run 0 (pc' := 222) (l' := [(0, .inr (.inr 406)), (1, .inl a), (2, .inl x2), (3, .inr (.inr t51))]) (st' := [.inl z62, .inr (.inr t51)]) rfl ?_
              refine k_putw (a := t51) (x := (kEo t51)) rfl rfl k52.1 (iE0 k52) k52.2.2.2.2.1 rfl rfl rfl rfl hI33 rfl (fun H63 hI64 hw65 => ?_)
              have hf67 : fq [(407, 2), (407, 3)] [408, 1349] true H H63 := fq_w hf36 hw65 (fpg (iEf k52))
              refine k_run 0 (pc' := 225) (l' := [(0, .inr (.inr 406)), (1, .inl a), (2, .inl x2), (3, .inr (.inr t51))]) (st' := []) rfl ?_
              refine k_run 3 (pc' := 232) (l' := [(0, .inr (.inr 406)), (1, .inl a), (2, .inl x2), (3, .inr (.inr t51))]) (st' := [.inl (H63.1 407 2)]) rfl ?_
              have g68 : 0 ≤ (H63.1 407 2) ∧ (H63.1 407 2) ≤ 12 := kn (x := kx_407) hI64 rfl 2
              have e69 : (H63.1 407 2) = (H32.1 407 2) := hw65.2 _ _ (fun q => by have h9 := (iEf k52); rw [← q.1] at h9; exact absurd h9 (by decide))
              refine h_reti (x := (H63.1 407 2)) rfl rfl ?_
              exact ⟨_, rfl, (by omega), hI64, hf67⟩
            · refine k_run 0 (pc' := 214) (l' := [(0, .inr (.inr 406)), (1, .inl a), (2, .inl x2), (3, .inr (.inr t51))]) (st' := [.inl (H32.1 t51 6), .inr (.inr t51)]) rfl ?_
              refine k_run 2 (pc' := 219) (l' := [(0, .inr (.inr 406)), (1, .inl a), (2, .inl x2), (3, .inr (.inr t51))]) (st' := [.inl 2, .inl (H32.1 t51 6), .inr (.inr t51)]) rfl ?_
              refine k_max (i := 304) (x := (H32.1 t51 6)) (y := 2) rfl rfl (Nat.le_of_ble_eq_true rfl) (by omega) (by omega) (by decide) (fun z70 hz70 => ?_)
              refine k_run 0 (pc' := 222) (l' := [(0, .inr (.inr 406)), (1, .inl a), (2, .inl x2), (3, .inr (.inr t51))]) (st' := [.inl z70, .inr (.inr t51)]) rfl ?_
              refine k_putw (a := t51) (x := (kEo t51)) rfl rfl k52.1 (iE0 k52) k52.2.2.2.2.1 rfl rfl rfl rfl hI33 rfl (fun H71 hI72 hw73 => ?_)
              have hf75 : fq [(407, 2), (407, 3)] [408, 1349] true H H71 := fq_w hf36 hw73 (fpg (iEf k52))
              refine k_run 0 (pc' := 225) (l' := [(0, .inr (.inr 406)), (1, .inl a), (2, .inl x2), (3, .inr (.inr t51))]) (st' := []) rfl ?_
              refine k_run 3 (pc' := 232) (l' := [(0, .inr (.inr 406)), (1, .inl a), (2, .inl x2), (3, .inr (.inr t51))]) (st' := [.inl (H71.1 407 2)]) rfl ?_
              have g76 : 0 ≤ (H71.1 407 2) ∧ (H71.1 407 2) ≤ 12 := kn (x := kx_407) hI72 rfl 2
              have e77 : (H71.1 407 2) = (H32.1 407 2) := hw73.2 _ _ (fun q => by have h9 := (iEf k52); rw [← q.1] at h9; exact absurd h9 (by decide))
              refine h_reti (x := (H71.1 407 2)) rfl rfl ?_
              exact ⟨_, rfl, (by omega), hI72, hf75⟩
      · refine k_run 0 (pc' := 75) (l' := [(0, .inr (.inr 406)), (1, .inl a), (2, .inl x2), (3, .inl x3)]) (st' := []) rfl ?_
        refine k_run 3 (pc' := 80) (l' := [(0, .inr (.inr 406)), (1, .inl a), (2, .inl x2), (3, .inl x3)]) (st' := [.inr (.inr 1349), .inl x3]) rfl ?_
        refine k_alen (c := 1349) (x := kx_1349) rfl rfl (by decide) rfl ?_
        refine k_run 0 (pc' := 81) (l' := [(0, .inr (.inr 406)), (1, .inl a), (2, .inl x2), (3, .inl x3)]) (st' := [.inl 12, .inl x3]) rfl ?_
        refine h_ige (off := 49) (t := 130) rfl rfl (by omega) (by decide) (fun c78 => ?_) (fun c78 => ?_)
        · refine k_run 0 (pc' := 130) (l' := [(0, .inr (.inr 406)), (1, .inl a), (2, .inl x2), (3, .inl x3)]) (st' := []) rfl ?_
          refine k_run 6 (pc' := 140) (l' := [(0, .inr (.inr 406)), (1, .inl a), (2, .inl x2), (3, .inl x3)]) (st' := [.inl ((H1.1 407 2) + x2), .inr (.inr 407)]) rfl ?_
          refine k_puti (z := ((H1.1 407 2) + x2)) (a := 407) (x := kx_407) rfl rfl rfl (by decide) (by decide) rfl rfl rfl rfl hI1 (by omega) (show 0 ≤ ((H1.1 407 2) + x2) ∧ ((H1.1 407 2) + x2) ≤ 12 by omega) (fun H79 hI80 hw81 hv82 => ?_)
          have hf83 : fq [(407, 2), (407, 3)] [408, 1349] true H H79 := fq_w hf1 hw81 (fpo (by decide) rfl)
          refine k_run 0 (pc' := 143) (l' := [(0, .inr (.inr 406)), (1, .inl a), (2, .inl x2), (3, .inl x3)]) (st' := []) rfl ?_
          refine k_run 4 (pc' := 151) (l' := [(0, .inr (.inr 406)), (1, .inl a), (2, .inl x2), (3, .inl x3)]) (st' := [.inl (H79.1 407 3), .inr (.inr 407)]) rfl ?_
          have g84 : -2147483648 ≤ (H79.1 407 3) ∧ (H79.1 407 3) ≤ 2147483647 := kn (x := kx_407) hI80 rfl 3
          have e85 : (H79.1 407 3) = (H1.1 407 3) := hw81.2 _ _ (fun q => absurd q.2 (by decide))
          refine k_run 2 (pc' := 153) (l' := [(0, .inr (.inr 406)), (1, .inl a), (2, .inl x2), (3, .inl x3)]) (st' := [.inl ((H79.1 407 3) + 1), .inr (.inr 407)]) rfl ?_
          refine k_putw (a := 407) (x := kx_407) rfl rfl rfl (by decide) (by decide) rfl rfl rfl rfl hI80 rfl (fun H86 hI87 hw88 => ?_)
          have hf90 : fq [(407, 2), (407, 3)] [408, 1349] true H H86 := fq_w hf83 hw88 (fpo (by decide) rfl)
          refine k_run 0 (pc' := 156) (l' := [(0, .inr (.inr 406)), (1, .inl a), (2, .inl x2), (3, .inl x3)]) (st' := []) rfl ?_
          refine k_run 3 (pc' := 163) (l' := [(0, .inr (.inr 406)), (1, .inl a), (2, .inl x2), (3, .inl x3)]) (st' := [.inl (H86.1 407 2)]) rfl ?_
          have g91 : 0 ≤ (H86.1 407 2) ∧ (H86.1 407 2) ≤ 12 := kn (x := kx_407) hI87 rfl 2
          have e92 : (H86.1 407 2) = (H79.1 407 2) := hw88.2 _ _ (fun q => absurd q.2 (by decide))
          refine h_zne (off := 62) (t := 225) rfl rfl (by omega) (fun c93 => ?_) (fun c93 => ?_)
          · refine k_run 0 (pc' := 225) (l' := [(0, .inr (.inr 406)), (1, .inl a), (2, .inl x2), (3, .inl x3)]) (st' := []) rfl ?_
            refine k_run 3 (pc' := 232) (l' := [(0, .inr (.inr 406)), (1, .inl a), (2, .inl x2), (3, .inl x3)]) (st' := [.inl (H86.1 407 2)]) rfl ?_
            refine h_reti (x := (H86.1 407 2)) rfl rfl ?_
            exact ⟨_, rfl, (by omega), hI87, hf90⟩
          · refine k_run 0 (pc' := 166) (l' := [(0, .inr (.inr 406)), (1, .inl a), (2, .inl x2), (3, .inl x3)]) (st' := []) rfl ?_
            refine k_run 5 (pc' := 177) (l' := [(0, .inr (.inr 406)), (1, .inl a), (2, .inl x2), (3, .inl x3)]) (st' := [.inl (H86.1 407 4), .inr (.inr 7)]) rfl ?_
            have g94 : -2147483648 ≤ (H86.1 407 4) ∧ (H86.1 407 4) ≤ 2147483647 := kn (x := kx_407) hI87 rfl 4
            have e95 : (H86.1 407 4) = (H79.1 407 4) := hw88.2 _ _ (fun q => absurd q.2 (by decide))
            have e96 : (H79.1 407 4) = (H1.1 407 4) := hw81.2 _ _ (fun q => absurd q.2 (by decide))
            have e97 : (H1.1 407 4) = (H.1 407 4) := (hf1.1 407 4 rfl (by decide) (by decide)).1
            refine h_cv (i := 100) (j := 35) (b := 7) (M' := mt_35) (xs := [.inl (H86.1 407 4)]) (rest := []) rfl rfl rfl rfl (zs_K (x := kx_7) rfl (by decide)) rfl (Nat.le_of_ble_eq_true rfl) (Nat.le_of_ble_eq_true rfl) (by omega) (k_Program_hasLaw (by omega) hI87 (by omega)) ?_
            rintro _ _ ⟨z102, rfl, g98, rfl⟩
            refine k_run 0 (pc' := 180) (l' := [(0, .inr (.inr 406)), (1, .inl a), (2, .inl x2), (3, .inl x3)]) (st' := [.inl z102]) rfl ?_
            refine h_zeq (off := 45) (t := 225) rfl rfl (by omega) (fun c103 => ?_) (fun c103 => ?_)
            · refine k_run 0 (pc' := 225) (l' := [(0, .inr (.inr 406)), (1, .inl a), (2, .inl x2), (3, .inl x3)]) (st' := []) rfl ?_
              refine k_run 3 (pc' := 232) (l' := [(0, .inr (.inr 406)), (1, .inl a), (2, .inl x2), (3, .inl x3)]) (st' := [.inl (H86.1 407 2)]) rfl ?_
              refine h_reti (x := (H86.1 407 2)) rfl rfl ?_
              exact ⟨_, rfl, (by omega), hI87, hf90⟩
            · refine k_run 0 (pc' := 183) (l' := [(0, .inr (.inr 406)), (1, .inl a), (2, .inl x2), (3, .inl x3)]) (st' := []) rfl ?_
              refine k_run 6 (pc' := 197) (l' := [(0, .inr (.inr 406)), (1, .inl a), (2, .inl x2), (3, .inl x3)]) (st' := [.inl (H86.1 407 4), .inr (.inr 24)]) rfl ?_
              refine k_ald (c := 24) (j := ((H86.1 407 4)).toNat) (i := (H86.1 407 4)) (x := kx_24) rfl rfl (by decide) rfl (by decide) (by omega) (by omega) hI87 (fun h104 => ?_)
              obtain ⟨t105, et107⟩ : ∃ t9, t9 = H86.2 24 ((H86.1 407 4)).toNat := ⟨_, rfl⟩
              rw [← et107] at h104 ⊢
              have k106 : isE t105 := h104
              refine k_run 0 (pc' := 198) (l' := [(0, .inr (.inr 406)), (1, .inl a), (2, .inl x2), (3, .inl x3)]) (st' := [.inr (.inr t105)]) rfl ?_
              refine k_run 3 (pc' := 201) (l' := [(0, .inr (.inr 406)), (1, .inl a), (2, .inl x2), (3, .inr (.inr t105))]) (st' := [.inr (.inr t105), .inr (.inr t105)]) rfl ?_
              refine k_get (a := t105) (x := (kEo t105)) (v := .inl (H86.1 t105 6)) rfl rfl k106.1 (iE0 k106) rfl rfl rfl ?_
              have g108 : -2147483648 ≤ (H86.1 t105 6) ∧ (H86.1 t105 6) ≤ 2147483647 := kn hI87 k106.1 6
              have e109 : (H86.1 t105 6) = (H79.1 t105 6) := hw88.2 _ _ (fun q => by have h9 := (iEf k106); rw [q.1] at h9; exact absurd h9 (by decide))
              have e110 : (H79.1 t105 6) = (H1.1 t105 6) := hw81.2 _ _ (fun q => by have h9 := (iEf k106); rw [q.1] at h9; exact absurd h9 (by decide))
              refine k_run 0 (pc' := 204) (l' := [(0, .inr (.inr 406)), (1, .inl a), (2, .inl x2), (3, .inr (.inr t105))]) (st' := [.inl (H86.1 t105 6), .inr (.inr t105)]) rfl ?_
              refine k_run 3 (pc' := 211) (l' := [(0, .inr (.inr 406)), (1, .inl a), (2, .inl x2), (3, .inr (.inr t105))]) (st' := [.inl (H86.1 407 5), .inl (H86.1 t105 6), .inr (.inr t105)]) rfl ?_
              have g111 : 0 ≤ (H86.1 407 5) ∧ (H86.1 407 5) ≤ 1 := kn (x := kx_407) hI87 rfl 5
              have e112 : (H86.1 407 5) = (H79.1 407 5) := hw88.2 _ _ (fun q => absurd q.2 (by decide))
              have e113 : (H79.1 407 5) = (H1.1 407 5) := hw81.2 _ _ (fun q => absurd q.2 (by decide))
              have e114 : (H1.1 407 5) = (H.1 407 5) := (hf1.1 407 5 rfl (by decide) (by decide)).1
              refine h_zeq (off := 7) (t := 218) rfl rfl (by omega) (fun c115 => ?_) (fun c115 => ?_)
              · refine k_run 0 (pc' := 218) (l' := [(0, .inr (.inr 406)), (1, .inl a), (2, .inl x2), (3, .inr (.inr t105))]) (st' := [.inl (H86.1 t105 6), .inr (.inr t105)]) rfl ?_
                refine k_run 1 (pc' := 219) (l' := [(0, .inr (.inr 406)), (1, .inl a), (2, .inl x2), (3, .inr (.inr t105))]) (st' := [.inl 1, .inl (H86.1 t105 6), .inr (.inr t105)]) rfl ?_
                refine k_max (i := 304) (x := (H86.1 t105 6)) (y := 1) rfl rfl (Nat.le_of_ble_eq_true rfl) (by omega) (by omega) (by decide) (fun z116 hz116 => ?_)
                refine k_run 0 (pc' := 222) (l' := [(0, .inr (.inr 406)), (1, .inl a), (2, .inl x2), (3, .inr (.inr t105))]) (st' := [.inl z116, .inr (.inr t105)]) rfl ?_
                refine k_putw (a := t105) (x := (kEo t105)) rfl rfl k106.1 (iE0 k106) k106.2.2.2.2.1 rfl rfl rfl rfl hI87 rfl (fun H117 hI118 hw119 => ?_)
                have hf121 : fq [(407, 2), (407, 3)] [408, 1349] true H H117 := fq_w hf90 hw119 (fpg (iEf k106))
                refine k_run 0 (pc' := 225) (l' := [(0, .inr (.inr 406)), (1, .inl a), (2, .inl x2), (3, .inr (.inr t105))]) (st' := []) rfl ?_
                refine k_run 3 (pc' := 232) (l' := [(0, .inr (.inr 406)), (1, .inl a), (2, .inl x2), (3, .inr (.inr t105))]) (st' := [.inl (H117.1 407 2)]) rfl ?_
                have g122 : 0 ≤ (H117.1 407 2) ∧ (H117.1 407 2) ≤ 12 := kn (x := kx_407) hI118 rfl 2
                have e123 : (H117.1 407 2) = (H86.1 407 2) := hw119.2 _ _ (fun q => by have h9 := (iEf k106); rw [← q.1] at h9; exact absurd h9 (by decide))
                refine h_reti (x := (H117.1 407 2)) rfl rfl ?_
                exact ⟨_, rfl, (by omega), hI118, hf121⟩
              · refine k_run 0 (pc' := 214) (l' := [(0, .inr (.inr 406)), (1, .inl a), (2, .inl x2), (3, .inr (.inr t105))]) (st' := [.inl (H86.1 t105 6), .inr (.inr t105)]) rfl ?_
                refine k_run 2 (pc' := 219) (l' := [(0, .inr (.inr 406)), (1, .inl a), (2, .inl x2), (3, .inr (.inr t105))]) (st' := [.inl 2, .inl (H86.1 t105 6), .inr (.inr t105)]) rfl ?_
                refine k_max (i := 304) (x := (H86.1 t105 6)) (y := 2) rfl rfl (Nat.le_of_ble_eq_true rfl) (by omega) (by omega) (by decide) (fun z124 hz124 => ?_)
                refine k_run 0 (pc' := 222) (l' := [(0, .inr (.inr 406)), (1, .inl a), (2, .inl x2), (3, .inr (.inr t105))]) (st' := [.inl z124, .inr (.inr t105)]) rfl ?_
                refine k_putw (a := t105) (x := (kEo t105)) rfl rfl k106.1 (iE0 k106) k106.2.2.2.2.1 rfl rfl rfl rfl hI87 rfl (fun H125 hI126 hw127 => ?_)
                have hf129 : fq [(407, 2), (407, 3)] [408, 1349] true H H125 := fq_w hf90 hw127 (fpg (iEf k106))
                refine k_run 0 (pc' := 225) (l' := [(0, .inr (.inr 406)), (1, .inl a), (2, .inl x2), (3, .inr (.inr t105))]) (st' := []) rfl ?_
                refine k_run 3 (pc' := 232) (l' := [(0, .inr (.inr 406)), (1, .inl a), (2, .inl x2), (3, .inr (.inr t105))]) (st' := [.inl (H125.1 407 2)]) rfl ?_
                have g130 : 0 ≤ (H125.1 407 2) ∧ (H125.1 407 2) ≤ 12 := kn (x := kx_407) hI126 rfl 2
                have e131 : (H125.1 407 2) = (H86.1 407 2) := hw127.2 _ _ (fun q => by have h9 := (iEf k106); rw [← q.1] at h9; exact absurd h9 (by decide))
                refine h_reti (x := (H125.1 407 2)) rfl rfl ?_
                exact ⟨_, rfl, (by omega), hI126, hf129⟩
        · refine k_run 0 (pc' := 84) (l' := [(0, .inr (.inr 406)), (1, .inl a), (2, .inl x2), (3, .inl x3)]) (st' := []) rfl ?_
          refine k_run 2 (pc' := 87) (l' := [(0, .inr (.inr 406)), (1, .inl a), (2, .inl x2), (3, .inl x3)]) (st' := [.inl 12, .inl x3]) rfl ?_
          refine h_ige (off := 43) (t := 130) rfl rfl (by omega) (by decide) (fun c132 => ?_) (fun c132 => ?_)
          · exfalso
            omega
          · refine k_run 0 (pc' := 90) (l' := [(0, .inr (.inr 406)), (1, .inl a), (2, .inl x2), (3, .inl x3)]) (st' := []) rfl ?_
            refine k_run 4 (pc' := 98) (l' := [(0, .inr (.inr 406)), (1, .inl a), (2, .inl x2), (3, .inl x3)]) (st' := [.inl x3, .inr (.inr 408)]) rfl ?_
            refine k_ald (c := 408) (j := (x3).toNat) (i := x3) (x := kx_408) rfl rfl (by decide) rfl (by decide) (by omega) (by omega) hI1 (fun h133 => ?_)
            obtain ⟨t134, et136⟩ : ∃ t9, t9 = H1.2 408 (x3).toNat := ⟨_, rfl⟩
            rw [← et136] at h133 ⊢
            have k135 : isG t134 := h133
            refine k_run 0 (pc' := 99) (l' := [(0, .inr (.inr 406)), (1, .inl a), (2, .inl x2), (3, .inl x3)]) (st' := [.inr (.inr t134)]) rfl ?_
            refine k_run 8 (pc' := 114) (l' := [(0, .inr (.inr 406)), (1, .inl a), (2, .inl x2), (3, .inl x3), (4, .inr (.inr t134))]) (st' := [.inl x3, .inr (.inr 1349), .inl x3, .inr (.inr 408)]) rfl ?_
            refine k_ald (c := 1349) (j := (x3).toNat) (i := x3) (x := kx_1349) rfl rfl (by decide) rfl (by decide) (by omega) (by omega) hI1 (fun h137 => ?_)
            obtain ⟨t138, et140⟩ : ∃ t9, t9 = H1.2 1349 (x3).toNat := ⟨_, rfl⟩
            rw [← et140] at h137 ⊢
            have k139 : isG t138 := h137
            refine k_run 0 (pc' := 115) (l' := [(0, .inr (.inr 406)), (1, .inl a), (2, .inl x2), (3, .inl x3), (4, .inr (.inr t134))]) (st' := [.inr (.inr t138), .inl x3, .inr (.inr 408)]) rfl ?_
            refine k_ast (c := 408) (j := (x3).toNat) (i := x3) (t := t138) (x := kx_408) (xt := (kGo t138)) rfl rfl (by decide) (by decide) rfl (by decide) (by omega) (by omega) k139.1 (iG0 k139) rfl rfl rfl hI1 (show isG t138 from k139) (fun H141 hI142 hw143 => ?_)
            have hf144 : fq [(407, 2), (407, 3)] [408, 1349] true H H141 := fq_r hf1 hw143 (fpa (by decide) rfl)
            refine k_run 0 (pc' := 116) (l' := [(0, .inr (.inr 406)), (1, .inl a), (2, .inl x2), (3, .inl x3), (4, .inr (.inr t134))]) (st' := []) rfl ?_
            refine k_run 4 (pc' := 123) (l' := [(0, .inr (.inr 406)), (1, .inl a), (2, .inl x2), (3, .inl x3), (4, .inr (.inr t134))]) (st' := [.inr (.inr t134), .inl x3, .inr (.inr 1349)]) rfl ?_
            refine k_ast (c := 1349) (j := (x3).toNat) (i := x3) (t := t134) (x := kx_1349) (xt := (kGo t134)) rfl rfl (by decide) (by decide) rfl (by decide) (by omega) (by omega) k135.1 (iG0 k135) rfl rfl rfl hI142 (show isG t134 from k135) (fun H145 hI146 hw147 => ?_)
            have hf148 : fq [(407, 2), (407, 3)] [408, 1349] true H H145 := fq_r hf144 hw147 (fpa (by decide) rfl)
            refine k_run 0 (pc' := 124) (l' := [(0, .inr (.inr 406)), (1, .inl a), (2, .inl x2), (3, .inl x3), (4, .inr (.inr t134))]) (st' := []) rfl ?_
            refine k_run 2 (pc' := 70) (l' := [(0, .inr (.inr 406)), (1, .inl a), (2, .inl x2), (3, .inl (x3 + 1)), (4, .inr (.inr t134))]) (st' := []) rfl ?_
            have g149 : 0 ≤ (H145.1 407 2) ∧ (H145.1 407 2) ≤ 12 := kn (x := kx_407) hI146 rfl 2
            have e150 : (H145.1 407 2) = (H141.1 407 2) := congrFun (congrFun hw147.1 _) _
            have e151 : (H141.1 407 2) = (H1.1 407 2) := congrFun (congrFun hw143.1 _) _
            refine h_loc [0, 1, 2, 3] rfl ?_
            exact ih.2.2 H145 hI146 hf148 x2 (x3 + 1) (by omega) (by omega) (by omega) (by omega) (by omega) (by omega)
set_option maxRecDepth 100000 in
theorem k_Prover_putGoals {d : Nat} (hd : 2 ≤ d) {H : hp} (hI : Inv H) {a : Int} (ha : -2147483648 ≤ a ∧ a ≤ 2147483647) (hp0 : 0 ≤ a ∧ a ≤ 12) (hp1 : 1 ≤ H.1 407 2) (hp2 : H.1 407 2 - 1 + a ≤ 12) : hG (zs zK) d mt_136 0 (zargs 0 [.inr (.inr 406), .inl a]) [] H (fun r9 H9 => ∃ z : Int, r9 = some (.inl z) ∧ ((-2147483648 ≤ z ∧ z ≤ 2147483647) ∧ (0 ≤ z ∧ z ≤ 12)) ∧ Inv H9 ∧ fq [(407, 2), (407, 3)] [408, 1349] true H H9) := by
  refine k_run 0 (pc' := 0) (l' := [(0, .inr (.inr 406)), (1, .inl a)]) (st' := []) rfl ?_
  refine k_run 5 (pc' := 5) (l' := [(0, .inr (.inr 406)), (1, .inl a), (2, .inl (a - 1))]) (st' := [.inl a]) rfl ?_
  refine h_zne (off := 30) (t := 35) rfl rfl (by omega) (fun c1 => ?_) (fun c1 => ?_)
  · refine k_run 0 (pc' := 35) (l' := [(0, .inr (.inr 406)), (1, .inl a), (2, .inl (a - 1))]) (st' := []) rfl ?_
    refine k_run 3 (pc' := 42) (l' := [(0, .inr (.inr 406)), (1, .inl a), (2, .inl (a - 1))]) (st' := [.inl (H.1 407 2)]) rfl ?_
    have g2 : 0 ≤ (H.1 407 2) ∧ (H.1 407 2) ≤ 12 := kn (x := kx_407) hI rfl 2
    refine k_run 3 (pc' := 45) (l' := [(0, .inr (.inr 406)), (1, .inl a), (2, .inl (a - 1)), (3, .inl ((H.1 407 2) - 1))]) (st' := []) rfl ?_
    exact (k_Prover_putGoals_cut hd hI ha hp0 hp1 hp2 _).2.1 H hI (fq_rf _ _ _ _) (a - 1) ((H.1 407 2) - 1) (by omega) (by omega) (by omega) (by omega) (by omega) (Nat.lt_succ_self _)
  · refine k_run 0 (pc' := 8) (l' := [(0, .inr (.inr 406)), (1, .inl a), (2, .inl (a - 1))]) (st' := []) rfl ?_
    refine k_run 2 (pc' := 10) (l' := [(0, .inr (.inr 406)), (1, .inl a), (2, .inl (a - 1)), (3, .inl 1)]) (st' := []) rfl ?_
    have g3 : 0 ≤ (H.1 407 2) ∧ (H.1 407 2) ≤ 12 := kn (x := kx_407) hI rfl 2
    exact (k_Prover_putGoals_cut hd hI ha hp0 hp1 hp2 _).1 H hI (fq_rf _ _ _ _) (a - 1) (1 : Int) (by omega) (by decide) (by omega) (by omega) (by omega) (Nat.lt_succ_self _)
