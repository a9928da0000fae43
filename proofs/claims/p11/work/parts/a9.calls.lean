/-! the class: rows that make goals, the search -/
/-! Prover.dropSame -/
set_option maxRecDepth 100000 in
theorem k_Prover_dropSame {d : Nat} (hd : 3 ≤ d) {H : hp} (hI : Inv H)  (hp0 : 1 ≤ H.1 407 2) : hG (zs zK) d mt_134 0 (zargs 0 [.inr (.inr 406)]) [] H (fun r9 H9 => ∃ z : Int, r9 = some (.inl z) ∧ ((-2147483648 ≤ z ∧ z ≤ 2147483647) ∧ (0 ≤ z ∨ H9.1 407 2 = H.1 407 2)) ∧ Inv H9 ∧ fq [(407, 2), (407, 3)] [408, 1349] true H H9) := by
  refine k_run 0 (pc' := 0) (l' := [(0, .inr (.inr 406))]) (st' := []) rfl ?_
  refine k_run 4 (pc' := 8) (l' := [(0, .inr (.inr 406))]) (st' := [.inl 0, .inr (.inr 408)]) rfl ?_
  refine k_ald (c := 408) (j := 0) (i := 0) (x := kx_408) rfl rfl (by decide) rfl (by decide) rfl (by decide) hI (fun h1 => ?_)
  obtain ⟨t2, et4⟩ : ∃ t9, t9 = H.2 408 0 := ⟨_, rfl⟩
  rw [← et4] at h1 ⊢
  have k3 : isG t2 := h1
  refine k_run 0 (pc' := 9) (l' := [(0, .inr (.inr 406))]) (st' := [.inr (.inr t2)]) rfl ?_
  refine k_run 2 (pc' := 11) (l' := [(0, .inr (.inr 406)), (1, .inr (.inr t2))]) (st' := [.inr (.inr t2)]) rfl ?_
  refine k_get (a := t2) (x := (kGo t2)) (v := .inr (.inr (t2 + 1))) rfl rfl k3.1 (iG0 k3) rfl rfl rfl ?_
  refine k_run 0 (pc' := 14) (l' := [(0, .inr (.inr 406)), (1, .inr (.inr t2))]) (st' := [.inr (.inr (t2 + 1))]) rfl ?_
  refine k_run 1 (pc' := 15) (l' := [(0, .inr (.inr 406)), (1, .inr (.inr t2))]) (st' := [.inl 0, .inr (.inr (t2 + 1))]) rfl ?_
  refine k_ald (c := (t2 + 1)) (j := 0) (i := 0) (x := kGt) rfl k3.2.1 (iG1 k3) rfl (by decide) rfl (by decide) hI (fun h5 => ?_)
  obtain ⟨t6, et8⟩ : ∃ t9, t9 = H.2 (t2 + 1) 0 := ⟨_, rfl⟩
  rw [← et8] at h5 ⊢
  obtain ⟨n9, k7⟩ := (show (∃ n, isT t6 n) ∧ 369 < t6 from h5).1
  have k7b := k7.2.2.2.2
  refine k_run 0 (pc' := 16) (l' := [(0, .inr (.inr 406)), (1, .inr (.inr t2))]) (st' := [.inr (.inr t6)]) rfl ?_
  refine k_run 1 (pc' := 17) (l' := [(0, .inr (.inr 406)), (1, .inr (.inr t2))]) (st' := [.inr (.inr t2), .inr (.inr t6)]) rfl ?_
  refine k_get (a := t2) (x := (kGo t2)) (v := .inr (.inr (t2 + 1))) rfl rfl k3.1 (iG0 k3) rfl rfl rfl ?_
  refine k_run 0 (pc' := 20) (l' := [(0, .inr (.inr 406)), (1, .inr (.inr t2))]) (st' := [.inr (.inr (t2 + 1)), .inr (.inr t6)]) rfl ?_
  refine k_run 1 (pc' := 21) (l' := [(0, .inr (.inr 406)), (1, .inr (.inr t2))]) (st' := [.inl 1, .inr (.inr (t2 + 1)), .inr (.inr t6)]) rfl ?_
  refine k_ald (c := (t2 + 1)) (j := 1) (i := 1) (x := kGt) rfl k3.2.1 (iG1 k3) rfl (by decide) rfl (by decide) hI (fun h10 => ?_)
  obtain ⟨t11, et13⟩ : ∃ t9, t9 = H.2 (t2 + 1) 1 := ⟨_, rfl⟩
  rw [← et13] at h10 ⊢
  obtain ⟨n14, k12⟩ := (show (∃ n, isT t11 n) ∧ 369 < t11 from h10).1
  have k12b := k12.2.2.2.2
  refine k_run 0 (pc' := 22) (l' := [(0, .inr (.inr 406)), (1, .inr (.inr t2))]) (st' := [.inr (.inr t11), .inr (.inr t6)]) rfl ?_
  refine h_cv (i := 294) (j := 57) (b := t6) (M' := mt_57) (xs := [.inr (.inr t11)]) (rest := []) rfl rfl rfl rfl (by rw [zs_K k7.1 (iT0 k7)]; rfl) rfl (Nat.le_of_ble_eq_true rfl) (Nat.le_of_ble_eq_true rfl) (by omega) (k_Term_isLike (by omega) hI k7 k12) ?_
  rintro _ _ ⟨z19, rfl, g15, rfl⟩
  refine k_run 0 (pc' := 25) (l' := [(0, .inr (.inr 406)), (1, .inr (.inr t2))]) (st' := [.inl z19]) rfl ?_
  refine h_zeq (off := 11) (t := 36) rfl rfl (by omega) (fun c20 => ?_) (fun c20 => ?_)
  · refine k_run 0 (pc' := 36) (l' := [(0, .inr (.inr 406)), (1, .inr (.inr t2))]) (st' := []) rfl ?_
    refine k_run 1 (pc' := 38) (l' := [(0, .inr (.inr 406)), (1, .inr (.inr t2))]) (st' := [.inl (-104)]) rfl ?_
    refine h_reti (x := (-104)) rfl rfl ?_
    have g21 : 0 ≤ (H.1 407 2) ∧ (H.1 407 2) ≤ 12 := kn (x := kx_407) hI rfl 2
    exact ⟨_, rfl, (by omega), hI, (fq_rf _ _ _ _)⟩
  · refine k_run 0 (pc' := 28) (l' := [(0, .inr (.inr 406)), (1, .inr (.inr t2))]) (st' := []) rfl ?_
    refine k_run 2 (pc' := 30) (l' := [(0, .inr (.inr 406)), (1, .inr (.inr t2))]) (st' := [.inl 0, .inr (.inr 406)]) rfl ?_
    have g22 : 0 ≤ (H.1 407 2) ∧ (H.1 407 2) ≤ 12 := kn (x := kx_407) hI rfl 2
    refine h_cv (i := 271) (j := 136) (b := 406) (M' := mt_136) (xs := [.inl 0]) (rest := []) rfl rfl rfl rfl (zs_K (x := kx_406) rfl (by decide)) rfl (Nat.le_of_ble_eq_true rfl) (Nat.le_of_ble_eq_true rfl) (by omega) (k_Prover_putGoals (by omega) hI (by decide) (by omega) (by omega) (by omega)) ?_
    rintro _ H24 ⟨z27, rfl, g23, hI25, hq26⟩
    have hf28 : fq [(407, 2), (407, 3)] [408, 1349] true H H24 := fq_t (fq_rf _ _ _ _) hq26 rfl rfl rfl
    refine k_run 0 (pc' := 33) (l' := [(0, .inr (.inr 406)), (1, .inr (.inr t2))]) (st' := [.inl z27]) rfl ?_
    refine k_run 1 (pc' := 38) (l' := [(0, .inr (.inr 406)), (1, .inr (.inr t2))]) (st' := [.inl z27]) rfl ?_
    refine h_reti (x := z27) rfl rfl ?_
    have g29 : 0 ≤ (H24.1 407 2) ∧ (H24.1 407 2) ≤ 12 := kn (x := kx_407) hI25 rfl 2
    exact ⟨_, rfl, (by omega), hI25, hf28⟩

/-! Prover.takeApart -/
set_option maxRecDepth 100000 in
theorem k_Prover_takeApart_cut {d : Nat} (hd : 3 ≤ d) {H : hp} (hI : Inv H)  (hp0 : 1 ≤ H.1 407 2) : ∀ w : Nat, (∀ (H1 : hp), Inv H1 → fq [(407, 2), (407, 3)] [408, 1349] true H H1 → ∀ (g1 : Nat) (x2 : Int) (x3 : Int) (x4 : Int) (x5 : Int) (x6 : Int) , (isG g1) → (-2147483648 ≤ x2 ∧ x2 ≤ 2147483647) → (-2147483648 ≤ x3 ∧ x3 ≤ 2147483647) → (-2147483648 ≤ x4 ∧ x4 ≤ 2147483647) → (-2147483648 ≤ x5 ∧ x5 ≤ 2147483647) → (-2147483648 ≤ x6 ∧ x6 ≤ 2147483647) → (0 ≤ x3 ∧ x3 ≤ 7) → (1 ≤ x4) → (1 ≤ x5) → (0 ≤ x6) → (H1.1 407 2 = H.1 407 2) → (H.1 407 2 - 1 + x3 ≤ 12) → (((100 - x6).toNat) < w) → hG (zs zK) d mt_135 79 [(0, .inr (.inr 406)), (1, .inr (.inr g1)), (2, .inl x2), (3, .inl x3), (4, .inl x4), (5, .inl x5), (6, .inl x6)] [] H1 (fun r9 H9 => ∃ z : Int, r9 = some (.inl z) ∧ ((-2147483648 ≤ z ∧ z ≤ 2147483647) ∧ (0 ≤ z ∨ H9.1 407 2 = H.1 407 2)) ∧ Inv H9 ∧ fq [(407, 2), (407, 3)] [408, 1349] true H H9)) := by
  intro w
  induction w with
  | zero => exact fun _ _ _ _ _ _ _ _ _ _ _ _ _ _ _ _ _ _ _ _ _ h => absurd h (Nat.not_lt_zero _)
  | succ w ih =>
    intro H1 hI1 hf1 g1 x2 x3 x4 x5 x6 hG1 hx2 hx3 hx4 hx5 hx6 hi0 hi1 hi2 hi3 hi4 hi5 hw
    have g37 : 0 ≤ (H1.1 407 2) ∧ (H1.1 407 2) ≤ 12 := kn (x := kx_407) hI1 rfl 2
    refine k_run 2 (pc' := 82) (l' := [(0, .inr (.inr 406)), (1, .inr (.inr g1)), (2, .inl x2), (3, .inl x3), (4, .inl x4), (5, .inl x5), (6, .inl x6)]) (st' := [.inl x3, .inl x6]) rfl ?_
    refine h_ige (off := 142) (t := 224) rfl rfl (by omega) (by omega) (fun c38 => ?_) (fun c38 => ?_)
    · refine k_run 0 (pc' := 224) (l' := [(0, .inr (.inr 406)), (1, .inr (.inr g1)), (2, .inl x2), (3, .inl x3), (4, .inl x4), (5, .inl x5), (6, .inl x6)]) (st' := []) rfl ?_
      refine k_run 2 (pc' := 226) (l' := [(0, .inr (.inr 406)), (1, .inr (.inr g1)), (2, .inl x2), (3, .inl x3), (4, .inl x4), (5, .inl x5), (6, .inl x6)]) (st' := [.inl x3, .inr (.inr 406)]) rfl ?_
      refine h_cv (i := 271) (j := 136) (b := 406) (M' := mt_136) (xs := [.inl x3]) (rest := []) rfl rfl rfl rfl (zs_K (x := kx_406) rfl (by decide)) rfl (Nat.le_of_ble_eq_true rfl) (Nat.le_of_ble_eq_true rfl) (by omega) (k_Prover_putGoals (by omega) hI1 (by omega) (by omega) (by omega) (by omega)) ?_
      rintro _ H40 ⟨z43, rfl, g39, hI41, hq42⟩
      have hf44 : fq [(407, 2), (407, 3)] [408, 1349] true H H40 := fq_t hf1 hq42 rfl rfl rfl
      refine k_run 0 (pc' := 229) (l' := [(0, .inr (.inr 406)), (1, .inr (.inr g1)), (2, .inl x2), (3, .inl x3), (4, .inl x4), (5, .inl x5), (6, .inl x6)]) (st' := [.inl z43]) rfl ?_
      refine h_reti (x := z43) rfl rfl ?_
      have g45 : 0 ≤ (H40.1 407 2) ∧ (H40.1 407 2) ≤ 12 := kn (x := kx_407) hI41 rfl 2
      exact ⟨_, rfl, (by omega), hI41, hf44⟩
    · refine k_run 0 (pc' := 85) (l' := [(0, .inr (.inr 406)), (1, .inr (.inr g1)), (2, .inl x2), (3, .inl x3), (4, .inl x4), (5, .inl x5), (6, .inl x6)]) (st' := []) rfl ?_
      refine k_run 3 (pc' := 91) (l' := [(0, .inr (.inr 406)), (1, .inr (.inr g1)), (2, .inl x2), (3, .inl x3), (4, .inl x4), (5, .inl x5), (6, .inl x6)]) (st' := [.inr (.inr 1349), .inl x6]) rfl ?_
      refine k_alen (c := 1349) (x := kx_1349) rfl rfl (by decide) rfl ?_
      refine k_run 0 (pc' := 92) (l' := [(0, .inr (.inr 406)), (1, .inr (.inr g1)), (2, .inl x2), (3, .inl x3), (4, .inl x4), (5, .inl x5), (6, .inl x6)]) (st' := [.inl 12, .inl x6]) rfl ?_
      refine h_ige (off := 132) (t := 224) rfl rfl (by omega) (by decide) (fun c46 => ?_) (fun c46 => ?_)
      · refine k_run 0 (pc' := 224) (l' := [(0, .inr (.inr 406)), (1, .inr (.inr g1)), (2, .inl x2), (3, .inl x3), (4, .inl x4), (5, .inl x5), (6, .inl x6)]) (st' := []) rfl ?_
        refine k_run 2 (pc' := 226) (l' := [(0, .inr (.inr 406)), (1, .inr (.inr g1)), (2, .inl x2), (3, .inl x3), (4, .inl x4), (5, .inl x5), (6, .inl x6)]) (st' := [.inl x3, .inr (.inr 406)]) rfl ?_
        refine h_cv (i := 271) (j := 136) (b := 406) (M' := mt_136) (xs := [.inl x3]) (rest := []) rfl rfl rfl rfl (zs_K (x := kx_406) rfl (by decide)) rfl (Nat.le_of_ble_eq_true rfl) (Nat.le_of_ble_eq_true rfl) (by omega) (k_Prover_putGoals (by omega) hI1 (by omega) (by omega) (by omega) (by omega)) ?_
        rintro _ H48 ⟨z51, rfl, g47, hI49, hq50⟩
        have hf52 : fq [(407, 2), (407, 3)] [408, 1349] true H H48 := fq_t hf1 hq50 rfl rfl rfl
        refine k_run 0 (pc' := 229) (l' := [(0, .inr (.inr 406)), (1, .inr (.inr g1)), (2, .inl x2), (3, .inl x3), (4, .inl x4), (5, .inl x5), (6, .inl x6)]) (st' := [.inl z51]) rfl ?_
        refine h_reti (x := z51) rfl rfl ?_
        have g53 : 0 ≤ (H48.1 407 2) ∧ (H48.1 407 2) ≤ 12 := kn (x := kx_407) hI49 rfl 2
        exact ⟨_, rfl, (by omega), hI49, hf52⟩
      · refine k_run 0 (pc' := 95) (l' := [(0, .inr (.inr 406)), (1, .inr (.inr g1)), (2, .inl x2), (3, .inl x3), (4, .inl x4), (5, .inl x5), (6, .inl x6)]) (st' := []) rfl ?_
        refine k_run 3 (pc' := 101) (l' := [(0, .inr (.inr 406)), (1, .inr (.inr g1)), (2, .inl x2), (3, .inl x3), (4, .inl x4), (5, .inl x5), (6, .inl x6)]) (st' := [.inl x6, .inr (.inr 1349)]) rfl ?_
        refine k_ald (c := 1349) (j := (x6).toNat) (i := x6) (x := kx_1349) rfl rfl (by decide) rfl (by decide) (by omega) (by omega) hI1 (fun h54 => ?_)
        obtain ⟨t55, et57⟩ : ∃ t9, t9 = H1.2 1349 (x6).toNat := ⟨_, rfl⟩
        rw [← et57] at h54 ⊢
        have k56 : isG t55 := h54
        refine k_run 0 (pc' := 102) (l' := [(0, .inr (.inr 406)), (1, .inr (.inr g1)), (2, .inl x2), (3, .inl x3), (4, .inl x4), (5, .inl x5), (6, .inl x6)]) (st' := [.inr (.inr t55)]) rfl ?_
        refine k_run 3 (pc' := 107) (l' := [(0, .inr (.inr 406)), (1, .inr (.inr g1)), (2, .inl x2), (3, .inl x3), (4, .inl x4), (5, .inl x5), (6, .inl x6), (7, .inr (.inr t55))]) (st' := [.inr (.inr g1), .inr (.inr t55)]) rfl ?_
        refine h_cv (i := 283) (j := 150) (b := t55) (M' := mt_150) (xs := [.inr (.inr g1)]) (rest := []) rfl rfl rfl rfl (by rw [zs_K k56.1 (iG0 k56)]; rfl) rfl (Nat.le_of_ble_eq_true rfl) (Nat.le_of_ble_eq_true rfl) (by omega) (k_Goal_copyRest (by omega) hI1 k56 hG1) ?_
        rintro _ H59 ⟨rfl, hI60, hq61⟩
        have hf62 : fq [(407, 2), (407, 3)] [408, 1349] true H H59 := fq_t hf1 hq61 rfl rfl rfl
        refine k_run 0 (pc' := 110) (l' := [(0, .inr (.inr 406)), (1, .inr (.inr g1)), (2, .inl x2), (3, .inl x3), (4, .inl x4), (5, .inl x5), (6, .inl x6), (7, .inr (.inr t55))]) (st' := []) rfl ?_
        refine k_run 1 (pc' := 112) (l' := [(0, .inr (.inr 406)), (1, .inr (.inr g1)), (2, .inl x2), (3, .inl x3), (4, .inl x4), (5, .inl x5), (6, .inl x6), (7, .inr (.inr t55))]) (st' := [.inr (.inr t55)]) rfl ?_
        refine k_get (a := t55) (x := (kGo t55)) (v := .inr (.inr (t55 + 1))) rfl rfl k56.1 (iG0 k56) rfl rfl rfl ?_
        refine k_run 0 (pc' := 115) (l' := [(0, .inr (.inr 406)), (1, .inr (.inr g1)), (2, .inl x2), (3, .inl x3), (4, .inl x4), (5, .inl x5), (6, .inl x6), (7, .inr (.inr t55))]) (st' := [.inr (.inr (t55 + 1))]) rfl ?_
        refine k_run 1 (pc' := 116) (l' := [(0, .inr (.inr 406)), (1, .inr (.inr g1)), (2, .inl x2), (3, .inl x3), (4, .inl x4), (5, .inl x5), (6, .inl x6), (7, .inr (.inr t55))]) (st' := [.inl 0, .inr (.inr (t55 + 1))]) rfl ?_
        refine k_ald (c := (t55 + 1)) (j := 0) (i := 0) (x := kGt) rfl k56.2.1 (iG1 k56) rfl (by decide) rfl (by decide) hI60 (fun h63 => ?_)
        obtain ⟨t64, et66⟩ : ∃ t9, t9 = H59.2 (t55 + 1) 0 := ⟨_, rfl⟩
        rw [← et66] at h63 ⊢
        obtain ⟨n67, k65⟩ := (show (∃ n, isT t64 n) ∧ 369 < t64 from h63).1
        have k65b := k65.2.2.2.2
        refine k_run 0 (pc' := 117) (l' := [(0, .inr (.inr 406)), (1, .inr (.inr g1)), (2, .inl x2), (3, .inl x3), (4, .inl x4), (5, .inl x5), (6, .inl x6), (7, .inr (.inr t55))]) (st' := [.inr (.inr t64)]) rfl ?_
        refine k_run 1 (pc' := 118) (l' := [(0, .inr (.inr 406)), (1, .inr (.inr g1)), (2, .inl x2), (3, .inl x3), (4, .inl x4), (5, .inl x5), (6, .inl x6), (7, .inr (.inr t55))]) (st' := [.inl 0, .inr (.inr t64)]) rfl ?_
        refine k_puti (z := 0) (a := t64) (x := (kTo t64 n67)) rfl rfl k65.1 (iT0 k65) k65.2.2.1 rfl rfl rfl rfl hI60 (by decide) (show 0 ≤ (0 : Int) ∧ (0 : Int) ≤ n67 by omega) (fun H68 hI69 hw70 hv71 => ?_)
        have hf72 : fq [(407, 2), (407, 3)] [408, 1349] true H H68 := fq_w hf62 hw70 (fpT k65)
        refine k_run 0 (pc' := 121) (l' := [(0, .inr (.inr 406)), (1, .inr (.inr g1)), (2, .inl x2), (3, .inl x3), (4, .inl x4), (5, .inl x5), (6, .inl x6), (7, .inr (.inr t55))]) (st' := []) rfl ?_
        refine k_run 1 (pc' := 123) (l' := [(0, .inr (.inr 406)), (1, .inr (.inr g1)), (2, .inl x2), (3, .inl x3), (4, .inl x4), (5, .inl x5), (6, .inl x6), (7, .inr (.inr t55))]) (st' := [.inr (.inr t55)]) rfl ?_
        refine k_get (a := t55) (x := (kGo t55)) (v := .inr (.inr (t55 + 1))) rfl rfl k56.1 (iG0 k56) rfl rfl rfl ?_
        refine k_run 0 (pc' := 126) (l' := [(0, .inr (.inr 406)), (1, .inr (.inr g1)), (2, .inl x2), (3, .inl x3), (4, .inl x4), (5, .inl x5), (6, .inl x6), (7, .inr (.inr t55))]) (st' := [.inr (.inr (t55 + 1))]) rfl ?_
        refine k_run 1 (pc' := 127) (l' := [(0, .inr (.inr 406)), (1, .inr (.inr g1)), (2, .inl x2), (3, .inl x3), (4, .inl x4), (5, .inl x5), (6, .inl x6), (7, .inr (.inr t55))]) (st' := [.inl 0, .inr (.inr (t55 + 1))]) rfl ?_
        refine k_ald (c := (t55 + 1)) (j := 0) (i := 0) (x := kGt) rfl k56.2.1 (iG1 k56) rfl (by decide) rfl (by decide) hI69 (fun h73 => ?_)
        obtain ⟨t74, et76⟩ : ∃ t9, t9 = H68.2 (t55 + 1) 0 := ⟨_, rfl⟩
        rw [← et76] at h73 ⊢
        obtain ⟨n77, k75⟩ := (show (∃ n, isT t74 n) ∧ 369 < t74 from h73).1
        have k75b := k75.2.2.2.2
        refine k_run 0 (pc' := 128) (l' := [(0, .inr (.inr 406)), (1, .inr (.inr g1)), (2, .inl x2), (3, .inl x3), (4, .inl x4), (5, .inl x5), (6, .inl x6), (7, .inr (.inr t55))]) (st' := [.inr (.inr t74)]) rfl ?_
        refine k_run 1 (pc' := 129) (l' := [(0, .inr (.inr 406)), (1, .inr (.inr g1)), (2, .inl x2), (3, .inl x3), (4, .inl x4), (5, .inl x5), (6, .inl x6), (7, .inr (.inr t55))]) (st' := [.inr (.inr g1), .inr (.inr t74)]) rfl ?_
        refine k_get (a := g1) (x := (kGo g1)) (v := .inr (.inr (g1 + 1))) rfl rfl hG1.1 (iG0 hG1) rfl rfl rfl ?_
        refine k_run 0 (pc' := 132) (l' := [(0, .inr (.inr 406)), (1, .inr (.inr g1)), (2, .inl x2), (3, .inl x3), (4, .inl x4), (5, .inl x5), (6, .inl x6), (7, .inr (.inr t55))]) (st' := [.inr (.inr (g1 + 1)), .inr (.inr t74)]) rfl ?_
        refine k_run 1 (pc' := 133) (l' := [(0, .inr (.inr 406)), (1, .inr (.inr g1)), (2, .inl x2), (3, .inl x3), (4, .inl x4), (5, .inl x5), (6, .inl x6), (7, .inr (.inr t55))]) (st' := [.inl 0, .inr (.inr (g1 + 1)), .inr (.inr t74)]) rfl ?_
        refine k_ald (c := (g1 + 1)) (j := 0) (i := 0) (x := kGt) rfl hG1.2.1 (iG1 hG1) rfl (by decide) rfl (by decide) hI69 (fun h78 => ?_)
        obtain ⟨t79, et81⟩ : ∃ t9, t9 = H68.2 (g1 + 1) 0 := ⟨_, rfl⟩
        rw [← et81] at h78 ⊢
        obtain ⟨n82, k80⟩ := (show (∃ n, isT t79 n) ∧ 369 < t79 from h78).1
        have k80b := k80.2.2.2.2
        refine k_run 0 (pc' := 134) (l' := [(0, .inr (.inr 406)), (1, .inr (.inr g1)), (2, .inl x2), (3, .inl x3), (4, .inl x4), (5, .inl x5), (6, .inl x6), (7, .inr (.inr t55))]) (st' := [.inr (.inr t79), .inr (.inr t74)]) rfl ?_
        refine k_run 2 (pc' := 137) (l' := [(0, .inr (.inr 406)), (1, .inr (.inr g1)), (2, .inl x2), (3, .inl x3), (4, .inl x4), (5, .inl x5), (6, .inl x6), (7, .inr (.inr t55))]) (st' := [.inr (.inr g1), .inl x4, .inr (.inr t79), .inr (.inr t74)]) rfl ?_
        refine k_get (a := g1) (x := (kGo g1)) (v := .inr (.inr (g1 + 1))) rfl rfl hG1.1 (iG0 hG1) rfl rfl rfl ?_
        refine k_run 0 (pc' := 140) (l' := [(0, .inr (.inr 406)), (1, .inr (.inr g1)), (2, .inl x2), (3, .inl x3), (4, .inl x4), (5, .inl x5), (6, .inl x6), (7, .inr (.inr t55))]) (st' := [.inr (.inr (g1 + 1)), .inl x4, .inr (.inr t79), .inr (.inr t74)]) rfl ?_
        refine k_run 1 (pc' := 141) (l' := [(0, .inr (.inr 406)), (1, .inr (.inr g1)), (2, .inl x2), (3, .inl x3), (4, .inl x4), (5, .inl x5), (6, .inl x6), (7, .inr (.inr t55))]) (st' := [.inl 0, .inr (.inr (g1 + 1)), .inl x4, .inr (.inr t79), .inr (.inr t74)]) rfl ?_
        refine k_ald (c := (g1 + 1)) (j := 0) (i := 0) (x := kGt) rfl hG1.2.1 (iG1 hG1) rfl (by decide) rfl (by decide) hI69 (fun h83 => ?_)
        rw [← et81]
        refine k_run 0 (pc' := 142) (l' := [(0, .inr (.inr 406)), (1, .inr (.inr g1)), (2, .inl x2), (3, .inl x3), (4, .inl x4), (5, .inl x5), (6, .inl x6), (7, .inr (.inr t55))]) (st' := [.inr (.inr t79), .inl x4, .inr (.inr t79), .inr (.inr t74)]) rfl ?_
        refine k_run 1 (pc' := 144) (l' := [(0, .inr (.inr 406)), (1, .inr (.inr g1)), (2, .inl x2), (3, .inl x3), (4, .inl x4), (5, .inl x5), (6, .inl x6), (7, .inr (.inr t55))]) (st' := [.inl x4, .inr (.inr t79), .inl x4, .inr (.inr t79), .inr (.inr t74)]) rfl ?_
        refine h_cv (i := 77) (j := 53) (b := t79) (M' := mt_53) (xs := [.inl x4]) (rest := [.inl x4, .inr (.inr t79), .inr (.inr t74)]) rfl rfl rfl rfl (by rw [zs_K k80.1 (iT0 k80)]; rfl) rfl (Nat.le_of_ble_eq_true rfl) (Nat.le_of_ble_eq_true rfl) (by omega) (k_Term_behind (by omega) hI69 k80 (by omega)) ?_
        rintro _ _ ⟨z88, rfl, g84, rfl⟩
        refine k_run 0 (pc' := 147) (l' := [(0, .inr (.inr 406)), (1, .inr (.inr g1)), (2, .inl x2), (3, .inl x3), (4, .inl x4), (5, .inl x5), (6, .inl x6), (7, .inr (.inr t55))]) (st' := [.inl z88, .inl x4, .inr (.inr t79), .inr (.inr t74)]) rfl ?_
        refine h_cv (i := 224) (j := 54) (b := t74) (M' := mt_54) (xs := [.inl z88, .inl x4, .inr (.inr t79)]) (rest := []) rfl rfl rfl rfl (by rw [zs_K k75.1 (iT0 k75)]; rfl) rfl (Nat.le_of_ble_eq_true rfl) (Nat.le_of_ble_eq_true rfl) (by omega) (k_Term_append (by omega) hI69 k75 k80 (by omega) (by omega) (by omega)) ?_
        rintro _ H90 ⟨z93, rfl, g89, hI91, hq92⟩
        have hf94 : fq [(407, 2), (407, 3)] [408, 1349] true H H90 := fq_t hf72 hq92 rfl rfl rfl
        refine k_run 0 (pc' := 150) (l' := [(0, .inr (.inr 406)), (1, .inr (.inr g1)), (2, .inl x2), (3, .inl x3), (4, .inl x4), (5, .inl x5), (6, .inl x6), (7, .inr (.inr t55))]) (st' := [.inl z93]) rfl ?_
        refine k_run 2 (pc' := 153) (l' := [(0, .inr (.inr 406)), (1, .inr (.inr g1)), (2, .inl x2), (3, .inl x3), (4, .inl x4), (5, .inl x5), (6, .inl x6), (7, .inr (.inr t55))]) (st' := [.inr (.inr t55)]) rfl ?_
        refine k_get (a := t55) (x := (kGo t55)) (v := .inr (.inr (t55 + 1))) rfl rfl k56.1 (iG0 k56) rfl rfl rfl ?_
        refine k_run 0 (pc' := 156) (l' := [(0, .inr (.inr 406)), (1, .inr (.inr g1)), (2, .inl x2), (3, .inl x3), (4, .inl x4), (5, .inl x5), (6, .inl x6), (7, .inr (.inr t55))]) (st' := [.inr (.inr (t55 + 1))]) rfl ?_
        refine k_run 1 (pc' := 157) (l' := [(0, .inr (.inr 406)), (1, .inr (.inr g1)), (2, .inl x2), (3, .inl x3), (4, .inl x4), (5, .inl x5), (6, .inl x6), (7, .inr (.inr t55))]) (st' := [.inl 1, .inr (.inr (t55 + 1))]) rfl ?_
        refine k_ald (c := (t55 + 1)) (j := 1) (i := 1) (x := kGt) rfl k56.2.1 (iG1 k56) rfl (by decide) rfl (by decide) hI91 (fun h95 => ?_)
        obtain ⟨t96, et98⟩ : ∃ t9, t9 = H90.2 (t55 + 1) 1 := ⟨_, rfl⟩
        rw [← et98] at h95 ⊢
        obtain ⟨n99, k97⟩ := (show (∃ n, isT t96 n) ∧ 369 < t96 from h95).1
        have k97b := k97.2.2.2.2
        refine k_run 0 (pc' := 158) (l' := [(0, .inr (.inr 406)), (1, .inr (.inr g1)), (2, .inl x2), (3, .inl x3), (4, .inl x4), (5, .inl x5), (6, .inl x6), (7, .inr (.inr t55))]) (st' := [.inr (.inr t96)]) rfl ?_
        refine k_run 1 (pc' := 159) (l' := [(0, .inr (.inr 406)), (1, .inr (.inr g1)), (2, .inl x2), (3, .inl x3), (4, .inl x4), (5, .inl x5), (6, .inl x6), (7, .inr (.inr t55))]) (st' := [.inl 0, .inr (.inr t96)]) rfl ?_
        refine k_puti (z := 0) (a := t96) (x := (kTo t96 n99)) rfl rfl k97.1 (iT0 k97) k97.2.2.1 rfl rfl rfl rfl hI91 (by decide) (show 0 ≤ (0 : Int) ∧ (0 : Int) ≤ n99 by omega) (fun H100 hI101 hw102 hv103 => ?_)
        have hf104 : fq [(407, 2), (407, 3)] [408, 1349] true H H100 := fq_w hf94 hw102 (fpT k97)
        refine k_run 0 (pc' := 162) (l' := [(0, .inr (.inr 406)), (1, .inr (.inr g1)), (2, .inl x2), (3, .inl x3), (4, .inl x4), (5, .inl x5), (6, .inl x6), (7, .inr (.inr t55))]) (st' := []) rfl ?_
        refine k_run 1 (pc' := 164) (l' := [(0, .inr (.inr 406)), (1, .inr (.inr g1)), (2, .inl x2), (3, .inl x3), (4, .inl x4), (5, .inl x5), (6, .inl x6), (7, .inr (.inr t55))]) (st' := [.inr (.inr t55)]) rfl ?_
        refine k_get (a := t55) (x := (kGo t55)) (v := .inr (.inr (t55 + 1))) rfl rfl k56.1 (iG0 k56) rfl rfl rfl ?_
        refine k_run 0 (pc' := 167) (l' := [(0, .inr (.inr 406)), (1, .inr (.inr g1)), (2, .inl x2), (3, .inl x3), (4, .inl x4), (5, .inl x5), (6, .inl x6), (7, .inr (.inr t55))]) (st' := [.inr (.inr (t55 + 1))]) rfl ?_
        refine k_run 1 (pc' := 168) (l' := [(0, .inr (.inr 406)), (1, .inr (.inr g1)), (2, .inl x2), (3, .inl x3), (4, .inl x4), (5, .inl x5), (6, .inl x6), (7, .inr (.inr t55))]) (st' := [.inl 1, .inr (.inr (t55 + 1))]) rfl ?_
        refine k_ald (c := (t55 + 1)) (j := 1) (i := 1) (x := kGt) rfl k56.2.1 (iG1 k56) rfl (by decide) rfl (by decide) hI101 (fun h105 => ?_)
        obtain ⟨t106, et108⟩ : ∃ t9, t9 = H100.2 (t55 + 1) 1 := ⟨_, rfl⟩
        rw [← et108] at h105 ⊢
        obtain ⟨n109, k107⟩ := (show (∃ n, isT t106 n) ∧ 369 < t106 from h105).1
        have k107b := k107.2.2.2.2
        refine k_run 0 (pc' := 169) (l' := [(0, .inr (.inr 406)), (1, .inr (.inr g1)), (2, .inl x2), (3, .inl x3), (4, .inl x4), (5, .inl x5), (6, .inl x6), (7, .inr (.inr t55))]) (st' := [.inr (.inr t106)]) rfl ?_
        refine k_run 1 (pc' := 170) (l' := [(0, .inr (.inr 406)), (1, .inr (.inr g1)), (2, .inl x2), (3, .inl x3), (4, .inl x4), (5, .inl x5), (6, .inl x6), (7, .inr (.inr t55))]) (st' := [.inr (.inr g1), .inr (.inr t106)]) rfl ?_
        refine k_get (a := g1) (x := (kGo g1)) (v := .inr (.inr (g1 + 1))) rfl rfl hG1.1 (iG0 hG1) rfl rfl rfl ?_
        refine k_run 0 (pc' := 173) (l' := [(0, .inr (.inr 406)), (1, .inr (.inr g1)), (2, .inl x2), (3, .inl x3), (4, .inl x4), (5, .inl x5), (6, .inl x6), (7, .inr (.inr t55))]) (st' := [.inr (.inr (g1 + 1)), .inr (.inr t106)]) rfl ?_
        refine k_run 1 (pc' := 174) (l' := [(0, .inr (.inr 406)), (1, .inr (.inr g1)), (2, .inl x2), (3, .inl x3), (4, .inl x4), (5, .inl x5), (6, .inl x6), (7, .inr (.inr t55))]) (st' := [.inl 1, .inr (.inr (g1 + 1)), .inr (.inr t106)]) rfl ?_
        refine k_ald (c := (g1 + 1)) (j := 1) (i := 1) (x := kGt) rfl hG1.2.1 (iG1 hG1) rfl (by decide) rfl (by decide) hI101 (fun h110 => ?_)
        obtain ⟨t111, et113⟩ : ∃ t9, t9 = H100.2 (g1 + 1) 1 := ⟨_, rfl⟩
        rw [← et113] at h110 ⊢
        obtain ⟨n114, k112⟩ := (show (∃ n, isT t111 n) ∧ 369 < t111 from h110).1
        have k112b := k112.2.2.2.2
        refine k_run 0 (pc' := 175) (l' := [(0, .inr (.inr 406)), (1, .inr (.inr g1)), (2, .inl x2), (3, .inl x3), (4, .inl x4), (5, .inl x5), (6, .inl x6), (7, .inr (.inr t55))]) (st' := [.inr (.inr t111), .inr (.inr t106)]) rfl ?_
        refine k_run 2 (pc' := 178) (l' := [(0, .inr (.inr 406)), (1, .inr (.inr g1)), (2, .inl x2), (3, .inl x3), (4, .inl x4), (5, .inl x5), (6, .inl x6), (7, .inr (.inr t55))]) (st' := [.inr (.inr g1), .inl x5, .inr (.inr t111), .inr (.inr t106)]) rfl ?_
        refine k_get (a := g1) (x := (kGo g1)) (v := .inr (.inr (g1 + 1))) rfl rfl hG1.1 (iG0 hG1) rfl rfl rfl ?_
        refine k_run 0 (pc' := 181) (l' := [(0, .inr (.inr 406)), (1, .inr (.inr g1)), (2, .inl x2), (3, .inl x3), (4, .inl x4), (5, .inl x5), (6, .inl x6), (7, .inr (.inr t55))]) (st' := [.inr (.inr (g1 + 1)), .inl x5, .inr (.inr t111), .inr (.inr t106)]) rfl ?_
        refine k_run 1 (pc' := 182) (l' := [(0, .inr (.inr 406)), (1, .inr (.inr g1)), (2, .inl x2), (3, .inl x3), (4, .inl x4), (5, .inl x5), (6, .inl x6), (7, .inr (.inr t55))]) (st' := [.inl 1, .inr (.inr (g1 + 1)), .inl x5, .inr (.inr t111), .inr (.inr t106)]) rfl ?_
        refine k_ald (c := (g1 + 1)) (j := 1) (i := 1) (x := kGt) rfl hG1.2.1 (iG1 hG1) rfl (by decide) rfl (by decide) hI101 (fun h115 => ?_)
        rw [← et113]
        refine k_run 0 (pc' := 183) (l' := [(0, .inr (.inr 406)), (1, .inr (.inr g1)), (2, .inl x2), (3, .inl x3), (4, .inl x4), (5, .inl x5), (6, .inl x6), (7, .inr (.inr t55))]) (st' := [.inr (.inr t111), .inl x5, .inr (.inr t111), .inr (.inr t106)]) rfl ?_
        refine k_run 1 (pc' := 185) (l' := [(0, .inr (.inr 406)), (1, .inr (.inr g1)), (2, .inl x2), (3, .inl x3), (4, .inl x4), (5, .inl x5), (6, .inl x6), (7, .inr (.inr t55))]) (st' := [.inl x5, .inr (.inr t111), .inl x5, .inr (.inr t111), .inr (.inr t106)]) rfl ?_
        refine h_cv (i := 77) (j := 53) (b := t111) (M' := mt_53) (xs := [.inl x5]) (rest := [.inl x5, .inr (.inr t111), .inr (.inr t106)]) rfl rfl rfl rfl (by rw [zs_K k112.1 (iT0 k112)]; rfl) rfl (Nat.le_of_ble_eq_true rfl) (Nat.le_of_ble_eq_true rfl) (by omega) (k_Term_behind (by omega) hI101 k112 (by omega)) ?_
        rintro _ _ ⟨z120, rfl, g116, rfl⟩
        refine k_run 0 (pc' := 188) (l' := [(0, .inr (.inr 406)), (1, .inr (.inr g1)), (2, .inl x2), (3, .inl x3), (4, .inl x4), (5, .inl x5), (6, .inl x6), (7, .inr (.inr t55))]) (st' := [.inl z120, .inl x5, .inr (.inr t111), .inr (.inr t106)]) rfl ?_
        refine h_cv (i := 224) (j := 54) (b := t106) (M' := mt_54) (xs := [.inl z120, .inl x5, .inr (.inr t111)]) (rest := []) rfl rfl rfl rfl (by rw [zs_K k107.1 (iT0 k107)]; rfl) rfl (Nat.le_of_ble_eq_true rfl) (Nat.le_of_ble_eq_true rfl) (by omega) (k_Term_append (by omega) hI101 k107 k112 (by omega) (by omega) (by omega)) ?_
        rintro _ H122 ⟨z125, rfl, g121, hI123, hq124⟩
        have hf126 : fq [(407, 2), (407, 3)] [408, 1349] true H H122 := fq_t hf104 hq124 rfl rfl rfl
        refine k_run 0 (pc' := 191) (l' := [(0, .inr (.inr 406)), (1, .inr (.inr g1)), (2, .inl x2), (3, .inl x3), (4, .inl x4), (5, .inl x5), (6, .inl x6), (7, .inr (.inr t55))]) (st' := [.inl z125]) rfl ?_
        refine k_run 2 (pc' := 193) (l' := [(0, .inr (.inr 406)), (1, .inr (.inr g1)), (2, .inl x2), (3, .inl x3), (4, .inl x4), (5, .inl x5), (6, .inl x6), (7, .inr (.inr t55))]) (st' := [.inr (.inr g1)]) rfl ?_
        refine k_get (a := g1) (x := (kGo g1)) (v := .inr (.inr (g1 + 1))) rfl rfl hG1.1 (iG0 hG1) rfl rfl rfl ?_
        refine k_run 0 (pc' := 196) (l' := [(0, .inr (.inr 406)), (1, .inr (.inr g1)), (2, .inl x2), (3, .inl x3), (4, .inl x4), (5, .inl x5), (6, .inl x6), (7, .inr (.inr t55))]) (st' := [.inr (.inr (g1 + 1))]) rfl ?_
        refine k_run 1 (pc' := 197) (l' := [(0, .inr (.inr 406)), (1, .inr (.inr g1)), (2, .inl x2), (3, .inl x3), (4, .inl x4), (5, .inl x5), (6, .inl x6), (7, .inr (.inr t55))]) (st' := [.inl 0, .inr (.inr (g1 + 1))]) rfl ?_
        refine k_ald (c := (g1 + 1)) (j := 0) (i := 0) (x := kGt) rfl hG1.2.1 (iG1 hG1) rfl (by decide) rfl (by decide) hI123 (fun h127 => ?_)
        obtain ⟨t128, et130⟩ : ∃ t9, t9 = H122.2 (g1 + 1) 0 := ⟨_, rfl⟩
        rw [← et130] at h127 ⊢
        obtain ⟨n131, k129⟩ := (show (∃ n, isT t128 n) ∧ 369 < t128 from h127).1
        have k129b := k129.2.2.2.2
        refine k_run 0 (pc' := 198) (l' := [(0, .inr (.inr 406)), (1, .inr (.inr g1)), (2, .inl x2), (3, .inl x3), (4, .inl x4), (5, .inl x5), (6, .inl x6), (7, .inr (.inr t55))]) (st' := [.inr (.inr t128)]) rfl ?_
        refine k_run 1 (pc' := 200) (l' := [(0, .inr (.inr 406)), (1, .inr (.inr g1)), (2, .inl x2), (3, .inl x3), (4, .inl x4), (5, .inl x5), (6, .inl x6), (7, .inr (.inr t55))]) (st' := [.inl x4, .inr (.inr t128)]) rfl ?_
        refine h_cv (i := 77) (j := 53) (b := t128) (M' := mt_53) (xs := [.inl x4]) (rest := []) rfl rfl rfl rfl (by rw [zs_K k129.1 (iT0 k129)]; rfl) rfl (Nat.le_of_ble_eq_true rfl) (Nat.le_of_ble_eq_true rfl) (by omega) (k_Term_behind (by omega) hI123 k129 (by omega)) ?_
        rintro _ _ ⟨z136, rfl, g132, rfl⟩
        refine k_run 0 (pc' := 203) (l' := [(0, .inr (.inr 406)), (1, .inr (.inr g1)), (2, .inl x2), (3, .inl x3), (4, .inl x4), (5, .inl x5), (6, .inl x6), (7, .inr (.inr t55))]) (st' := [.inl z136]) rfl ?_
        refine k_run 2 (pc' := 206) (l' := [(0, .inr (.inr 406)), (1, .inr (.inr g1)), (2, .inl x2), (3, .inl x3), (4, .inl z136), (5, .inl x5), (6, .inl x6), (7, .inr (.inr t55))]) (st' := [.inr (.inr g1)]) rfl ?_
        refine k_get (a := g1) (x := (kGo g1)) (v := .inr (.inr (g1 + 1))) rfl rfl hG1.1 (iG0 hG1) rfl rfl rfl ?_
        refine k_run 0 (pc' := 209) (l' := [(0, .inr (.inr 406)), (1, .inr (.inr g1)), (2, .inl x2), (3, .inl x3), (4, .inl z136), (5, .inl x5), (6, .inl x6), (7, .inr (.inr t55))]) (st' := [.inr (.inr (g1 + 1))]) rfl ?_
        refine k_run 1 (pc' := 210) (l' := [(0, .inr (.inr 406)), (1, .inr (.inr g1)), (2, .inl x2), (3, .inl x3), (4, .inl z136), (5, .inl x5), (6, .inl x6), (7, .inr (.inr t55))]) (st' := [.inl 1, .inr (.inr (g1 + 1))]) rfl ?_
        refine k_ald (c := (g1 + 1)) (j := 1) (i := 1) (x := kGt) rfl hG1.2.1 (iG1 hG1) rfl (by decide) rfl (by decide) hI123 (fun h137 => ?_)
        obtain ⟨t138, et140⟩ : ∃ t9, t9 = H122.2 (g1 + 1) 1 := ⟨_, rfl⟩
        rw [← et140] at h137 ⊢
        obtain ⟨n141, k139⟩ := (show (∃ n, isT t138 n) ∧ 369 < t138 from h137).1
        have k139b := k139.2.2.2.2
        refine k_run 0 (pc' := 211) (l' := [(0, .inr (.inr 406)), (1, .inr (.inr g1)), (2, .inl x2), (3, .inl x3), (4, .inl z136), (5, .inl x5), (6, .inl x6), (7, .inr (.inr t55))]) (st' := [.inr (.inr t138)]) rfl ?_
        refine k_run 1 (pc' := 213) (l' := [(0, .inr (.inr 406)), (1, .inr (.inr g1)), (2, .inl x2), (3, .inl x3), (4, .inl z136), (5, .inl x5), (6, .inl x6), (7, .inr (.inr t55))]) (st' := [.inl x5, .inr (.inr t138)]) rfl ?_
        refine h_cv (i := 77) (j := 53) (b := t138) (M' := mt_53) (xs := [.inl x5]) (rest := []) rfl rfl rfl rfl (by rw [zs_K k139.1 (iT0 k139)]; rfl) rfl (Nat.le_of_ble_eq_true rfl) (Nat.le_of_ble_eq_true rfl) (by omega) (k_Term_behind (by omega) hI123 k139 (by omega)) ?_
        rintro _ _ ⟨z146, rfl, g142, rfl⟩
        refine k_run 0 (pc' := 216) (l' := [(0, .inr (.inr 406)), (1, .inr (.inr g1)), (2, .inl x2), (3, .inl x3), (4, .inl z136), (5, .inl x5), (6, .inl x6), (7, .inr (.inr t55))]) (st' := [.inl z146]) rfl ?_
        refine k_run 3 (pc' := 79) (l' := [(0, .inr (.inr 406)), (1, .inr (.inr g1)), (2, .inl x2), (3, .inl x3), (4, .inl z136), (5, .inl z146), (6, .inl (x6 + 1)), (7, .inr (.inr t55))]) (st' := []) rfl ?_
        have g147 : 0 ≤ (H122.1 407 2) ∧ (H122.1 407 2) ≤ 12 := kn (x := kx_407) hI123 rfl 2
        have e148 : (H122.1 407 2) = (H100.1 407 2) := (hq124.1 407 2 rfl (by decide) (by decide)).1
        have e149 : (H100.1 407 2) = (H90.1 407 2) := hw102.2 _ _ (fun q => by have h9 := (iTf k97); rw [← q.1] at h9; exact absurd h9 (by decide))
        have e150 : (H90.1 407 2) = (H68.1 407 2) := (hq92.1 407 2 rfl (by decide) (by decide)).1
        have e151 : (H68.1 407 2) = (H59.1 407 2) := hw70.2 _ _ (fun q => by have h9 := (iTf k65); rw [← q.1] at h9; exact absurd h9 (by decide))
        have e152 : (H59.1 407 2) = (H1.1 407 2) := (hq61.1 407 2 rfl (by decide) (by decide)).1
        refine h_loc [0, 1, 2, 3, 4, 5, 6] rfl ?_
        exact ih H122 hI123 hf126 g1 x2 x3 z136 z146 (x6 + 1) hG1 (by omega) (by omega) (by omega) (by omega) (by omega) (by omega) (by omega) (by omega) (by omega) (by omega) (by omega) (by omega)
set_option maxRecDepth 100000 in
theorem k_Prover_takeApart {d : Nat} (hd : 3 ≤ d) {H : hp} (hI : Inv H)  (hp0 : 1 ≤ H.1 407 2) : hG (zs zK) d mt_135 0 (zargs 0 [.inr (.inr 406)]) [] H (fun r9 H9 => ∃ z : Int, r9 = some (.inl z) ∧ ((-2147483648 ≤ z ∧ z ≤ 2147483647) ∧ (0 ≤ z ∨ H9.1 407 2 = H.1 407 2)) ∧ Inv H9 ∧ fq [(407, 2), (407, 3)] [408, 1349] true H H9) := by
  refine k_run 0 (pc' := 0) (l' := [(0, .inr (.inr 406))]) (st' := []) rfl ?_
  refine k_run 4 (pc' := 8) (l' := [(0, .inr (.inr 406))]) (st' := [.inl 0, .inr (.inr 408)]) rfl ?_
  refine k_ald (c := 408) (j := 0) (i := 0) (x := kx_408) rfl rfl (by decide) rfl (by decide) rfl (by decide) hI (fun h1 => ?_)
  obtain ⟨t2, et4⟩ : ∃ t9, t9 = H.2 408 0 := ⟨_, rfl⟩
  rw [← et4] at h1 ⊢
  have k3 : isG t2 := h1
  refine k_run 0 (pc' := 9) (l' := [(0, .inr (.inr 406))]) (st' := [.inr (.inr t2)]) rfl ?_
  refine k_run 2 (pc' := 11) (l' := [(0, .inr (.inr 406)), (1, .inr (.inr t2))]) (st' := [.inr (.inr t2)]) rfl ?_
  refine k_get (a := t2) (x := (kGo t2)) (v := .inr (.inr (t2 + 1))) rfl rfl k3.1 (iG0 k3) rfl rfl rfl ?_
  refine k_run 0 (pc' := 14) (l' := [(0, .inr (.inr 406)), (1, .inr (.inr t2))]) (st' := [.inr (.inr (t2 + 1))]) rfl ?_
  refine k_run 1 (pc' := 15) (l' := [(0, .inr (.inr 406)), (1, .inr (.inr t2))]) (st' := [.inl 0, .inr (.inr (t2 + 1))]) rfl ?_
  refine k_ald (c := (t2 + 1)) (j := 0) (i := 0) (x := kGt) rfl k3.2.1 (iG1 k3) rfl (by decide) rfl (by decide) hI (fun h5 => ?_)
  obtain ⟨t6, et8⟩ : ∃ t9, t9 = H.2 (t2 + 1) 0 := ⟨_, rfl⟩
  rw [← et8] at h5 ⊢
  obtain ⟨n9, k7⟩ := (show (∃ n, isT t6 n) ∧ 369 < t6 from h5).1
  have k7b := k7.2.2.2.2
  refine k_run 0 (pc' := 16) (l' := [(0, .inr (.inr 406)), (1, .inr (.inr t2))]) (st' := [.inr (.inr t6)]) rfl ?_
  refine k_run 1 (pc' := 17) (l' := [(0, .inr (.inr 406)), (1, .inr (.inr t2))]) (st' := [.inl 0, .inr (.inr t6)]) rfl ?_
  refine h_cv (i := 73) (j := 51) (b := t6) (M' := mt_51) (xs := [.inl 0]) (rest := []) rfl rfl rfl rfl (by rw [zs_K k7.1 (iT0 k7)]; rfl) rfl (Nat.le_of_ble_eq_true rfl) (Nat.le_of_ble_eq_true rfl) (by omega) (k_Term_codeAt (by omega) hI k7 (by decide)) ?_
  rintro _ _ ⟨z14, rfl, g10, rfl⟩
  refine k_run 0 (pc' := 20) (l' := [(0, .inr (.inr 406)), (1, .inr (.inr t2))]) (st' := [.inl z14]) rfl ?_
  refine k_run 2 (pc' := 22) (l' := [(0, .inr (.inr 406)), (1, .inr (.inr t2)), (2, .inl z14)]) (st' := [.inl z14]) rfl ?_
  refine h_cs (i := 80) (j := 49) (M' := mt_49) (xs := [.inl z14]) (rest := []) rfl rfl rfl rfl rfl (Nat.le_of_ble_eq_true rfl) (Nat.le_of_ble_eq_true rfl) (by omega) (k_Term_kindOf (by omega)  (by omega)) ?_
  rintro _ _ ⟨z19, rfl, g15, rfl⟩
  refine k_run 0 (pc' := 25) (l' := [(0, .inr (.inr 406)), (1, .inr (.inr t2)), (2, .inl z14)]) (st' := [.inl z19]) rfl ?_
  refine k_run 1 (pc' := 26) (l' := [(0, .inr (.inr 406)), (1, .inr (.inr t2)), (2, .inl z14)]) (st' := [.inl 1, .inl z19]) rfl ?_
  refine h_ine (off := 17) (t := 43) rfl rfl (by omega) (by decide) (fun c20 => ?_) (fun c20 => ?_)
  · refine k_run 0 (pc' := 43) (l' := [(0, .inr (.inr 406)), (1, .inr (.inr t2)), (2, .inl z14)]) (st' := []) rfl ?_
    refine k_run 1 (pc' := 45) (l' := [(0, .inr (.inr 406)), (1, .inr (.inr t2)), (2, .inl z14)]) (st' := [.inl (-104)]) rfl ?_
    refine h_reti (x := (-104)) rfl rfl ?_
    have g21 : 0 ≤ (H.1 407 2) ∧ (H.1 407 2) ≤ 12 := kn (x := kx_407) hI rfl 2
    exact ⟨_, rfl, (by omega), hI, (fq_rf _ _ _ _)⟩
  · refine k_run 0 (pc' := 29) (l' := [(0, .inr (.inr 406)), (1, .inr (.inr t2)), (2, .inl z14)]) (st' := []) rfl ?_
    refine k_run 2 (pc' := 31) (l' := [(0, .inr (.inr 406)), (1, .inr (.inr t2)), (2, .inl z14)]) (st' := [.inr (.inr t2), .inl z14]) rfl ?_
    refine k_get (a := t2) (x := (kGo t2)) (v := .inr (.inr (t2 + 1))) rfl rfl k3.1 (iG0 k3) rfl rfl rfl ?_
    refine k_run 0 (pc' := 34) (l' := [(0, .inr (.inr 406)), (1, .inr (.inr t2)), (2, .inl z14)]) (st' := [.inr (.inr (t2 + 1)), .inl z14]) rfl ?_
    refine k_run 1 (pc' := 35) (l' := [(0, .inr (.inr 406)), (1, .inr (.inr t2)), (2, .inl z14)]) (st' := [.inl 1, .inr (.inr (t2 + 1)), .inl z14]) rfl ?_
    refine k_ald (c := (t2 + 1)) (j := 1) (i := 1) (x := kGt) rfl k3.2.1 (iG1 k3) rfl (by decide) rfl (by decide) hI (fun h22 => ?_)
    obtain ⟨t23, et25⟩ : ∃ t9, t9 = H.2 (t2 + 1) 1 := ⟨_, rfl⟩
    rw [← et25] at h22 ⊢
    obtain ⟨n26, k24⟩ := (show (∃ n, isT t23 n) ∧ 369 < t23 from h22).1
    have k24b := k24.2.2.2.2
    refine k_run 0 (pc' := 36) (l' := [(0, .inr (.inr 406)), (1, .inr (.inr t2)), (2, .inl z14)]) (st' := [.inr (.inr t23), .inl z14]) rfl ?_
    refine k_run 1 (pc' := 37) (l' := [(0, .inr (.inr 406)), (1, .inr (.inr t2)), (2, .inl z14)]) (st' := [.inl 0, .inr (.inr t23), .inl z14]) rfl ?_
    refine h_cv (i := 73) (j := 51) (b := t23) (M' := mt_51) (xs := [.inl 0]) (rest := [.inl z14]) rfl rfl rfl rfl (by rw [zs_K k24.1 (iT0 k24)]; rfl) rfl (Nat.le_of_ble_eq_true rfl) (Nat.le_of_ble_eq_true rfl) (by omega) (k_Term_codeAt (by omega) hI k24 (by decide)) ?_
    rintro _ _ ⟨z31, rfl, g27, rfl⟩
    refine k_run 0 (pc' := 40) (l' := [(0, .inr (.inr 406)), (1, .inr (.inr t2)), (2, .inl z14)]) (st' := [.inl z31, .inl z14]) rfl ?_
    refine h_ieq (off := 6) (t := 46) rfl rfl (by omega) (by omega) (fun c32 => ?_) (fun c32 => ?_)
    · refine k_run 0 (pc' := 46) (l' := [(0, .inr (.inr 406)), (1, .inr (.inr t2)), (2, .inl z14)]) (st' := []) rfl ?_
      refine k_run 3 (pc' := 50) (l' := [(0, .inr (.inr 406)), (1, .inr (.inr t2)), (2, .inl z14)]) (st' := [.inl (z_and z14 7)]) rfl ?_
      have g33 : 0 ≤ (z_and z14 7) ∧ (z_and z14 7) ≤ 7 := z_and_le _ 7 (by decide)
      refine k_run 4 (pc' := 58) (l' := [(0, .inr (.inr 406)), (1, .inr (.inr t2)), (2, .inl z14), (3, .inl (z_and z14 7))]) (st' := [.inl (H.1 407 2)]) rfl ?_
      have g34 : 0 ≤ (H.1 407 2) ∧ (H.1 407 2) ≤ 12 := kn (x := kx_407) hI rfl 2
      refine k_run 5 (pc' := 64) (l' := [(0, .inr (.inr 406)), (1, .inr (.inr t2)), (2, .inl z14), (3, .inl (z_and z14 7))]) (st' := [.inl 12, .inl (((H.1 407 2) - 1) + (z_and z14 7))]) rfl ?_
      refine h_ile (off := 6) (t := 70) rfl rfl (by omega) (by decide) (fun c35 => ?_) (fun c35 => ?_)
      · refine k_run 0 (pc' := 70) (l' := [(0, .inr (.inr 406)), (1, .inr (.inr t2)), (2, .inl z14), (3, .inl (z_and z14 7))]) (st' := []) rfl ?_
        refine k_run 6 (pc' := 79) (l' := [(0, .inr (.inr 406)), (1, .inr (.inr t2)), (2, .inl z14), (3, .inl (z_and z14 7)), (4, .inl 1), (5, .inl 1), (6, .inl 0)]) (st' := []) rfl ?_
        exact (k_Prover_takeApart_cut hd hI hp0 _) H hI (fq_rf _ _ _ _) t2 z14 (z_and z14 7) (1 : Int) (1 : Int) (0 : Int) k3 (by omega) (z_int _) (by decide) (by decide) (by decide) (by omega) (by omega) (by omega) (by omega) (by omega) (by omega) (Nat.lt_succ_self _)
      · refine k_run 0 (pc' := 67) (l' := [(0, .inr (.inr 406)), (1, .inr (.inr t2)), (2, .inl z14), (3, .inl (z_and z14 7))]) (st' := []) rfl ?_
        refine k_run 1 (pc' := 69) (l' := [(0, .inr (.inr 406)), (1, .inr (.inr t2)), (2, .inl z14), (3, .inl (z_and z14 7))]) (st' := [.inl (-105)]) rfl ?_
        refine h_reti (x := (-105)) rfl rfl ?_
        exact ⟨_, rfl, (by omega), hI, (fq_rf _ _ _ _)⟩
    · refine k_run 0 (pc' := 43) (l' := [(0, .inr (.inr 406)), (1, .inr (.inr t2)), (2, .inl z14)]) (st' := []) rfl ?_
      refine k_run 1 (pc' := 45) (l' := [(0, .inr (.inr 406)), (1, .inr (.inr t2)), (2, .inl z14)]) (st' := [.inl (-104)]) rfl ?_
      refine h_reti (x := (-104)) rfl rfl ?_
      have g36 : 0 ≤ (H.1 407 2) ∧ (H.1 407 2) ≤ 12 := kn (x := kx_407) hI rfl 2
      exact ⟨_, rfl, (by omega), hI, (fq_rf _ _ _ _)⟩

/-! Prover.split -/
set_option maxRecDepth 100000 in
theorem k_Prover_split_cut {d : Nat} (hd : 4 ≤ d) {H : hp} (hI : Inv H)  (hp0 : 1 ≤ H.1 407 2) : ∀ w : Nat, (∀ (H1 : hp), Inv H1 → fq [(407, 2), (407, 3), (407, 6), (407, 7), (407, 8)] [408, 409, 1349] true H H1 → ∀ (x1 : Int) (x2 : Int) (x3 : Int) , (-2147483648 ≤ x1 ∧ x1 ≤ 2147483647) → (-2147483648 ≤ x2 ∧ x2 ≤ 2147483647) → (-2147483648 ≤ x3 ∧ x3 ≤ 2147483647) → (0 ≤ x1 ∧ x1 ≤ 12) → (0 ≤ x2 ∧ x2 ≤ 60) → (-1 ≤ x3) → (H1.1 407 2 = H.1 407 2) → (((100 - x3).toNat) < w) → hG (zs zK) d mt_127 23 [(0, .inr (.inr 406)), (1, .inl x1), (2, .inl x2), (3, .inl x3)] [] H1 (fun r9 H9 => ∃ z : Int, r9 = some (.inl z) ∧ ((-2147483648 ≤ z ∧ z ≤ 2147483647)) ∧ Inv H9 ∧ fq [(407, 2), (407, 3), (407, 6), (407, 7), (407, 8)] [408, 409, 1349] true H H9)) := by
  intro w
  induction w with
  | zero => exact fun _ _ _ _ _ _ _ _ _ _ _ _ _ h => absurd h (Nat.not_lt_zero _)
  | succ w ih =>
    intro H1 hI1 hf1 x1 x2 x3 hx1 hx2 hx3 hi0 hi1 hi2 hi3 hw
    have g6 : 0 ≤ (H1.1 407 2) ∧ (H1.1 407 2) ≤ 12 := kn (x := kx_407) hI1 rfl 2
    refine k_run 5 (pc' := 34) (l' := [(0, .inr (.inr 406)), (1, .inl x1), (2, .inl x2), (3, .inl x3)]) (st' := [.inl (H1.1 13 4), .inl x3]) rfl ?_
    have g7 : 0 ≤ (H1.1 13 4) ∧ (H1.1 13 4) ≤ 16 := kn (x := kx_13) hI1 rfl 4
    have e8 : (H1.1 13 4) = (H.1 13 4) := (hf1.1 13 4 rfl (by decide) (by decide)).1
    refine h_ige (off := 150) (t := 184) rfl rfl (by omega) (by omega) (fun c9 => ?_) (fun c9 => ?_)
    · refine k_run 0 (pc' := 184) (l' := [(0, .inr (.inr 406)), (1, .inl x1), (2, .inl x2), (3, .inl x3)]) (st' := []) rfl ?_
      refine k_run 8 (pc' := 197) (l' := [(0, .inr (.inr 406)), (1, .inl x1), (2, .inl x2), (3, .inl x3)]) (st' := [.inl 12, .inl (((H1.1 407 2) - 1) + x1)]) rfl ?_
      refine h_ile (off := 6) (t := 203) rfl rfl (by omega) (by decide) (fun c10 => ?_) (fun c10 => ?_)
      · refine k_run 0 (pc' := 203) (l' := [(0, .inr (.inr 406)), (1, .inl x1), (2, .inl x2), (3, .inl x3)]) (st' := []) rfl ?_
        refine k_run 2 (pc' := 207) (l' := [(0, .inr (.inr 406)), (1, .inl x1), (2, .inl x2), (3, .inl x3)]) (st' := [.inl (H1.1 406 18)]) rfl ?_
        have g11 : 0 ≤ (H1.1 406 18) ∧ (H1.1 406 18) ≤ 1 := kn (x := kx_406) hI1 rfl 18
        have e12 : (H1.1 406 18) = (H.1 406 18) := (hf1.1 406 18 rfl (by decide) (by decide)).1
        refine h_zeq (off := 26) (t := 233) rfl rfl (by omega) (fun c13 => ?_) (fun c13 => ?_)
        · refine k_run 0 (pc' := 233) (l' := [(0, .inr (.inr 406)), (1, .inl x1), (2, .inl x2), (3, .inl x3)]) (st' := []) rfl ?_
          refine k_run 2 (pc' := 237) (l' := [(0, .inr (.inr 406)), (1, .inl x1), (2, .inl x2), (3, .inl x3)]) (st' := [.inl (H1.1 406 17)]) rfl ?_
          have g14 : 0 ≤ (H1.1 406 17) ∧ (H1.1 406 17) ≤ 1 := kn (x := kx_406) hI1 rfl 17
          have e15 : (H1.1 406 17) = (H.1 406 17) := (hf1.1 406 17 rfl (by decide) (by decide)).1
          refine h_zeq (off := 26) (t := 263) rfl rfl (by omega) (fun c16 => ?_) (fun c16 => ?_)
          · refine k_run 0 (pc' := 263) (l' := [(0, .inr (.inr 406)), (1, .inl x1), (2, .inl x2), (3, .inl x3)]) (st' := []) rfl ?_
            refine k_run 2 (pc' := 267) (l' := [(0, .inr (.inr 406)), (1, .inl x1), (2, .inl x2), (3, .inl x3)]) (st' := [.inl (H1.1 406 13)]) rfl ?_
            have g17 : -2147483648 ≤ (H1.1 406 13) ∧ (H1.1 406 13) ≤ 2147483647 := kn (x := kx_406) hI1 rfl 13
            have e18 : (H1.1 406 13) = (H.1 406 13) := (hf1.1 406 13 rfl (by decide) (by decide)).1
            refine h_zge (off := 22) (t := 289) rfl rfl (by omega) (fun c19 => ?_) (fun c19 => ?_)
            · refine k_run 0 (pc' := 289) (l' := [(0, .inr (.inr 406)), (1, .inl x1), (2, .inl x2), (3, .inl x3)]) (st' := []) rfl ?_
              refine k_run 3 (pc' := 294) (l' := [(0, .inr (.inr 406)), (1, .inl x1), (2, .inl x2), (3, .inl x3)]) (st' := [.inl x2, .inr (.inr 407)]) rfl ?_
              refine k_puti (z := x2) (a := 407) (x := kx_407) rfl rfl rfl (by decide) (by decide) rfl rfl rfl rfl hI1 (by omega) (show 0 ≤ x2 ∧ x2 ≤ 60 by omega) (fun H20 hI21 hw22 hv23 => ?_)
              have hf24 : fq [(407, 2), (407, 3), (407, 6), (407, 7), (407, 8)] [408, 409, 1349] true H H20 := fq_w hf1 hw22 (fpo (by decide) rfl)
              refine k_run 0 (pc' := 297) (l' := [(0, .inr (.inr 406)), (1, .inl x1), (2, .inl x2), (3, .inl x3)]) (st' := []) rfl ?_
              refine k_run 2 (pc' := 299) (l' := [(0, .inr (.inr 406)), (1, .inl x1), (2, .inl x2), (3, .inl x3)]) (st' := [.inl x1, .inr (.inr 406)]) rfl ?_
              have g25 : 0 ≤ (H20.1 407 2) ∧ (H20.1 407 2) ≤ 12 := kn (x := kx_407) hI21 rfl 2
              have e26 : (H20.1 407 2) = (H1.1 407 2) := hw22.2 _ _ (fun q => absurd q.2 (by decide))
              refine h_cv (i := 271) (j := 136) (b := 406) (M' := mt_136) (xs := [.inl x1]) (rest := []) rfl rfl rfl rfl (zs_K (x := kx_406) rfl (by decide)) rfl (Nat.le_of_ble_eq_true rfl) (Nat.le_of_ble_eq_true rfl) (by omega) (k_Prover_putGoals (by omega) hI21 (by omega) (by omega) (by omega) (by omega)) ?_
              rintro _ H28 ⟨z31, rfl, g27, hI29, hq30⟩
              have hf32 : fq [(407, 2), (407, 3), (407, 6), (407, 7), (407, 8)] [408, 409, 1349] true H H28 := fq_t hf24 hq30 rfl rfl rfl
              refine k_run 0 (pc' := 302) (l' := [(0, .inr (.inr 406)), (1, .inl x1), (2, .inl x2), (3, .inl x3)]) (st' := [.inl z31]) rfl ?_
              refine h_reti (x := z31) rfl rfl ?_
              exact ⟨_, rfl, (by omega), hI29, hf32⟩
            · refine k_run 0 (pc' := 270) (l' := [(0, .inr (.inr 406)), (1, .inl x1), (2, .inl x2), (3, .inl x3)]) (st' := []) rfl ?_
              refine k_run 4 (pc' := 278) (l' := [(0, .inr (.inr 406)), (1, .inl x1), (2, .inl x2), (3, .inl x3)]) (st' := [.inr (.inl (H1.1 407 8)), .inr (.inr 407)]) rfl ?_
              have g33 : -9223372036854775808 ≤ (H1.1 407 8) ∧ (H1.1 407 8) ≤ 9223372036854775807 := kn (x := kx_407) hI1 rfl 8
              refine k_run 2 (pc' := 282) (l' := [(0, .inr (.inr 406)), (1, .inl x1), (2, .inl x2), (3, .inl x3)]) (st' := [.inr (.inr 1352), .inr (.inl (H1.1 407 8)), .inr (.inr 407)]) rfl ?_
              refine h_cv (i := 270) (j := 60) (b := 1352) (M' := mt_60) (xs := []) (rest := [.inr (.inl (H1.1 407 8)), .inr (.inr 407)]) rfl rfl rfl rfl (by rw [zs_K iT_1352.1 (iT0 iT_1352)]; rfl) rfl (Nat.le_of_ble_eq_true rfl) (Nat.le_of_ble_eq_true rfl) (by omega) (k_Term_variables (by omega) hI1 iT_1352) ?_
              rintro _ _ ⟨z38, rfl, g34, rfl⟩
              refine k_run 0 (pc' := 285) (l' := [(0, .inr (.inr 406)), (1, .inl x1), (2, .inl x2), (3, .inl x3)]) (st' := [.inr (.inl z38), .inr (.inl (H1.1 407 8)), .inr (.inr 407)]) rfl ?_
              refine k_run 1 (pc' := 286) (l' := [(0, .inr (.inr 406)), (1, .inl x1), (2, .inl x2), (3, .inl x3)]) (st' := [.inr (.inl (z_lor (H1.1 407 8) z38)), .inr (.inr 407)]) rfl ?_
              refine k_nrmj (fun y39 hy39 => ?_)
              refine k_putl (a := 407) (x := kx_407) rfl rfl rfl (by decide) (by decide) rfl rfl rfl rfl hI1 rfl (fun H40 hI41 hw42 => ?_)
              have hf44 : fq [(407, 2), (407, 3), (407, 6), (407, 7), (407, 8)] [408, 409, 1349] true H H40 := fq_w hf1 hw42 (fpo (by decide) rfl)
              refine k_run 0 (pc' := 289) (l' := [(0, .inr (.inr 406)), (1, .inl x1), (2, .inl x2), (3, .inl x3)]) (st' := []) rfl ?_
              refine k_run 3 (pc' := 294) (l' := [(0, .inr (.inr 406)), (1, .inl x1), (2, .inl x2), (3, .inl x3)]) (st' := [.inl x2, .inr (.inr 407)]) rfl ?_
              refine k_puti (z := x2) (a := 407) (x := kx_407) rfl rfl rfl (by decide) (by decide) rfl rfl rfl rfl hI41 (by omega) (show 0 ≤ x2 ∧ x2 ≤ 60 by omega) (fun H45 hI46 hw47 hv48 => ?_)
              have hf49 : fq [(407, 2), (407, 3), (407, 6), (407, 7), (407, 8)] [408, 409, 1349] true H H45 := fq_w hf44 hw47 (fpo (by decide) rfl)
              refine k_run 0 (pc' := 297) (l' := [(0, .inr (.inr 406)), (1, .inl x1), (2, .inl x2), (3, .inl x3)]) (st' := []) rfl ?_
              refine k_run 2 (pc' := 299) (l' := [(0, .inr (.inr 406)), (1, .inl x1), (2, .inl x2), (3, .inl x3)]) (st' := [.inl x1, .inr (.inr 406)]) rfl ?_
              have g50 : 0 ≤ (H45.1 407 2) ∧ (H45.1 407 2) ≤ 12 := kn (x := kx_407) hI46 rfl 2
              have e51 : (H45.1 407 2) = (H40.1 407 2) := hw47.2 _ _ (fun q => absurd q.2 (by decide))
              have e52 : (H40.1 407 2) = (H1.1 407 2) := hw42.2 _ _ (fun q => absurd q.2 (by decide))
              refine h_cv (i := 271) (j := 136) (b := 406) (M' := mt_136) (xs := [.inl x1]) (rest := []) rfl rfl rfl rfl (zs_K (x := kx_406) rfl (by decide)) rfl (Nat.le_of_ble_eq_true rfl) (Nat.le_of_ble_eq_true rfl) (by omega) (k_Prover_putGoals (by omega) hI46 (by omega) (by omega) (by omega) (by omega)) ?_
              rintro _ H54 ⟨z57, rfl, g53, hI55, hq56⟩
              have hf58 : fq [(407, 2), (407, 3), (407, 6), (407, 7), (407, 8)] [408, 409, 1349] true H H54 := fq_t hf49 hq56 rfl rfl rfl
              refine k_run 0 (pc' := 302) (l' := [(0, .inr (.inr 406)), (1, .inl x1), (2, .inl x2), (3, .inl x3)]) (st' := [.inl z57]) rfl ?_
              refine h_reti (x := z57) rfl rfl ?_
              exact ⟨_, rfl, (by omega), hI55, hf58⟩
          · refine k_run 0 (pc' := 240) (l' := [(0, .inr (.inr 406)), (1, .inl x1), (2, .inl x2), (3, .inl x3)]) (st' := []) rfl ?_
            refine k_run 4 (pc' := 248) (l' := [(0, .inr (.inr 406)), (1, .inl x1), (2, .inl x2), (3, .inl x3)]) (st' := [.inr (.inl (H1.1 407 8)), .inr (.inr 407)]) rfl ?_
            have g59 : -9223372036854775808 ≤ (H1.1 407 8) ∧ (H1.1 407 8) ≤ 9223372036854775807 := kn (x := kx_407) hI1 rfl 8
            refine k_run 3 (pc' := 255) (l' := [(0, .inr (.inr 406)), (1, .inl x1), (2, .inl x2), (3, .inl x3)]) (st' := [.inl (H1.1 407 6), .inr (.inl (H1.1 407 8)), .inr (.inr 407)]) rfl ?_
            have g60 : 0 ≤ (H1.1 407 6) ∧ (H1.1 407 6) ≤ 60 := kn (x := kx_407) hI1 rfl 6
            refine k_run 1 (pc' := 256) (l' := [(0, .inr (.inr 406)), (1, .inl x1), (2, .inl x2), (3, .inl x3)]) (st' := [.inl x2, .inl (H1.1 407 6), .inr (.inl (H1.1 407 8)), .inr (.inr 407)]) rfl ?_
            refine h_cs (i := 266) (j := 133) (M' := mt_133) (xs := [.inl x2, .inl (H1.1 407 6)]) (rest := [.inr (.inl (H1.1 407 8)), .inr (.inr 407)]) rfl rfl rfl rfl rfl (Nat.le_of_ble_eq_true rfl) (Nat.le_of_ble_eq_true rfl) (by omega) (k_Prover_bits (by omega)  (by omega) (by omega)) ?_
            rintro _ _ ⟨z65, rfl, g61, rfl⟩
            refine k_run 0 (pc' := 259) (l' := [(0, .inr (.inr 406)), (1, .inl x1), (2, .inl x2), (3, .inl x3)]) (st' := [.inr (.inl z65), .inr (.inl (H1.1 407 8)), .inr (.inr 407)]) rfl ?_
            refine k_run 1 (pc' := 260) (l' := [(0, .inr (.inr 406)), (1, .inl x1), (2, .inl x2), (3, .inl x3)]) (st' := [.inr (.inl (z_lor (H1.1 407 8) z65)), .inr (.inr 407)]) rfl ?_
            refine k_nrmj (fun y66 hy66 => ?_)
            refine k_putl (a := 407) (x := kx_407) rfl rfl rfl (by decide) (by decide) rfl rfl rfl rfl hI1 rfl (fun H67 hI68 hw69 => ?_)
            have hf71 : fq [(407, 2), (407, 3), (407, 6), (407, 7), (407, 8)] [408, 409, 1349] true H H67 := fq_w hf1 hw69 (fpo (by decide) rfl)
            refine k_run 0 (pc' := 263) (l' := [(0, .inr (.inr 406)), (1, .inl x1), (2, .inl x2), (3, .inl x3)]) (st' := []) rfl ?_
            refine k_run 2 (pc' := 267) (l' := [(0, .inr (.inr 406)), (1, .inl x1), (2, .inl x2), (3, .inl x3)]) (st' := [.inl (H67.1 406 13)]) rfl ?_
            have g72 : -2147483648 ≤ (H67.1 406 13) ∧ (H67.1 406 13) ≤ 2147483647 := kn (x := kx_406) hI68 rfl 13
            have e73 : (H67.1 406 13) = (H1.1 406 13) := hw69.2 _ _ (fun q => absurd q.1 (by decide))
            have e74 : (H1.1 406 13) = (H.1 406 13) := (hf1.1 406 13 rfl (by decide) (by decide)).1
            refine h_zge (off := 22) (t := 289) rfl rfl (by omega) (fun c75 => ?_) (fun c75 => ?_)
            · refine k_run 0 (pc' := 289) (l' := [(0, .inr (.inr 406)), (1, .inl x1), (2, .inl x2), (3, .inl x3)]) (st' := []) rfl ?_
              refine k_run 3 (pc' := 294) (l' := [(0, .inr (.inr 406)), (1, .inl x1), (2, .inl x2), (3, .inl x3)]) (st' := [.inl x2, .inr (.inr 407)]) rfl ?_
              refine k_puti (z := x2) (a := 407) (x := kx_407) rfl rfl rfl (by decide) (by decide) rfl rfl rfl rfl hI68 (by omega) (show 0 ≤ x2 ∧ x2 ≤ 60 by omega) (fun H76 hI77 hw78 hv79 => ?_)
              have hf80 : fq [(407, 2), (407, 3), (407, 6), (407, 7), (407, 8)] [408, 409, 1349] true H H76 := fq_w hf71 hw78 (fpo (by decide) rfl)
              refine k_run 0 (pc' := 297) (l' := [(0, .inr (.inr 406)), (1, .inl x1), (2, .inl x2), (3, .inl x3)]) (st' := []) rfl ?_
              refine k_run 2 (pc' := 299) (l' := [(0, .inr (.inr 406)), (1, .inl x1), (2, .inl x2), (3, .inl x3)]) (st' := [.inl x1, .inr (.inr 406)]) rfl ?_
              have g81 : 0 ≤ (H76.1 407 2) ∧ (H76.1 407 2) ≤ 12 := kn (x := kx_407) hI77 rfl 2
              have e82 : (H76.1 407 2) = (H67.1 407 2) := hw78.2 _ _ (fun q => absurd q.2 (by decide))
              have e83 : (H67.1 407 2) = (H1.1 407 2) := hw69.2 _ _ (fun q => absurd q.2 (by decide))
              refine h_cv (i := 271) (j := 136) (b := 406) (M' := mt_136) (xs := [.inl x1]) (rest := []) rfl rfl rfl rfl (zs_K (x := kx_406) rfl (by decide)) rfl (Nat.le_of_ble_eq_true rfl) (Nat.le_of_ble_eq_true rfl) (by omega) (k_Prover_putGoals (by omega) hI77 (by omega) (by omega) (by omega) (by omega)) ?_
              rintro _ H85 ⟨z88, rfl, g84, hI86, hq87⟩
              have hf89 : fq [(407, 2), (407, 3), (407, 6), (407, 7), (407, 8)] [408, 409, 1349] true H H85 := fq_t hf80 hq87 rfl rfl rfl
              refine k_run 0 (pc' := 302) (l' := [(0, .inr (.inr 406)), (1, .inl x1), (2, .inl x2), (3, .inl x3)]) (st' := [.inl z88]) rfl ?_
              refine h_reti (x := z88) rfl rfl ?_
              exact ⟨_, rfl, (by omega), hI86, hf89⟩
            · refine k_run 0 (pc' := 270) (l' := [(0, .inr (.inr 406)), (1, .inl x1), (2, .inl x2), (3, .inl x3)]) (st' := []) rfl ?_
              refine k_run 4 (pc' := 278) (l' := [(0, .inr (.inr 406)), (1, .inl x1), (2, .inl x2), (3, .inl x3)]) (st' := [.inr (.inl (H67.1 407 8)), .inr (.inr 407)]) rfl ?_
              have g90 : -9223372036854775808 ≤ (H67.1 407 8) ∧ (H67.1 407 8) ≤ 9223372036854775807 := kn (x := kx_407) hI68 rfl 8
              refine k_run 2 (pc' := 282) (l' := [(0, .inr (.inr 406)), (1, .inl x1), (2, .inl x2), (3, .inl x3)]) (st' := [.inr (.inr 1352), .inr (.inl (H67.1 407 8)), .inr (.inr 407)]) rfl ?_
              refine h_cv (i := 270) (j := 60) (b := 1352) (M' := mt_60) (xs := []) (rest := [.inr (.inl (H67.1 407 8)), .inr (.inr 407)]) rfl rfl rfl rfl (by rw [zs_K iT_1352.1 (iT0 iT_1352)]; rfl) rfl (Nat.le_of_ble_eq_true rfl) (Nat.le_of_ble_eq_true rfl) (by omega) (k_Term_variables (by omega) hI68 iT_1352) ?_
              rintro _ _ ⟨z95, rfl, g91, rfl⟩
              refine k_run 0 (pc' := 285) (l' := [(0, .inr (.inr 406)), (1, .inl x1), (2, .inl x2), (3, .inl x3)]) (st' := [.inr (.inl z95), .inr (.inl (H67.1 407 8)), .inr (.inr 407)]) rfl ?_
              refine k_run 1 (pc' := 286) (l' := [(0, .inr (.inr 406)), (1, .inl x1), (2, .inl x2), (3, .inl x3)]) (st' := [.inr (.inl (z_lor (H67.1 407 8) z95)), .inr (.inr 407)]) rfl ?_
              refine k_nrmj (fun y96 hy96 => ?_)
              refine k_putl (a := 407) (x := kx_407) rfl rfl rfl (by decide) (by decide) rfl rfl rfl rfl hI68 rfl (fun H97 hI98 hw99 => ?_)
              have hf101 : fq [(407, 2), (407, 3), (407, 6), (407, 7), (407, 8)] [408, 409, 1349] true H H97 := fq_w hf71 hw99 (fpo (by decide) rfl)
              refine k_run 0 (pc' := 289) (l' := [(0, .inr (.inr 406)), (1, .inl x1), (2, .inl x2), (3, .inl x3)]) (st' := []) rfl ?_
              refine k_run 3 (pc' := 294) (l' := [(0, .inr (.inr 406)), (1, .inl x1), (2, .inl x2), (3, .inl x3)]) (st' := [.inl x2, .inr (.inr 407)]) rfl ?_
              refine k_puti (z := x2) (a := 407) (x := kx_407) rfl rfl rfl (by decide) (by decide) rfl rfl rfl rfl hI98 (by omega) (show 0 ≤ x2 ∧ x2 ≤ 60 by omega) (fun H102 hI103 hw104 hv105 => ?_)
              have hf106 : fq [(407, 2), (407, 3), (407, 6), (407, 7), (407, 8)] [408, 409, 1349] true H H102 := fq_w hf101 hw104 (fpo (by decide) rfl)
              refine k_run 0 (pc' := 297) (l' := [(0, .inr (.inr 406)), (1, .inl x1), (2, .inl x2), (3, .inl x3)]) (st' := []) rfl ?_
              refine k_run 2 (pc' := 299) (l' := [(0, .inr (.inr 406)), (1, .inl x1), (2, .inl x2), (3, .inl x3)]) (st' := [.inl x1, .inr (.inr 406)]) rfl ?_
              have g107 : 0 ≤ (H102.1 407 2) ∧ (H102.1 407 2) ≤ 12 := kn (x := kx_407) hI103 rfl 2
              have e108 : (H102.1 407 2) = (H97.1 407 2) := hw104.2 _ _ (fun q => absurd q.2 (by decide))
              have e109 : (H97.1 407 2) = (H67.1 407 2) := hw99.2 _ _ (fun q => absurd q.2 (by decide))
              have e110 : (H67.1 407 2) = (H1.1 407 2) := hw69.2 _ _ (fun q => absurd q.2 (by decide))
              refine h_cv (i := 271) (j := 136) (b := 406) (M' := mt_136) (xs := [.inl x1]) (rest := []) rfl rfl rfl rfl (zs_K (x := kx_406) rfl (by decide)) rfl (Nat.le_of_ble_eq_true rfl) (Nat.le_of_ble_eq_true rfl) (by omega) (k_Prover_putGoals (by omega) hI103 (by omega) (by omega) (by omega) (by omega)) ?_
              rintro _ H112 ⟨z115, rfl, g111, hI113, hq114⟩
              have hf116 : fq [(407, 2), (407, 3), (407, 6), (407, 7), (407, 8)] [408, 409, 1349] true H H112 := fq_t hf106 hq114 rfl rfl rfl
              refine k_run 0 (pc' := 302) (l' := [(0, .inr (.inr 406)), (1, .inl x1), (2, .inl x2), (3, .inl x3)]) (st' := [.inl z115]) rfl ?_
              refine h_reti (x := z115) rfl rfl ?_
              exact ⟨_, rfl, (by omega), hI113, hf116⟩
        · refine k_run 0 (pc' := 210) (l' := [(0, .inr (.inr 406)), (1, .inl x1), (2, .inl x2), (3, .inl x3)]) (st' := []) rfl ?_
          refine k_run 4 (pc' := 218) (l' := [(0, .inr (.inr 406)), (1, .inl x1), (2, .inl x2), (3, .inl x3)]) (st' := [.inr (.inl (H1.1 407 7)), .inr (.inr 407)]) rfl ?_
          have g117 : -9223372036854775808 ≤ (H1.1 407 7) ∧ (H1.1 407 7) ≤ 9223372036854775807 := kn (x := kx_407) hI1 rfl 7
          refine k_run 3 (pc' := 225) (l' := [(0, .inr (.inr 406)), (1, .inl x1), (2, .inl x2), (3, .inl x3)]) (st' := [.inl (H1.1 407 6), .inr (.inl (H1.1 407 7)), .inr (.inr 407)]) rfl ?_
          have g118 : 0 ≤ (H1.1 407 6) ∧ (H1.1 407 6) ≤ 60 := kn (x := kx_407) hI1 rfl 6
          refine k_run 1 (pc' := 226) (l' := [(0, .inr (.inr 406)), (1, .inl x1), (2, .inl x2), (3, .inl x3)]) (st' := [.inl x2, .inl (H1.1 407 6), .inr (.inl (H1.1 407 7)), .inr (.inr 407)]) rfl ?_
          refine h_cs (i := 266) (j := 133) (M' := mt_133) (xs := [.inl x2, .inl (H1.1 407 6)]) (rest := [.inr (.inl (H1.1 407 7)), .inr (.inr 407)]) rfl rfl rfl rfl rfl (Nat.le_of_ble_eq_true rfl) (Nat.le_of_ble_eq_true rfl) (by omega) (k_Prover_bits (by omega)  (by omega) (by omega)) ?_
          rintro _ _ ⟨z123, rfl, g119, rfl⟩
          refine k_run 0 (pc' := 229) (l' := [(0, .inr (.inr 406)), (1, .inl x1), (2, .inl x2), (3, .inl x3)]) (st' := [.inr (.inl z123), .inr (.inl (H1.1 407 7)), .inr (.inr 407)]) rfl ?_
          refine k_run 1 (pc' := 230) (l' := [(0, .inr (.inr 406)), (1, .inl x1), (2, .inl x2), (3, .inl x3)]) (st' := [.inr (.inl (z_lor (H1.1 407 7) z123)), .inr (.inr 407)]) rfl ?_
          refine k_nrmj (fun y124 hy124 => ?_)
          refine k_putl (a := 407) (x := kx_407) rfl rfl rfl (by decide) (by decide) rfl rfl rfl rfl hI1 rfl (fun H125 hI126 hw127 => ?_)
          have hf129 : fq [(407, 2), (407, 3), (407, 6), (407, 7), (407, 8)] [408, 409, 1349] true H H125 := fq_w hf1 hw127 (fpo (by decide) rfl)
          refine k_run 0 (pc' := 233) (l' := [(0, .inr (.inr 406)), (1, .inl x1), (2, .inl x2), (3, .inl x3)]) (st' := []) rfl ?_
          refine k_run 2 (pc' := 237) (l' := [(0, .inr (.inr 406)), (1, .inl x1), (2, .inl x2), (3, .inl x3)]) (st' := [.inl (H125.1 406 17)]) rfl ?_
          have g130 : 0 ≤ (H125.1 406 17) ∧ (H125.1 406 17) ≤ 1 := kn (x := kx_406) hI126 rfl 17
          have e131 : (H125.1 406 17) = (H1.1 406 17) := hw127.2 _ _ (fun q => absurd q.1 (by decide))
          have e132 : (H1.1 406 17) = (H.1 406 17) := (hf1.1 406 17 rfl (by decide) (by decide)).1
          refine h_zeq (off := 26) (t := 263) rfl rfl (by omega) (fun c133 => ?_) (fun c133 => ?_)
          · refine k_run 0 (pc' := 263) (l' := [(0, .inr (.inr 406)), (1, .inl x1), (2, .inl x2), (3, .inl x3)]) (st' := []) rfl ?_
            refine k_run 2 (pc' := 267) (l' := [(0, .inr (.inr 406)), (1, .inl x1), (2, .inl x2), (3, .inl x3)]) (st' := [.inl (H125.1 406 13)]) rfl ?_
            have g134 : -2147483648 ≤ (H125.1 406 13) ∧ (H125.1 406 13) ≤ 2147483647 := kn (x := kx_406) hI126 rfl 13
            have e135 : (H125.1 406 13) = (H1.1 406 13) := hw127.2 _ _ (fun q => absurd q.1 (by decide))
            have e136 : (H1.1 406 13) = (H.1 406 13) := (hf1.1 406 13 rfl (by decide) (by decide)).1
            refine h_zge (off := 22) (t := 289) rfl rfl (by omega) (fun c137 => ?_) (fun c137 => ?_)
            · refine k_run 0 (pc' := 289) (l' := [(0, .inr (.inr 406)), (1, .inl x1), (2, .inl x2), (3, .inl x3)]) (st' := []) rfl ?_
              refine k_run 3 (pc' := 294) (l' := [(0, .inr (.inr 406)), (1, .inl x1), (2, .inl x2), (3, .inl x3)]) (st' := [.inl x2, .inr (.inr 407)]) rfl ?_
              refine k_puti (z := x2) (a := 407) (x := kx_407) rfl rfl rfl (by decide) (by decide) rfl rfl rfl rfl hI126 (by omega) (show 0 ≤ x2 ∧ x2 ≤ 60 by omega) (fun H138 hI139 hw140 hv141 => ?_)
              have hf142 : fq [(407, 2), (407, 3), (407, 6), (407, 7), (407, 8)] [408, 409, 1349] true H H138 := fq_w hf129 hw140 (fpo (by decide) rfl)
              refine k_run 0 (pc' := 297) (l' := [(0, .inr (.inr 406)), (1, .inl x1), (2, .inl x2), (3, .inl x3)]) (st' := []) rfl ?_
              refine k_run 2 (pc' := 299) (l' := [(0, .inr (.inr 406)), (1, .inl x1), (2, .inl x2), (3, .inl x3)]) (st' := [.inl x1, .inr (.inr 406)]) rfl ?_
              have g143 : 0 ≤ (H138.1 407 2) ∧ (H138.1 407 2) ≤ 12 := kn (x := kx_407) hI139 rfl 2
              have e144 : (H138.1 407 2) = (H125.1 407 2) := hw140.2 _ _ (fun q => absurd q.2 (by decide))
              have e145 : (H125.1 407 2) = (H1.1 407 2) := hw127.2 _ _ (fun q => absurd q.2 (by decide))
              refine h_cv (i := 271) (j := 136) (b := 406) (M' := mt_136) (xs := [.inl x1]) (rest := []) rfl rfl rfl rfl (zs_K (x := kx_406) rfl (by decide)) rfl (Nat.le_of_ble_eq_true rfl) (Nat.le_of_ble_eq_true rfl) (by omega) (k_Prover_putGoals (by omega) hI139 (by omega) (by omega) (by omega) (by omega)) ?_
              rintro _ H147 ⟨z150, rfl, g146, hI148, hq149⟩
              have hf151 : fq [(407, 2), (407, 3), (407, 6), (407, 7), (407, 8)] [408, 409, 1349] true H H147 := fq_t hf142 hq149 rfl rfl rfl
              refine k_run 0 (pc' := 302) (l' := [(0, .inr (.inr 406)), (1, .inl x1), (2, .inl x2), (3, .inl x3)]) (st' := [.inl z150]) rfl ?_
              refine h_reti (x := z150) rfl rfl ?_
              exact ⟨_, rfl, (by omega), hI148, hf151⟩
            · refine k_run 0 (pc' := 270) (l' := [(0, .inr (.inr 406)), (1, .inl x1), (2, .inl x2), (3, .inl x3)]) (st' := []) rfl ?_
              refine k_run 4 (pc' := 278) (l' := [(0, .inr (.inr 406)), (1, .inl x1), (2, .inl x2), (3, .inl x3)]) (st' := [.inr (.inl (H125.1 407 8)), .inr (.inr 407)]) rfl ?_
              have g152 : -9223372036854775808 ≤ (H125.1 407 8) ∧ (H125.1 407 8) ≤ 9223372036854775807 := kn (x := kx_407) hI126 rfl 8
              have e153 : (H125.1 407 8) = (H1.1 407 8) := hw127.2 _ _ (fun q => absurd q.2 (by decide))
              refine k_run 2 (pc' := 282) (l' := [(0, .inr (.inr 406)), (1, .inl x1), (2, .inl x2), (3, .inl x3)]) (st' := [.inr (.inr 1352), .inr (.inl (H125.1 407 8)), .inr (.inr 407)]) rfl ?_
              refine h_cv (i := 270) (j := 60) (b := 1352) (M' := mt_60) (xs := []) (rest := [.inr (.inl (H125.1 407 8)), .inr (.inr 407)]) rfl rfl rfl rfl (by rw [zs_K iT_1352.1 (iT0 iT_1352)]; rfl) rfl (Nat.le_of_ble_eq_true rfl) (Nat.le_of_ble_eq_true rfl) (by omega) (k_Term_variables (by omega) hI126 iT_1352) ?_
              rintro _ _ ⟨z158, rfl, g154, rfl⟩
              refine k_run 0 (pc' := 285) (l' := [(0, .inr (.inr 406)), (1, .inl x1), (2, .inl x2), (3, .inl x3)]) (st' := [.inr (.inl z158), .inr (.inl (H125.1 407 8)), .inr (.inr 407)]) rfl ?_
              refine k_run 1 (pc' := 286) (l' := [(0, .inr (.inr 406)), (1, .inl x1), (2, .inl x2), (3, .inl x3)]) (st' := [.inr (.inl (z_lor (H125.1 407 8) z158)), .inr (.inr 407)]) rfl ?_
              refine k_nrmj (fun y159 hy159 => ?_)
              refine k_putl (a := 407) (x := kx_407) rfl rfl rfl (by decide) (by decide) rfl rfl rfl rfl hI126 rfl (fun H160 hI161 hw162 => ?_)
              have hf164 : fq [(407, 2), (407, 3), (407, 6), (407, 7), (407, 8)] [408, 409, 1349] true H H160 := fq_w hf129 hw162 (fpo (by decide) rfl)
              refine k_run 0 (pc' := 289) (l' := [(0, .inr (.inr 406)), (1, .inl x1), (2, .inl x2), (3, .inl x3)]) (st' := []) rfl ?_
              refine k_run 3 (pc' := 294) (l' := [(0, .inr (.inr 406)), (1, .inl x1), (2, .inl x2), (3, .inl x3)]) (st' := [.inl x2, .inr (.inr 407)]) rfl ?_
              refine k_puti (z := x2) (a := 407) (x := kx_407) rfl rfl rfl (by decide) (by decide) rfl rfl rfl rfl hI161 (by omega) (show 0 ≤ x2 ∧ x2 ≤ 60 by omega) (fun H165 hI166 hw167 hv168 => ?_)
              have hf169 : fq [(407, 2), (407, 3), (407, 6), (407, 7), (407, 8)] [408, 409, 1349] true H H165 := fq_w hf164 hw167 (fpo (by decide) rfl)
              refine k_run 0 (pc' := 297) (l' := [(0, .inr (.inr 406)), (1, .inl x1), (2, .inl x2), (3, .inl x3)]) (st' := []) rfl ?_
              refine k_run 2 (pc' := 299) (l' := [(0, .inr (.inr 406)), (1, .inl x1), (2, .inl x2), (3, .inl x3)]) (st' := [.inl x1, .inr (.inr 406)]) rfl ?_
              have g170 : 0 ≤ (H165.1 407 2) ∧ (H165.1 407 2) ≤ 12 := kn (x := kx_407) hI166 rfl 2
              have e171 : (H165.1 407 2) = (H160.1 407 2) := hw167.2 _ _ (fun q => absurd q.2 (by decide))
              have e172 : (H160.1 407 2) = (H125.1 407 2) := hw162.2 _ _ (fun q => absurd q.2 (by decide))
              have e173 : (H125.1 407 2) = (H1.1 407 2) := hw127.2 _ _ (fun q => absurd q.2 (by decide))
              refine h_cv (i := 271) (j := 136) (b := 406) (M' := mt_136) (xs := [.inl x1]) (rest := []) rfl rfl rfl rfl (zs_K (x := kx_406) rfl (by decide)) rfl (Nat.le_of_ble_eq_true rfl) (Nat.le_of_ble_eq_true rfl) (by omega) (k_Prover_putGoals (by omega) hI166 (by omega) (by omega) (by omega) (by omega)) ?_
              rintro _ H175 ⟨z178, rfl, g174, hI176, hq177⟩
              have hf179 : fq [(407, 2), (407, 3), (407, 6), (407, 7), (407, 8)] [408, 409, 1349] true H H175 := fq_t hf169 hq177 rfl rfl rfl
              refine k_run 0 (pc' := 302) (l' := [(0, .inr (.inr 406)), (1, .inl x1), (2, .inl x2), (3, .inl x3)]) (st' := [.inl z178]) rfl ?_
              refine h_reti (x := z178) rfl rfl ?_
              exact ⟨_, rfl, (by omega), hI176, hf179⟩
          · refine k_run 0 (pc' := 240) (l' := [(0, .inr (.inr 406)), (1, .inl x1), (2, .inl x2), (3, .inl x3)]) (st' := []) rfl ?_
            refine k_run 4 (pc' := 248) (l' := [(0, .inr (.inr 406)), (1, .inl x1), (2, .inl x2), (3, .inl x3)]) (st' := [.inr (.inl (H125.1 407 8)), .inr (.inr 407)]) rfl ?_
            have g180 : -9223372036854775808 ≤ (H125.1 407 8) ∧ (H125.1 407 8) ≤ 9223372036854775807 := kn (x := kx_407) hI126 rfl 8
            have e181 : (H125.1 407 8) = (H1.1 407 8) := hw127.2 _ _ (fun q => absurd q.2 (by decide))
            refine k_run 3 (pc' := 255) (l' := [(0, .inr (.inr 406)), (1, .inl x1), (2, .inl x2), (3, .inl x3)]) (st' := [.inl (H125.1 407 6), .inr (.inl (H125.1 407 8)), .inr (.inr 407)]) rfl ?_
            have g182 : 0 ≤ (H125.1 407 6) ∧ (H125.1 407 6) ≤ 60 := kn (x := kx_407) hI126 rfl 6
            have e183 : (H125.1 407 6) = (H1.1 407 6) := hw127.2 _ _ (fun q => absurd q.2 (by decide))
            refine k_run 1 (pc' := 256) (l' := [(0, .inr (.inr 406)), (1, .inl x1), (2, .inl x2), (3, .inl x3)]) (st' := [.inl x2, .inl (H125.1 407 6), .inr (.inl (H125.1 407 8)), .inr (.inr 407)]) rfl ?_
            refine h_cs (i := 266) (j := 133) (M' := mt_133) (xs := [.inl x2, .inl (H125.1 407 6)]) (rest := [.inr (.inl (H125.1 407 8)), .inr (.inr 407)]) rfl rfl rfl rfl rfl (Nat.le_of_ble_eq_true rfl) (Nat.le_of_ble_eq_true rfl) (by omega) (k_Prover_bits (by omega)  (by omega) (by omega)) ?_
            rintro _ _ ⟨z188, rfl, g184, rfl⟩
            refine k_run 0 (pc' := 259) (l' := [(0, .inr (.inr 406)), (1, .inl x1), (2, .inl x2), (3, .inl x3)]) (st' := [.inr (.inl z188), .inr (.inl (H125.1 407 8)), .inr (.inr 407)]) rfl ?_
            refine k_run 1 (pc' := 260) (l' := [(0, .inr (.inr 406)), (1, .inl x1), (2, .inl x2), (3, .inl x3)]) (st' := [.inr (.inl (z_lor (H125.1 407 8) z188)), .inr (.inr 407)]) rfl ?_
            refine k_nrmj (fun y189 hy189 => ?_)
            refine k_putl (a := 407) (x := kx_407) rfl rfl rfl (by decide) (by decide) rfl rfl rfl rfl hI126 rfl (fun H190 hI191 hw192 => ?_)
            have hf194 : fq [(407, 2), (407, 3), (407, 6), (407, 7), (407, 8)] [408, 409, 1349] true H H190 := fq_w hf129 hw192 (fpo (by decide) rfl)
            refine k_run 0 (pc' := 263) (l' := [(0, .inr (.inr 406)), (1, .inl x1), (2, .inl x2), (3, .inl x3)]) (st' := []) rfl ?_
            refine k_run 2 (pc' := 267) (l' := [(0, .inr (.inr 406)), (1, .inl x1), (2, .inl x2), (3, .inl x3)]) (st' := [.inl (H190.1 406 13)]) rfl ?_
            have g195 : -2147483648 ≤ (H190.1 406 13) ∧ (H190.1 406 13) ≤ 2147483647 := kn (x := kx_406) hI191 rfl 13
            have e196 : (H190.1 406 13) = (H125.1 406 13) := hw192.2 _ _ (fun q => absurd q.1 (by decide))
            have e197 : (H125.1 406 13) = (H1.1 406 13) := hw127.2 _ _ (fun q => absurd q.1 (by decide))
            have e198 : (H1.1 406 13) = (H.1 406 13) := (hf1.1 406 13 rfl (by decide) (by decide)).1
            refine h_zge (off := 22) (t := 289) rfl rfl (by omega) (fun c199 => ?_) (fun c199 => ?_)
            · refine k_run 0 (pc' := 289) (l' := [(0, .inr (.inr 406)), (1, .inl x1), (2, .inl x2), (3, .inl x3)]) (st' := []) rfl ?_
              refine k_run 3 (pc' := 294) (l' := [(0, .inr (.inr 406)), (1, .inl x1), (2, .inl x2), (3, .inl x3)]) (st' := [.inl x2, .inr (.inr 407)]) rfl ?_
              refine k_puti (z := x2) (a := 407) (x := kx_407) rfl rfl rfl (by decide) (by decide) rfl rfl rfl rfl hI191 (by omega) (show 0 ≤ x2 ∧ x2 ≤ 60 by omega) (fun H200 hI201 hw202 hv203 => ?_)
              have hf204 : fq [(407, 2), (407, 3), (407, 6), (407, 7), (407, 8)] [408, 409, 1349] true H H200 := fq_w hf194 hw202 (fpo (by decide) rfl)
              refine k_run 0 (pc' := 297) (l' := [(0, .inr (.inr 406)), (1, .inl x1), (2, .inl x2), (3, .inl x3)]) (st' := []) rfl ?_
              refine k_run 2 (pc' := 299) (l' := [(0, .inr (.inr 406)), (1, .inl x1), (2, .inl x2), (3, .inl x3)]) (st' := [.inl x1, .inr (.inr 406)]) rfl ?_
              have g205 : 0 ≤ (H200.1 407 2) ∧ (H200.1 407 2) ≤ 12 := kn (x := kx_407) hI201 rfl 2
              have e206 : (H200.1 407 2) = (H190.1 407 2) := hw202.2 _ _ (fun q => absurd q.2 (by decide))
              have e207 : (H190.1 407 2) = (H125.1 407 2) := hw192.2 _ _ (fun q => absurd q.2 (by decide))
              have e208 : (H125.1 407 2) = (H1.1 407 2) := hw127.2 _ _ (fun q => absurd q.2 (by decide))
              refine h_cv (i := 271) (j := 136) (b := 406) (M' := mt_136) (xs := [.inl x1]) (rest := []) rfl rfl rfl rfl (zs_K (x := kx_406) rfl (by decide)) rfl (Nat.le_of_ble_eq_true rfl) (Nat.le_of_ble_eq_true rfl) (by omega) (k_Prover_putGoals (by omega) hI201 (by omega) (by omega) (by omega) (by omega)) ?_
              rintro _ H210 ⟨z213, rfl, g209, hI211, hq212⟩
              have hf214 : fq [(407, 2), (407, 3), (407, 6), (407, 7), (407, 8)] [408, 409, 1349] true H H210 := fq_t hf204 hq212 rfl rfl rfl
              refine k_run 0 (pc' := 302) (l' := [(0, .inr (.inr 406)), (1, .inl x1), (2, .inl x2), (3, .inl x3)]) (st' := [.inl z213]) rfl ?_
              refine h_reti (x := z213) rfl rfl ?_
              exact ⟨_, rfl, (by omega), hI211, hf214⟩
            · refine k_run 0 (pc' := 270) (l' := [(0, .inr (.inr 406)), (1, .inl x1), (2, .inl x2), (3, .inl x3)]) (st' := []) rfl ?_
              refine k_run 4 (pc' := 278) (l' := [(0, .inr (.inr 406)), (1, .inl x1), (2, .inl x2), (3, .inl x3)]) (st' := [.inr (.inl (H190.1 407 8)), .inr (.inr 407)]) rfl ?_
              have g215 : -9223372036854775808 ≤ (H190.1 407 8) ∧ (H190.1 407 8) ≤ 9223372036854775807 := kn (x := kx_407) hI191 rfl 8
              refine k_run 2 (pc' := 282) (l' := [(0, .inr (.inr 406)), (1, .inl x1), (2, .inl x2), (3, .inl x3)]) (st' := [.inr (.inr 1352), .inr (.inl (H190.1 407 8)), .inr (.inr 407)]) rfl ?_
              refine h_cv (i := 270) (j := 60) (b := 1352) (M' := mt_60) (xs := []) (rest := [.inr (.inl (H190.1 407 8)), .inr (.inr 407)]) rfl rfl rfl rfl (by rw [zs_K iT_1352.1 (iT0 iT_1352)]; rfl) rfl (Nat.le_of_ble_eq_true rfl) (Nat.le_of_ble_eq_true rfl) (by omega) (k_Term_variables (by omega) hI191 iT_1352) ?_
              rintro _ _ ⟨z220, rfl, g216, rfl⟩
              refine k_run 0 (pc' := 285) (l' := [(0, .inr (.inr 406)), (1, .inl x1), (2, .inl x2), (3, .inl x3)]) (st' := [.inr (.inl z220), .inr (.inl (H190.1 407 8)), .inr (.inr 407)]) rfl ?_
              refine k_run 1 (pc' := 286) (l' := [(0, .inr (.inr 406)), (1, .inl x1), (2, .inl x2), (3, .inl x3)]) (st' := [.inr (.inl (z_lor (H190.1 407 8) z220)), .inr (.inr 407)]) rfl ?_
              refine k_nrmj (fun y221 hy221 => ?_)
              refine k_putl (a := 407) (x := kx_407) rfl rfl rfl (by decide) (by decide) rfl rfl rfl rfl hI191 rfl (fun H222 hI223 hw224 => ?_)
              have hf226 : fq [(407, 2), (407, 3), (407, 6), (407, 7), (407, 8)] [408, 409, 1349] true H H222 := fq_w hf194 hw224 (fpo (by decide) rfl)
              refine k_run 0 (pc' := 289) (l' := [(0, .inr (.inr 406)), (1, .inl x1), (2, .inl x2), (3, .inl x3)]) (st' := []) rfl ?_
              refine k_run 3 (pc' := 294) (l' := [(0, .inr (.inr 406)), (1, .inl x1), (2, .inl x2), (3, .inl x3)]) (st' := [.inl x2, .inr (.inr 407)]) rfl ?_
              refine k_puti (z := x2) (a := 407) (x := kx_407) rfl rfl rfl (by decide) (by decide) rfl rfl rfl rfl hI223 (by omega) (show 0 ≤ x2 ∧ x2 ≤ 60 by omega) (fun H227 hI228 hw229 hv230 => ?_)
              have hf231 : fq [(407, 2), (407, 3), (407, 6), (407, 7), (407, 8)] [408, 409, 1349] true H H227 := fq_w hf226 hw229 (fpo (by decide) rfl)
              refine k_run 0 (pc' := 297) (l' := [(0, .inr (.inr 406)), (1, .inl x1), (2, .inl x2), (3, .inl x3)]) (st' := []) rfl ?_
              refine k_run 2 (pc' := 299) (l' := [(0, .inr (.inr 406)), (1, .inl x1), (2, .inl x2), (3, .inl x3)]) (st' := [.inl x1, .inr (.inr 406)]) rfl ?_
              have g232 : 0 ≤ (H227.1 407 2) ∧ (H227.1 407 2) ≤ 12 := kn (x := kx_407) hI228 rfl 2
              have e233 : (H227.1 407 2) = (H222.1 407 2) := hw229.2 _ _ (fun q => absurd q.2 (by decide))
              have e234 : (H222.1 407 2) = (H190.1 407 2) := hw224.2 _ _ (fun q => absurd q.2 (by decide))
              have e235 : (H190.1 407 2) = (H125.1 407 2) := hw192.2 _ _ (fun q => absurd q.2 (by decide))
              have e236 : (H125.1 407 2) = (H1.1 407 2) := hw127.2 _ _ (fun q => absurd q.2 (by decide))
              refine h_cv (i := 271) (j := 136) (b := 406) (M' := mt_136) (xs := [.inl x1]) (rest := []) rfl rfl rfl rfl (zs_K (x := kx_406) rfl (by decide)) rfl (Nat.le_of_ble_eq_true rfl) (Nat.le_of_ble_eq_true rfl) (by omega) (k_Prover_putGoals (by omega) hI228 (by omega) (by omega) (by omega) (by omega)) ?_
              rintro _ H238 ⟨z241, rfl, g237, hI239, hq240⟩
              have hf242 : fq [(407, 2), (407, 3), (407, 6), (407, 7), (407, 8)] [408, 409, 1349] true H H238 := fq_t hf231 hq240 rfl rfl rfl
              refine k_run 0 (pc' := 302) (l' := [(0, .inr (.inr 406)), (1, .inl x1), (2, .inl x2), (3, .inl x3)]) (st' := [.inl z241]) rfl ?_
              refine h_reti (x := z241) rfl rfl ?_
              exact ⟨_, rfl, (by omega), hI239, hf242⟩
      · refine k_run 0 (pc' := 200) (l' := [(0, .inr (.inr 406)), (1, .inl x1), (2, .inl x2), (3, .inl x3)]) (st' := []) rfl ?_
        refine k_run 1 (pc' := 202) (l' := [(0, .inr (.inr 406)), (1, .inl x1), (2, .inl x2), (3, .inl x3)]) (st' := [.inl (-105)]) rfl ?_
        refine h_reti (x := (-105)) rfl rfl ?_
        exact ⟨_, rfl, (by omega), hI1, hf1⟩
    · refine k_run 0 (pc' := 37) (l' := [(0, .inr (.inr 406)), (1, .inl x1), (2, .inl x2), (3, .inl x3)]) (st' := []) rfl ?_
      refine k_run 1 (pc' := 38) (l' := [(0, .inr (.inr 406)), (1, .inl x1), (2, .inl x2), (3, .inl x3)]) (st' := [.inl x3]) rfl ?_
      refine h_zlt (off := 22) (t := 60) rfl rfl (by omega) (fun c243 => ?_) (fun c243 => ?_)
      · refine k_run 0 (pc' := 60) (l' := [(0, .inr (.inr 406)), (1, .inl x1), (2, .inl x2), (3, .inl x3)]) (st' := []) rfl ?_
        refine k_run 3 (pc' := 63) (l' := [(0, .inr (.inr 406)), (1, .inl x1), (2, .inl x2), (3, .inl x3)]) (st' := [.inl x2, .inl x3, .inr (.inr 406)]) rfl ?_
        refine h_cv (i := 248) (j := 128) (b := 406) (M' := mt_128) (xs := [.inl x2, .inl x3]) (rest := []) rfl rfl rfl rfl (zs_K (x := kx_406) rfl (by decide)) rfl (Nat.le_of_ble_eq_true rfl) (Nat.le_of_ble_eq_true rfl) (by omega) (k_Prover_putInstead (by omega) hI1 (by omega) (by omega) (by omega) (by omega)) ?_
        rintro _ H245 ⟨z248, rfl, g244, hI246, hq247⟩
        have hf249 : fq [(407, 2), (407, 3), (407, 6), (407, 7), (407, 8)] [408, 409, 1349] true H H245 := fq_t hf1 hq247 rfl rfl rfl
        refine k_run 0 (pc' := 66) (l' := [(0, .inr (.inr 406)), (1, .inl x1), (2, .inl x2), (3, .inl x3)]) (st' := [.inl z248]) rfl ?_
        refine k_run 3 (pc' := 72) (l' := [(0, .inr (.inr 406)), (1, .inl x1), (2, .inl x2), (3, .inl x3), (4, .inl z248)]) (st' := [.inl 60, .inl z248]) rfl ?_
        refine h_igt (off := 25) (t := 97) rfl rfl (by omega) (by decide) (fun c250 => ?_) (fun c250 => ?_)
        · refine k_run 0 (pc' := 97) (l' := [(0, .inr (.inr 406)), (1, .inl x1), (2, .inl x2), (3, .inl x3), (4, .inl z248)]) (st' := []) rfl ?_
          refine k_run 1 (pc' := 99) (l' := [(0, .inr (.inr 406)), (1, .inl x1), (2, .inl x2), (3, .inl x3), (4, .inl z248)]) (st' := [.inl (-105)]) rfl ?_
          refine h_reti (x := (-105)) rfl rfl ?_
          exact ⟨_, rfl, (by omega), hI246, hf249⟩
        · refine k_run 0 (pc' := 75) (l' := [(0, .inr (.inr 406)), (1, .inl x1), (2, .inl x2), (3, .inl x3), (4, .inl z248)]) (st' := []) rfl ?_
          refine k_run 3 (pc' := 80) (l' := [(0, .inr (.inr 406)), (1, .inl x1), (2, .inl x2), (3, .inl x3), (4, .inl z248)]) (st' := [.inr (.inr 1349), .inl x1]) rfl ?_
          refine k_alen (c := 1349) (x := kx_1349) rfl rfl (by decide) rfl ?_
          refine k_run 0 (pc' := 81) (l' := [(0, .inr (.inr 406)), (1, .inl x1), (2, .inl x2), (3, .inl x3), (4, .inl z248)]) (st' := [.inl 12, .inl x1]) rfl ?_
          refine h_ige (off := 16) (t := 97) rfl rfl (by omega) (by decide) (fun c251 => ?_) (fun c251 => ?_)
          · refine k_run 0 (pc' := 97) (l' := [(0, .inr (.inr 406)), (1, .inl x1), (2, .inl x2), (3, .inl x3), (4, .inl z248)]) (st' := []) rfl ?_
            refine k_run 1 (pc' := 99) (l' := [(0, .inr (.inr 406)), (1, .inl x1), (2, .inl x2), (3, .inl x3), (4, .inl z248)]) (st' := [.inl (-105)]) rfl ?_
            refine h_reti (x := (-105)) rfl rfl ?_
            exact ⟨_, rfl, (by omega), hI246, hf249⟩
          · refine k_run 0 (pc' := 84) (l' := [(0, .inr (.inr 406)), (1, .inl x1), (2, .inl x2), (3, .inl x3), (4, .inl z248)]) (st' := []) rfl ?_
            refine k_run 4 (pc' := 90) (l' := [(0, .inr (.inr 406)), (1, .inl x1), (2, .inl x2), (3, .inl x3), (4, .inl z248)]) (st' := [.inl x1, .inr (.inr 1349), .inr (.inr 406)]) rfl ?_
            refine k_ald (c := 1349) (j := (x1).toNat) (i := x1) (x := kx_1349) rfl rfl (by decide) rfl (by decide) (by omega) (by omega) hI246 (fun h252 => ?_)
            obtain ⟨t253, et255⟩ : ∃ t9, t9 = H245.2 1349 (x1).toNat := ⟨_, rfl⟩
            rw [← et255] at h252 ⊢
            have k254 : isG t253 := h252
            refine k_run 0 (pc' := 91) (l' := [(0, .inr (.inr 406)), (1, .inl x1), (2, .inl x2), (3, .inl x3), (4, .inl z248)]) (st' := [.inr (.inr t253), .inr (.inr 406)]) rfl ?_
            refine h_cv (i := 252) (j := 129) (b := 406) (M' := mt_129) (xs := [.inr (.inr t253)]) (rest := []) rfl rfl rfl rfl (zs_K (x := kx_406) rfl (by decide)) rfl (Nat.le_of_ble_eq_true rfl) (Nat.le_of_ble_eq_true rfl) (by omega) (k_Prover_makeGoal (by omega) hI246 k254) ?_
            rintro _ H257 ⟨z260, rfl, g256, hI258, hq259⟩
            have hf261 : fq [(407, 2), (407, 3), (407, 6), (407, 7), (407, 8)] [408, 409, 1349] true H H257 := fq_t hf249 hq259 rfl rfl rfl
            refine k_run 0 (pc' := 94) (l' := [(0, .inr (.inr 406)), (1, .inl x1), (2, .inl x2), (3, .inl x3), (4, .inl z248)]) (st' := [.inl z260]) rfl ?_
            refine h_zne (off := 6) (t := 100) rfl rfl (by omega) (fun c262 => ?_) (fun c262 => ?_)
            · refine k_run 0 (pc' := 100) (l' := [(0, .inr (.inr 406)), (1, .inl x1), (2, .inl x2), (3, .inl x3), (4, .inl z248)]) (st' := []) rfl ?_
              refine k_run 3 (pc' := 105) (l' := [(0, .inr (.inr 406)), (1, .inl x1), (2, .inl x2), (3, .inl x3), (4, .inl z248)]) (st' := [.inl x1, .inr (.inr 1349)]) rfl ?_
              refine k_ald (c := 1349) (j := (x1).toNat) (i := x1) (x := kx_1349) rfl rfl (by decide) rfl (by decide) (by omega) (by omega) hI258 (fun h263 => ?_)
              obtain ⟨t264, et266⟩ : ∃ t9, t9 = H257.2 1349 (x1).toNat := ⟨_, rfl⟩
              rw [← et266] at h263 ⊢
              have k265 : isG t264 := h263
              refine k_run 0 (pc' := 106) (l' := [(0, .inr (.inr 406)), (1, .inl x1), (2, .inl x2), (3, .inl x3), (4, .inl z248)]) (st' := [.inr (.inr t264)]) rfl ?_
              refine k_run 3 (pc' := 112) (l' := [(0, .inr (.inr 406)), (1, .inl x1), (2, .inl x2), (3, .inl x3), (4, .inl z248), (5, .inr (.inr t264))]) (st' := [.inl (H257.1 406 16)]) rfl ?_
              have g267 : 0 ≤ (H257.1 406 16) ∧ (H257.1 406 16) ≤ 1 := kn (x := kx_406) hI258 rfl 16
              have e268 : (H257.1 406 16) = (H245.1 406 16) := (hq259.1 406 16 rfl (by decide) (by decide)).1
              have e269 : (H245.1 406 16) = (H1.1 406 16) := (hq247.1 406 16 rfl (by decide) (by decide)).1
              have e270 : (H1.1 406 16) = (H.1 406 16) := (hf1.1 406 16 rfl (by decide) (by decide)).1
              refine h_zeq (off := 13) (t := 125) rfl rfl (by omega) (fun c271 => ?_) (fun c271 => ?_)
              · refine k_run 0 (pc' := 125) (l' := [(0, .inr (.inr 406)), (1, .inl x1), (2, .inl x2), (3, .inl x3), (4, .inl z248), (5, .inr (.inr t264))]) (st' := []) rfl ?_
                refine k_run 2 (pc' := 129) (l' := [(0, .inr (.inr 406)), (1, .inl x1), (2, .inl x2), (3, .inl x3), (4, .inl z248), (5, .inr (.inr t264))]) (st' := [.inl (H257.1 406 13)]) rfl ?_
                have g272 : -2147483648 ≤ (H257.1 406 13) ∧ (H257.1 406 13) ≤ 2147483647 := kn (x := kx_406) hI258 rfl 13
                have e273 : (H257.1 406 13) = (H245.1 406 13) := (hq259.1 406 13 rfl (by decide) (by decide)).1
                have e274 : (H245.1 406 13) = (H1.1 406 13) := (hq247.1 406 13 rfl (by decide) (by decide)).1
                have e275 : (H1.1 406 13) = (H.1 406 13) := (hf1.1 406 13 rfl (by decide) (by decide)).1
                refine h_zge (off := 12) (t := 141) rfl rfl (by omega) (fun c276 => ?_) (fun c276 => ?_)
                · refine k_run 0 (pc' := 141) (l' := [(0, .inr (.inr 406)), (1, .inl x1), (2, .inl x2), (3, .inl x3), (4, .inl z248), (5, .inr (.inr t264))]) (st' := []) rfl ?_
                  refine k_run 2 (pc' := 145) (l' := [(0, .inr (.inr 406)), (1, .inl x1), (2, .inl x2), (3, .inl x3), (4, .inl z248), (5, .inr (.inr t264))]) (st' := [.inl (H257.1 406 17)]) rfl ?_
                  have g277 : 0 ≤ (H257.1 406 17) ∧ (H257.1 406 17) ≤ 1 := kn (x := kx_406) hI258 rfl 17
                  have e278 : (H257.1 406 17) = (H245.1 406 17) := (hq259.1 406 17 rfl (by decide) (by decide)).1
                  have e279 : (H245.1 406 17) = (H1.1 406 17) := (hq247.1 406 17 rfl (by decide) (by decide)).1
                  have e280 : (H1.1 406 17) = (H.1 406 17) := (hf1.1 406 17 rfl (by decide) (by decide)).1
                  refine h_zeq (off := 12) (t := 157) rfl rfl (by omega) (fun c281 => ?_) (fun c281 => ?_)
                  · refine k_run 0 (pc' := 157) (l' := [(0, .inr (.inr 406)), (1, .inl x1), (2, .inl x2), (3, .inl x3), (4, .inl z248), (5, .inr (.inr t264))]) (st' := []) rfl ?_
                    refine k_run 4 (pc' := 166) (l' := [(0, .inr (.inr 406)), (1, .inl x1), (2, .inl x2), (3, .inl x3), (4, .inl z248), (5, .inr (.inr t264)), (6, .inl 1)]) (st' := [.inl 1]) rfl ?_
                    refine h_zne (off := 6) (t := 172) rfl rfl (by decide) (fun _ => ?_) (fun c => absurd c (by decide))
                    refine k_run 0 (pc' := 172) (l' := [(0, .inr (.inr 406)), (1, .inl x1), (2, .inl x2), (3, .inl x3), (4, .inl z248), (5, .inr (.inr t264)), (6, .inl 1)]) (st' := []) rfl ?_
                    refine k_run 5 (pc' := 23) (l' := [(0, .inr (.inr 406)), (1, .inl (x1 + 1)), (2, .inl z248), (3, .inl (x3 + 1)), (4, .inl z248), (5, .inr (.inr t264)), (6, .inl 1)]) (st' := []) rfl ?_
                    have g282 : 0 ≤ (H257.1 407 2) ∧ (H257.1 407 2) ≤ 12 := kn (x := kx_407) hI258 rfl 2
                    have e283 : (H257.1 407 2) = (H245.1 407 2) := (hq259.1 407 2 rfl (by decide) (by decide)).1
                    have e284 : (H245.1 407 2) = (H1.1 407 2) := (hq247.1 407 2 rfl (by decide) (by decide)).1
                    refine h_loc [0, 1, 2, 3] rfl ?_
                    exact ih H257 hI258 hf261 (x1 + 1) z248 (x3 + 1) (by omega) (by omega) (by omega) (by omega) (by omega) (by omega) (by omega) (by omega)
                  · refine k_run 0 (pc' := 148) (l' := [(0, .inr (.inr 406)), (1, .inl x1), (2, .inl x2), (3, .inl x3), (4, .inl z248), (5, .inr (.inr t264))]) (st' := []) rfl ?_
                    refine k_run 2 (pc' := 151) (l' := [(0, .inr (.inr 406)), (1, .inl x1), (2, .inl x2), (3, .inl x3), (4, .inl z248), (5, .inr (.inr t264))]) (st' := [.inr (.inr t264), .inr (.inr 406)]) rfl ?_
                    refine h_cv (i := 263) (j := 132) (b := 406) (M' := mt_132) (xs := [.inr (.inr t264)]) (rest := []) rfl rfl rfl rfl (zs_K (x := kx_406) rfl (by decide)) rfl (Nat.le_of_ble_eq_true rfl) (Nat.le_of_ble_eq_true rfl) (by omega) (k_Prover_replaceInHypotheses (by omega) hI258 k265) ?_
                    rintro _ H286 ⟨z289, rfl, g285, hI287, hq288⟩
                    have hf290 : fq [(407, 2), (407, 3), (407, 6), (407, 7), (407, 8)] [408, 409, 1349] true H H286 := fq_t hf261 hq288 rfl rfl rfl
                    refine k_run 0 (pc' := 154) (l' := [(0, .inr (.inr 406)), (1, .inl x1), (2, .inl x2), (3, .inl x3), (4, .inl z248), (5, .inr (.inr t264))]) (st' := [.inl z289]) rfl ?_
                    refine h_zeq (off := 7) (t := 161) rfl rfl (by omega) (fun c291 => ?_) (fun c291 => ?_)
                    · refine k_run 0 (pc' := 161) (l' := [(0, .inr (.inr 406)), (1, .inl x1), (2, .inl x2), (3, .inl x3), (4, .inl z248), (5, .inr (.inr t264))]) (st' := []) rfl ?_
                      refine k_run 3 (pc' := 166) (l' := [(0, .inr (.inr 406)), (1, .inl x1), (2, .inl x2), (3, .inl x3), (4, .inl z248), (5, .inr (.inr t264)), (6, .inl 0)]) (st' := [.inl 0]) rfl ?_
                      refine h_zne (off := 6) (t := 172) rfl rfl (by decide) (fun c => absurd c (by decide)) (fun _ => ?_)
                      refine k_run 0 (pc' := 169) (l' := [(0, .inr (.inr 406)), (1, .inl x1), (2, .inl x2), (3, .inl x3), (4, .inl z248), (5, .inr (.inr t264)), (6, .inl 0)]) (st' := []) rfl ?_
                      refine k_run 1 (pc' := 171) (l' := [(0, .inr (.inr 406)), (1, .inl x1), (2, .inl x2), (3, .inl x3), (4, .inl z248), (5, .inr (.inr t264)), (6, .inl 0)]) (st' := [.inl (-105)]) rfl ?_
                      refine h_reti (x := (-105)) rfl rfl ?_
                      exact ⟨_, rfl, (by omega), hI287, hf290⟩
                    · refine k_run 0 (pc' := 157) (l' := [(0, .inr (.inr 406)), (1, .inl x1), (2, .inl x2), (3, .inl x3), (4, .inl z248), (5, .inr (.inr t264))]) (st' := []) rfl ?_
                      refine k_run 4 (pc' := 166) (l' := [(0, .inr (.inr 406)), (1, .inl x1), (2, .inl x2), (3, .inl x3), (4, .inl z248), (5, .inr (.inr t264)), (6, .inl 1)]) (st' := [.inl 1]) rfl ?_
                      refine h_zne (off := 6) (t := 172) rfl rfl (by decide) (fun _ => ?_) (fun c => absurd c (by decide))
                      refine k_run 0 (pc' := 172) (l' := [(0, .inr (.inr 406)), (1, .inl x1), (2, .inl x2), (3, .inl x3), (4, .inl z248), (5, .inr (.inr t264)), (6, .inl 1)]) (st' := []) rfl ?_
                      refine k_run 5 (pc' := 23) (l' := [(0, .inr (.inr 406)), (1, .inl (x1 + 1)), (2, .inl z248), (3, .inl (x3 + 1)), (4, .inl z248), (5, .inr (.inr t264)), (6, .inl 1)]) (st' := []) rfl ?_
                      have g292 : 0 ≤ (H286.1 407 2) ∧ (H286.1 407 2) ≤ 12 := kn (x := kx_407) hI287 rfl 2
                      have e293 : (H286.1 407 2) = (H257.1 407 2) := (hq288.1 407 2 rfl (by decide) (by decide)).1
                      have e294 : (H257.1 407 2) = (H245.1 407 2) := (hq259.1 407 2 rfl (by decide) (by decide)).1
                      have e295 : (H245.1 407 2) = (H1.1 407 2) := (hq247.1 407 2 rfl (by decide) (by decide)).1
                      refine h_loc [0, 1, 2, 3] rfl ?_
                      exact ih H286 hI287 hf290 (x1 + 1) z248 (x3 + 1) (by omega) (by omega) (by omega) (by omega) (by omega) (by omega) (by omega) (by omega)
                · refine k_run 0 (pc' := 132) (l' := [(0, .inr (.inr 406)), (1, .inl x1), (2, .inl x2), (3, .inl x3), (4, .inl z248), (5, .inr (.inr t264))]) (st' := []) rfl ?_
                  refine k_run 2 (pc' := 135) (l' := [(0, .inr (.inr 406)), (1, .inl x1), (2, .inl x2), (3, .inl x3), (4, .inl z248), (5, .inr (.inr t264))]) (st' := [.inr (.inr t264), .inr (.inr 406)]) rfl ?_
                  refine h_cv (i := 260) (j := 131) (b := 406) (M' := mt_131) (xs := [.inr (.inr t264)]) (rest := []) rfl rfl rfl rfl (zs_K (x := kx_406) rfl (by decide)) rfl (Nat.le_of_ble_eq_true rfl) (Nat.le_of_ble_eq_true rfl) (by omega) (k_Prover_addCallHypothesis (by omega) hI258 k265) ?_
                  rintro _ H297 ⟨z300, rfl, g296, hI298, hq299⟩
                  have hf301 : fq [(407, 2), (407, 3), (407, 6), (407, 7), (407, 8)] [408, 409, 1349] true H H297 := fq_t hf261 hq299 rfl rfl rfl
                  refine k_run 0 (pc' := 138) (l' := [(0, .inr (.inr 406)), (1, .inl x1), (2, .inl x2), (3, .inl x3), (4, .inl z248), (5, .inr (.inr t264))]) (st' := [.inl z300]) rfl ?_
                  refine k_run 3 (pc' := 166) (l' := [(0, .inr (.inr 406)), (1, .inl x1), (2, .inl x2), (3, .inl x3), (4, .inl z248), (5, .inr (.inr t264)), (6, .inl z300)]) (st' := [.inl z300]) rfl ?_
                  refine h_zne (off := 6) (t := 172) rfl rfl (by omega) (fun c302 => ?_) (fun c302 => ?_)
                  · refine k_run 0 (pc' := 172) (l' := [(0, .inr (.inr 406)), (1, .inl x1), (2, .inl x2), (3, .inl x3), (4, .inl z248), (5, .inr (.inr t264)), (6, .inl z300)]) (st' := []) rfl ?_
                    refine k_run 5 (pc' := 23) (l' := [(0, .inr (.inr 406)), (1, .inl (x1 + 1)), (2, .inl z248), (3, .inl (x3 + 1)), (4, .inl z248), (5, .inr (.inr t264)), (6, .inl z300)]) (st' := []) rfl ?_
                    have g303 : 0 ≤ (H297.1 407 2) ∧ (H297.1 407 2) ≤ 12 := kn (x := kx_407) hI298 rfl 2
                    have e304 : (H297.1 407 2) = (H257.1 407 2) := (hq299.1 407 2 rfl (by decide) (by decide)).1
                    have e305 : (H257.1 407 2) = (H245.1 407 2) := (hq259.1 407 2 rfl (by decide) (by decide)).1
                    have e306 : (H245.1 407 2) = (H1.1 407 2) := (hq247.1 407 2 rfl (by decide) (by decide)).1
                    refine h_loc [0, 1, 2, 3] rfl ?_
                    exact ih H297 hI298 hf301 (x1 + 1) z248 (x3 + 1) (by omega) (by omega) (by omega) (by omega) (by omega) (by omega) (by omega) (by omega)
                  · refine k_run 0 (pc' := 169) (l' := [(0, .inr (.inr 406)), (1, .inl x1), (2, .inl x2), (3, .inl x3), (4, .inl z248), (5, .inr (.inr t264)), (6, .inl z300)]) (st' := []) rfl ?_
                    refine k_run 1 (pc' := 171) (l' := [(0, .inr (.inr 406)), (1, .inl x1), (2, .inl x2), (3, .inl x3), (4, .inl z248), (5, .inr (.inr t264)), (6, .inl z300)]) (st' := [.inl (-105)]) rfl ?_
                    refine h_reti (x := (-105)) rfl rfl ?_
                    exact ⟨_, rfl, (by omega), hI298, hf301⟩
              · refine k_run 0 (pc' := 115) (l' := [(0, .inr (.inr 406)), (1, .inl x1), (2, .inl x2), (3, .inl x3), (4, .inl z248), (5, .inr (.inr t264))]) (st' := []) rfl ?_
                refine k_run 3 (pc' := 119) (l' := [(0, .inr (.inr 406)), (1, .inl x1), (2, .inl x2), (3, .inl x3), (4, .inl z248), (5, .inr (.inr t264))]) (st' := [.inl x2, .inr (.inr t264), .inr (.inr 406)]) rfl ?_
                refine h_cv (i := 256) (j := 130) (b := 406) (M' := mt_130) (xs := [.inl x2, .inr (.inr t264)]) (rest := []) rfl rfl rfl rfl (zs_K (x := kx_406) rfl (by decide)) rfl (Nat.le_of_ble_eq_true rfl) (Nat.le_of_ble_eq_true rfl) (by omega) (k_Prover_addInductionHypotheses (by omega) hI258 k265 (by omega) (by omega)) ?_
                rintro _ H308 ⟨z311, rfl, g307, hI309, hq310⟩
                have hf312 : fq [(407, 2), (407, 3), (407, 6), (407, 7), (407, 8)] [408, 409, 1349] true H H308 := fq_t hf261 hq310 rfl rfl rfl
                refine k_run 0 (pc' := 122) (l' := [(0, .inr (.inr 406)), (1, .inl x1), (2, .inl x2), (3, .inl x3), (4, .inl z248), (5, .inr (.inr t264))]) (st' := [.inl z311]) rfl ?_
                refine k_run 3 (pc' := 166) (l' := [(0, .inr (.inr 406)), (1, .inl x1), (2, .inl x2), (3, .inl x3), (4, .inl z248), (5, .inr (.inr t264)), (6, .inl z311)]) (st' := [.inl z311]) rfl ?_
                refine h_zne (off := 6) (t := 172) rfl rfl (by omega) (fun c313 => ?_) (fun c313 => ?_)
                · refine k_run 0 (pc' := 172) (l' := [(0, .inr (.inr 406)), (1, .inl x1), (2, .inl x2), (3, .inl x3), (4, .inl z248), (5, .inr (.inr t264)), (6, .inl z311)]) (st' := []) rfl ?_
                  refine k_run 5 (pc' := 23) (l' := [(0, .inr (.inr 406)), (1, .inl (x1 + 1)), (2, .inl z248), (3, .inl (x3 + 1)), (4, .inl z248), (5, .inr (.inr t264)), (6, .inl z311)]) (st' := []) rfl ?_
                  have g314 : 0 ≤ (H308.1 407 2) ∧ (H308.1 407 2) ≤ 12 := kn (x := kx_407) hI309 rfl 2
                  have e315 : (H308.1 407 2) = (H257.1 407 2) := (hq310.1 407 2 rfl (by decide) (by decide)).1
                  have e316 : (H257.1 407 2) = (H245.1 407 2) := (hq259.1 407 2 rfl (by decide) (by decide)).1
                  have e317 : (H245.1 407 2) = (H1.1 407 2) := (hq247.1 407 2 rfl (by decide) (by decide)).1
                  refine h_loc [0, 1, 2, 3] rfl ?_
                  exact ih H308 hI309 hf312 (x1 + 1) z248 (x3 + 1) (by omega) (by omega) (by omega) (by omega) (by omega) (by omega) (by omega) (by omega)
                · refine k_run 0 (pc' := 169) (l' := [(0, .inr (.inr 406)), (1, .inl x1), (2, .inl x2), (3, .inl x3), (4, .inl z248), (5, .inr (.inr t264)), (6, .inl z311)]) (st' := []) rfl ?_
                  refine k_run 1 (pc' := 171) (l' := [(0, .inr (.inr 406)), (1, .inl x1), (2, .inl x2), (3, .inl x3), (4, .inl z248), (5, .inr (.inr t264)), (6, .inl z311)]) (st' := [.inl (-105)]) rfl ?_
                  refine h_reti (x := (-105)) rfl rfl ?_
                  exact ⟨_, rfl, (by omega), hI309, hf312⟩
            · refine k_run 0 (pc' := 97) (l' := [(0, .inr (.inr 406)), (1, .inl x1), (2, .inl x2), (3, .inl x3), (4, .inl z248)]) (st' := []) rfl ?_
              refine k_run 1 (pc' := 99) (l' := [(0, .inr (.inr 406)), (1, .inl x1), (2, .inl x2), (3, .inl x3), (4, .inl z248)]) (st' := [.inl (-105)]) rfl ?_
              refine h_reti (x := (-105)) rfl rfl ?_
              exact ⟨_, rfl, (by omega), hI258, hf261⟩
      · refine k_run 0 (pc' := 41) (l' := [(0, .inr (.inr 406)), (1, .inl x1), (2, .inl x2), (3, .inl x3)]) (st' := []) rfl ?_
        refine k_run 5 (pc' := 52) (l' := [(0, .inr (.inr 406)), (1, .inl x1), (2, .inl x2), (3, .inl x3)]) (st' := [.inl x3, .inr (.inr 15)]) rfl ?_
        refine k_ild (c := 15) (j := (x3).toNat) (i := x3) (x := kx_15) rfl rfl (by decide) rfl (by decide) (by omega) (by omega) ?_
        have g318 : -2 ≤ (H1.1 15 (x3).toNat) ∧ (H1.1 15 (x3).toNat) ≤ 100 := kn (x := kx_15) hI1 rfl (x3).toNat
        have e319 : (H1.1 15 (x3).toNat) = (H.1 15 (x3).toNat) := (hf1.1 15 (x3).toNat rfl (by decide) (fun q => by simp at q)).1
        refine k_run 0 (pc' := 53) (l' := [(0, .inr (.inr 406)), (1, .inl x1), (2, .inl x2), (3, .inl x3)]) (st' := [.inl (H1.1 15 (x3).toNat)]) rfl ?_
        refine k_run 2 (pc' := 57) (l' := [(0, .inr (.inr 406)), (1, .inl x1), (2, .inl x2), (3, .inl x3)]) (st' := [.inl (H1.1 406 14), .inl (H1.1 15 (x3).toNat)]) rfl ?_
        have g320 : -2147483648 ≤ (H1.1 406 14) ∧ (H1.1 406 14) ≤ 2147483647 := kn (x := kx_406) hI1 rfl 14
        have e321 : (H1.1 406 14) = (H.1 406 14) := (hf1.1 406 14 rfl (by decide) (by decide)).1
        refine h_ine (off := 121) (t := 178) rfl rfl (by omega) (by omega) (fun c322 => ?_) (fun c322 => ?_)
        · refine k_run 0 (pc' := 178) (l' := [(0, .inr (.inr 406)), (1, .inl x1), (2, .inl x2), (3, .inl x3)]) (st' := []) rfl ?_
          refine k_run 2 (pc' := 23) (l' := [(0, .inr (.inr 406)), (1, .inl x1), (2, .inl x2), (3, .inl (x3 + 1))]) (st' := []) rfl ?_
          exact ih H1 hI1 hf1 x1 x2 (x3 + 1) (by omega) (by omega) (by omega) (by omega) (by omega) (by omega) (by omega) (by omega)
        · refine k_run 0 (pc' := 60) (l' := [(0, .inr (.inr 406)), (1, .inl x1), (2, .inl x2), (3, .inl x3)]) (st' := []) rfl ?_
          refine k_run 3 (pc' := 63) (l' := [(0, .inr (.inr 406)), (1, .inl x1), (2, .inl x2), (3, .inl x3)]) (st' := [.inl x2, .inl x3, .inr (.inr 406)]) rfl ?_
          refine h_cv (i := 248) (j := 128) (b := 406) (M' := mt_128) (xs := [.inl x2, .inl x3]) (rest := []) rfl rfl rfl rfl (zs_K (x := kx_406) rfl (by decide)) rfl (Nat.le_of_ble_eq_true rfl) (Nat.le_of_ble_eq_true rfl) (by omega) (k_Prover_putInstead (by omega) hI1 (by omega) (by omega) (by omega) (by omega)) ?_
          rintro _ H324 ⟨z327, rfl, g323, hI325, hq326⟩
          have hf328 : fq [(407, 2), (407, 3), (407, 6), (407, 7), (407, 8)] [408, 409, 1349] true H H324 := fq_t hf1 hq326 rfl rfl rfl
          refine k_run 0 (pc' := 66) (l' := [(0, .inr (.inr 406)), (1, .inl x1), (2, .inl x2), (3, .inl x3)]) (st' := [.inl z327]) rfl ?_
          refine k_run 3 (pc' := 72) (l' := [(0, .inr (.inr 406)), (1, .inl x1), (2, .inl x2), (3, .inl x3), (4, .inl z327)]) (st' := [.inl 60, .inl z327]) rfl ?_
          refine h_igt (off := 25) (t := 97) rfl rfl (by omega) (by decide) (fun c329 => ?_) (fun c329 => ?_)
          · refine k_run 0 (pc' := 97) (l' := [(0, .inr (.inr 406)), (1, .inl x1), (2, .inl x2), (3, .inl x3), (4, .inl z327)]) (st' := []) rfl ?_
            refine k_run 1 (pc' := 99) (l' := [(0, .inr (.inr 406)), (1, .inl x1), (2, .inl x2), (3, .inl x3), (4, .inl z327)]) (st' := [.inl (-105)]) rfl ?_
            refine h_reti (x := (-105)) rfl rfl ?_
            exact ⟨_, rfl, (by omega), hI325, hf328⟩
          · refine k_run 0 (pc' := 75) (l' := [(0, .inr (.inr 406)), (1, .inl x1), (2, .inl x2), (3, .inl x3), (4, .inl z327)]) (st' := []) rfl ?_
            refine k_run 3 (pc' := 80) (l' := [(0, .inr (.inr 406)), (1, .inl x1), (2, .inl x2), (3, .inl x3), (4, .inl z327)]) (st' := [.inr (.inr 1349), .inl x1]) rfl ?_
            refine k_alen (c := 1349) (x := kx_1349) rfl rfl (by decide) rfl ?_
            refine k_run 0 (pc' := 81) (l' := [(0, .inr (.inr 406)), (1, .inl x1), (2, .inl x2), (3, .inl x3), (4, .inl z327)]) (st' := [.inl 12, .inl x1]) rfl ?_
            refine h_ige (off := 16) (t := 97) rfl rfl (by omega) (by decide) (fun c330 => ?_) (fun c330 => ?_)
            · refine k_run 0 (pc' := 97) (l' := [(0, .inr (.inr 406)), (1, .inl x1), (2, .inl x2), (3, .inl x3), (4, .inl z327)]) (st' := []) rfl ?_
              refine k_run 1 (pc' := 99) (l' := [(0, .inr (.inr 406)), (1, .inl x1), (2, .inl x2), (3, .inl x3), (4, .inl z327)]) (st' := [.inl (-105)]) rfl ?_
              refine h_reti (x := (-105)) rfl rfl ?_
              exact ⟨_, rfl, (by omega), hI325, hf328⟩
            · refine k_run 0 (pc' := 84) (l' := [(0, .inr (.inr 406)), (1, .inl x1), (2, .inl x2), (3, .inl x3), (4, .inl z327)]) (st' := []) rfl ?_
              refine k_run 4 (pc' := 90) (l' := [(0, .inr (.inr 406)), (1, .inl x1), (2, .inl x2), (3, .inl x3), (4, .inl z327)]) (st' := [.inl x1, .inr (.inr 1349), .inr (.inr 406)]) rfl ?_
              refine k_ald (c := 1349) (j := (x1).toNat) (i := x1) (x := kx_1349) rfl rfl (by decide) rfl (by decide) (by omega) (by omega) hI325 (fun h331 => ?_)
              obtain ⟨t332, et334⟩ : ∃ t9, t9 = H324.2 1349 (x1).toNat := ⟨_, rfl⟩
              rw [← et334] at h331 ⊢
              have k333 : isG t332 := h331
              refine k_run 0 (pc' := 91) (l' := [(0, .inr (.inr 406)), (1, .inl x1), (2, .inl x2), (3, .inl x3), (4, .inl z327)]) (st' := [.inr (.inr t332), .inr (.inr 406)]) rfl ?_
              refine h_cv (i := 252) (j := 129) (b := 406) (M' := mt_129) (xs := [.inr (.inr t332)]) (rest := []) rfl rfl rfl rfl (zs_K (x := kx_406) rfl (by decide)) rfl (Nat.le_of_ble_eq_true rfl) (Nat.le_of_ble_eq_true rfl) (by omega) (k_Prover_makeGoal (by omega) hI325 k333) ?_
              rintro _ H336 ⟨z339, rfl, g335, hI337, hq338⟩
              have hf340 : fq [(407, 2), (407, 3), (407, 6), (407, 7), (407, 8)] [408, 409, 1349] true H H336 := fq_t hf328 hq338 rfl rfl rfl
              refine k_run 0 (pc' := 94) (l' := [(0, .inr (.inr 406)), (1, .inl x1), (2, .inl x2), (3, .inl x3), (4, .inl z327)]) (st' := [.inl z339]) rfl ?_
              refine h_zne (off := 6) (t := 100) rfl rfl (by omega) (fun c341 => ?_) (fun c341 => ?_)
              · refine k_run 0 (pc' := 100) (l' := [(0, .inr (.inr 406)), (1, .inl x1), (2, .inl x2), (3, .inl x3), (4, .inl z327)]) (st' := []) rfl ?_
                refine k_run 3 (pc' := 105) (l' := [(0, .inr (.inr 406)), (1, .inl x1), (2, .inl x2), (3, .inl x3), (4, .inl z327)]) (st' := [.inl x1, .inr (.inr 1349)]) rfl ?_
                refine k_ald (c := 1349) (j := (x1).toNat) (i := x1) (x := kx_1349) rfl rfl (by decide) rfl (by decide) (by omega) (by omega) hI337 (fun h342 => ?_)
                obtain ⟨t343, et345⟩ : ∃ t9, t9 = H336.2 1349 (x1).toNat := ⟨_, rfl⟩
                rw [← et345] at h342 ⊢
                have k344 : isG t343 := h342
                refine k_run 0 (pc' := 106) (l' := [(0, .inr (.inr 406)), (1, .inl x1), (2, .inl x2), (3, .inl x3), (4, .inl z327)]) (st' := [.inr (.inr t343)]) rfl ?_
                refine k_run 3 (pc' := 112) (l' := [(0, .inr (.inr 406)), (1, .inl x1), (2, .inl x2), (3, .inl x3), (4, .inl z327), (5, .inr (.inr t343))]) (st' := [.inl (H336.1 406 16)]) rfl ?_
                have g346 : 0 ≤ (H336.1 406 16) ∧ (H336.1 406 16) ≤ 1 := kn (x := kx_406) hI337 rfl 16
                have e347 : (H336.1 406 16) = (H324.1 406 16) := (hq338.1 406 16 rfl (by decide) (by decide)).1
                have e348 : (H324.1 406 16) = (H1.1 406 16) := (hq326.1 406 16 rfl (by decide) (by decide)).1
                have e349 : (H1.1 406 16) = (H.1 406 16) := (hf1.1 406 16 rfl (by decide) (by decide)).1
                refine h_zeq (off := 13) (t := 125) rfl rfl (by omega) (fun c350 => ?_) (fun c350 => ?_)
                · refine k_run 0 (pc' := 125) (l' := [(0, .inr (.inr 406)), (1, .inl x1), (2, .inl x2), (3, .inl x3), (4, .inl z327), (5, .inr (.inr t343))]) (st' := []) rfl ?_
                  refine k_run 2 (pc' := 129) (l' := [(0, .inr (.inr 406)), (1, .inl x1), (2, .inl x2), (3, .inl x3), (4, .inl z327), (5, .inr (.inr t343))]) (st' := [.inl (H336.1 406 13)]) rfl ?_
                  have g351 : -2147483648 ≤ (H336.1 406 13) ∧ (H336.1 406 13) ≤ 2147483647 := kn (x := kx_406) hI337 rfl 13
                  have e352 : (H336.1 406 13) = (H324.1 406 13) := (hq338.1 406 13 rfl (by decide) (by decide)).1
                  have e353 : (H324.1 406 13) = (H1.1 406 13) := (hq326.1 406 13 rfl (by decide) (by decide)).1
                  have e354 : (H1.1 406 13) = (H.1 406 13) := (hf1.1 406 13 rfl (by decide) (by decide)).1
                  refine h_zge (off := 12) (t := 141) rfl rfl (by omega) (fun c355 => ?_) (fun c355 => ?_)
                  · refine k_run 0 (pc' := 141) (l' := [(0, .inr (.inr 406)), (1, .inl x1), (2, .inl x2), (3, .inl x3), (4, .inl z327), (5, .inr (.inr t343))]) (st' := []) rfl ?_
                    refine k_run 2 (pc' := 145) (l' := [(0, .inr (.inr 406)), (1, .inl x1), (2, .inl x2), (3, .inl x3), (4, .inl z327), (5, .inr (.inr t343))]) (st' := [.inl (H336.1 406 17)]) rfl ?_
                    have g356 : 0 ≤ (H336.1 406 17) ∧ (H336.1 406 17) ≤ 1 := kn (x := kx_406) hI337 rfl 17
                    have e357 : (H336.1 406 17) = (H324.1 406 17) := (hq338.1 406 17 rfl (by decide) (by decide)).1
                    have e358 : (H324.1 406 17) = (H1.1 406 17) := (hq326.1 406 17 rfl (by decide) (by decide)).1
                    have e359 : (H1.1 406 17) = (H.1 406 17) := (hf1.1 406 17 rfl (by decide) (by decide)).1
                    refine h_zeq (off := 12) (t := 157) rfl rfl (by omega) (fun c360 => ?_) (fun c360 => ?_)
                    · refine k_run 0 (pc' := 157) (l' := [(0, .inr (.inr 406)), (1, .inl x1), (2, .inl x2), (3, .inl x3), (4, .inl z327), (5, .inr (.inr t343))]) (st' := []) rfl ?_
                      refine k_run 4 (pc' := 166) (l' := [(0, .inr (.inr 406)), (1, .inl x1), (2, .inl x2), (3, .inl x3), (4, .inl z327), (5, .inr (.inr t343)), (6, .inl 1)]) (st' := [.inl 1]) rfl ?_
                      refine h_zne (off := 6) (t := 172) rfl rfl (by decide) (fun _ => ?_) (fun c => absurd c (by decide))
                      refine k_run 0 (pc' := 172) (l' := [(0, .inr (.inr 406)), (1, .inl x1), (2, .inl x2), (3, .inl x3), (4, .inl z327), (5, .inr (.inr t343)), (6, .inl 1)]) (st' := []) rfl ?_
                      refine k_run 5 (pc' := 23) (l' := [(0, .inr (.inr 406)), (1, .inl (x1 + 1)), (2, .inl z327), (3, .inl (x3 + 1)), (4, .inl z327), (5, .inr (.inr t343)), (6, .inl 1)]) (st' := []) rfl ?_
                      have g361 : 0 ≤ (H336.1 407 2) ∧ (H336.1 407 2) ≤ 12 := kn (x := kx_407) hI337 rfl 2
                      have e362 : (H336.1 407 2) = (H324.1 407 2) := (hq338.1 407 2 rfl (by decide) (by decide)).1
                      have e363 : (H324.1 407 2) = (H1.1 407 2) := (hq326.1 407 2 rfl (by decide) (by decide)).1
                      refine h_loc [0, 1, 2, 3] rfl ?_
                      exact ih H336 hI337 hf340 (x1 + 1) z327 (x3 + 1) (by omega) (by omega) (by omega) (by omega) (by omega) (by omega) (by omega) (by omega)
                    · refine k_run 0 (pc' := 148) (l' := [(0, .inr (.inr 406)), (1, .inl x1), (2, .inl x2), (3, .inl x3), (4, .inl z327), (5, .inr (.inr t343))]) (st' := []) rfl ?_
                      refine k_run 2 (pc' := 151) (l' := [(0, .inr (.inr 406)), (1, .inl x1), (2, .inl x2), (3, .inl x3), (4, .inl z327), (5, .inr (.inr t343))]) (st' := [.inr (.inr t343), .inr (.inr 406)]) rfl ?_
                      refine h_cv (i := 263) (j := 132) (b := 406) (M' := mt_132) (xs := [.inr (.inr t343)]) (rest := []) rfl rfl rfl rfl (zs_K (x := kx_406) rfl (by decide)) rfl (Nat.le_of_ble_eq_true rfl) (Nat.le_of_ble_eq_true rfl) (by omega) (k_Prover_replaceInHypotheses (by omega) hI337 k344) ?_
                      rintro _ H365 ⟨z368, rfl, g364, hI366, hq367⟩
                      have hf369 : fq [(407, 2), (407, 3), (407, 6), (407, 7), (407, 8)] [408, 409, 1349] true H H365 := fq_t hf340 hq367 rfl rfl rfl
                      refine k_run 0 (pc' := 154) (l' := [(0, .inr (.inr 406)), (1, .inl x1), (2, .inl x2), (3, .inl x3), (4, .inl z327), (5, .inr (.inr t343))]) (st' := [.inl z368]) rfl ?_
                      refine h_zeq (off := 7) (t := 161) rfl rfl (by omega) (fun c370 => ?_) (fun c370 => ?_)
                      · refine k_run 0 (pc' := 161) (l' := [(0, .inr (.inr 406)), (1, .inl x1), (2, .inl x2), (3, .inl x3), (4, .inl z327), (5, .inr (.inr t343))]) (st' := []) rfl ?_
                        refine k_run 3 (pc' := 166) (l' := [(0, .inr (.inr 406)), (1, .inl x1), (2, .inl x2), (3, .inl x3), (4, .inl z327), (5, .inr (.inr t343)), (6, .inl 0)]) (st' := [.inl 0]) rfl ?_
                        refine h_zne (off := 6) (t := 172) rfl rfl (by decide) (fun c => absurd c (by decide)) (fun _ => ?_)
                        refine k_run 0 (pc' := 169) (l' := [(0, .inr (.inr 406)), (1, .inl x1), (2, .inl x2), (3, .inl x3), (4, .inl z327), (5, .inr (.inr t343)), (6, .inl 0)]) (st' := []) rfl ?_
                        refine k_run 1 (pc' := 171) (l' := [(0, .inr (.inr 406)), (1, .inl x1), (2, .inl x2), (3, .inl x3), (4, .inl z327), (5, .inr (.inr t343)), (6, .inl 0)]) (st' := [.inl (-105)]) rfl ?_
                        refine h_reti (x := (-105)) rfl rfl ?_
                        exact ⟨_, rfl, (by omega), hI366, hf369⟩
                      · refine k_run 0 (pc' := 157) (l' := [(0, .inr (.inr 406)), (1, .inl x1), (2, .inl x2), (3, .inl x3), (4, .inl z327), (5, .inr (.inr t343))]) (st' := []) rfl ?_
                        refine k_run 4 (pc' := 166) (l' := [(0, .inr (.inr 406)), (1, .inl x1), (2, .inl x2), (3, .inl x3), (4, .inl z327), (5, .inr (.inr t343)), (6, .inl 1)]) (st' := [.inl 1]) rfl ?_
                        refine h_zne (off := 6) (t := 172) rfl rfl (by decide) (fun _ => ?_) (fun c => absurd c (by decide))
                        refine k_run 0 (pc' := 172) (l' := [(0, .inr (.inr 406)), (1, .inl x1), (2, .inl x2), (3, .inl x3), (4, .inl z327), (5, .inr (.inr t343)), (6, .inl 1)]) (st' := []) rfl ?_
                        refine k_run 5 (pc' := 23) (l' := [(0, .inr (.inr 406)), (1, .inl (x1 + 1)), (2, .inl z327), (3, .inl (x3 + 1)), (4, .inl z327), (5, .inr (.inr t343)), (6, .inl 1)]) (st' := []) rfl ?_
                        have g371 : 0 ≤ (H365.1 407 2) ∧ (H365.1 407 2) ≤ 12 := kn (x := kx_407) hI366 rfl 2
                        have e372 : (H365.1 407 2) = (H336.1 407 2) := (hq367.1 407 2 rfl (by decide) (by decide)).1
                        have e373 : (H336.1 407 2) = (H324.1 407 2) := (hq338.1 407 2 rfl (by decide) (by decide)).1
                        have e374 : (H324.1 407 2) = (H1.1 407 2) := (hq326.1 407 2 rfl (by decide) (by decide)).1
                        refine h_loc [0, 1, 2, 3] rfl ?_
                        exact ih H365 hI366 hf369 (x1 + 1) z327 (x3 + 1) (by omega) (by omega) (by omega) (by omega) (by omega) (by omega) (by omega) (by omega)
                  · refine k_run 0 (pc' := 132) (l' := [(0, .inr (.inr 406)), (1, .inl x1), (2, .inl x2), (3, .inl x3), (4, .inl z327), (5, .inr (.inr t343))]) (st' := []) rfl ?_
                    refine k_run 2 (pc' := 135) (l' := [(0, .inr (.inr 406)), (1, .inl x1), (2, .inl x2), (3, .inl x3), (4, .inl z327), (5, .inr (.inr t343))]) (st' := [.inr (.inr t343), .inr (.inr 406)]) rfl ?_
                    refine h_cv (i := 260) (j := 131) (b := 406) (M' := mt_131) (xs := [.inr (.inr t343)]) (rest := []) rfl rfl rfl rfl (zs_K (x := kx_406) rfl (by decide)) rfl (Nat.le_of_ble_eq_true rfl) (Nat.le_of_ble_eq_true rfl) (by omega) (k_Prover_addCallHypothesis (by omega) hI337 k344) ?_
                    rintro _ H376 ⟨z379, rfl, g375, hI377, hq378⟩
                    have hf380 : fq [(407, 2), (407, 3), (407, 6), (407, 7), (407, 8)] [408, 409, 1349] true H H376 := fq_t hf340 hq378 rfl rfl rfl
                    refine k_run 0 (pc' := 138) (l' := [(0, .inr (.inr 406)), (1, .inl x1), (2, .inl x2), (3, .inl x3), (4, .inl z327), (5, .inr (.inr t343))]) (st' := [.inl z379]) rfl ?_
                    refine k_run 3 (pc' := 166) (l' := [(0, .inr (.inr 406)), (1, .inl x1), (2, .inl x2), (3, .inl x3), (4, .inl z327), (5, .inr (.inr t343)), (6, .inl z379)]) (st' := [.inl z379]) rfl ?_
                    refine h_zne (off := 6) (t := 172) rfl rfl (by omega) (fun c381 => ?_) (fun c381 => ?_)
                    · refine k_run 0 (pc' := 172) (l' := [(0, .inr (.inr 406)), (1, .inl x1), (2, .inl x2), (3, .inl x3), (4, .inl z327), (5, .inr (.inr t343)), (6, .inl z379)]) (st' := []) rfl ?_
                      refine k_run 5 (pc' := 23) (l' := [(0, .inr (.inr 406)), (1, .inl (x1 + 1)), (2, .inl z327), (3, .inl (x3 + 1)), (4, .inl z327), (5, .inr (.inr t343)), (6, .inl z379)]) (st' := []) rfl ?_
                      have g382 : 0 ≤ (H376.1 407 2) ∧ (H376.1 407 2) ≤ 12 := kn (x := kx_407) hI377 rfl 2
                      have e383 : (H376.1 407 2) = (H336.1 407 2) := (hq378.1 407 2 rfl (by decide) (by decide)).1
                      have e384 : (H336.1 407 2) = (H324.1 407 2) := (hq338.1 407 2 rfl (by decide) (by decide)).1
                      have e385 : (H324.1 407 2) = (H1.1 407 2) := (hq326.1 407 2 rfl (by decide) (by decide)).1
                      refine h_loc [0, 1, 2, 3] rfl ?_
                      exact ih H376 hI377 hf380 (x1 + 1) z327 (x3 + 1) (by omega) (by omega) (by omega) (by omega) (by omega) (by omega) (by omega) (by omega)
                    · refine k_run 0 (pc' := 169) (l' := [(0, .inr (.inr 406)), (1, .inl x1), (2, .inl x2), (3, .inl x3), (4, .inl z327), (5, .inr (.inr t343)), (6, .inl z379)]) (st' := []) rfl ?_
                      refine k_run 1 (pc' := 171) (l' := [(0, .inr (.inr 406)), (1, .inl x1), (2, .inl x2), (3, .inl x3), (4, .inl z327), (5, .inr (.inr t343)), (6, .inl z379)]) (st' := [.inl (-105)]) rfl ?_
                      refine h_reti (x := (-105)) rfl rfl ?_
                      exact ⟨_, rfl, (by omega), hI377, hf380⟩
                · refine k_run 0 (pc' := 115) (l' := [(0, .inr (.inr 406)), (1, .inl x1), (2, .inl x2), (3, .inl x3), (4, .inl z327), (5, .inr (.inr t343))]) (st' := []) rfl ?_
                  refine k_run 3 (pc' := 119) (l' := [(0, .inr (.inr 406)), (1, .inl x1), (2, .inl x2), (3, .inl x3), (4, .inl z327), (5, .inr (.inr t343))]) (st' := [.inl x2, .inr (.inr t343), .inr (.inr 406)]) rfl ?_
                  refine h_cv (i := 256) (j := 130) (b := 406) (M' := mt_130) (xs := [.inl x2, .inr (.inr t343)]) (rest := []) rfl rfl rfl rfl (zs_K (x := kx_406) rfl (by decide)) rfl (Nat.le_of_ble_eq_true rfl) (Nat.le_of_ble_eq_true rfl) (by omega) (k_Prover_addInductionHypotheses (by omega) hI337 k344 (by omega) (by omega)) ?_
                  rintro _ H387 ⟨z390, rfl, g386, hI388, hq389⟩
                  have hf391 : fq [(407, 2), (407, 3), (407, 6), (407, 7), (407, 8)] [408, 409, 1349] true H H387 := fq_t hf340 hq389 rfl rfl rfl
                  refine k_run 0 (pc' := 122) (l' := [(0, .inr (.inr 406)), (1, .inl x1), (2, .inl x2), (3, .inl x3), (4, .inl z327), (5, .inr (.inr t343))]) (st' := [.inl z390]) rfl ?_
                  refine k_run 3 (pc' := 166) (l' := [(0, .inr (.inr 406)), (1, .inl x1), (2, .inl x2), (3, .inl x3), (4, .inl z327), (5, .inr (.inr t343)), (6, .inl z390)]) (st' := [.inl z390]) rfl ?_
                  refine h_zne (off := 6) (t := 172) rfl rfl (by omega) (fun c392 => ?_) (fun c392 => ?_)
                  · refine k_run 0 (pc' := 172) (l' := [(0, .inr (.inr 406)), (1, .inl x1), (2, .inl x2), (3, .inl x3), (4, .inl z327), (5, .inr (.inr t343)), (6, .inl z390)]) (st' := []) rfl ?_
                    refine k_run 5 (pc' := 23) (l' := [(0, .inr (.inr 406)), (1, .inl (x1 + 1)), (2, .inl z327), (3, .inl (x3 + 1)), (4, .inl z327), (5, .inr (.inr t343)), (6, .inl z390)]) (st' := []) rfl ?_
                    have g393 : 0 ≤ (H387.1 407 2) ∧ (H387.1 407 2) ≤ 12 := kn (x := kx_407) hI388 rfl 2
                    have e394 : (H387.1 407 2) = (H336.1 407 2) := (hq389.1 407 2 rfl (by decide) (by decide)).1
                    have e395 : (H336.1 407 2) = (H324.1 407 2) := (hq338.1 407 2 rfl (by decide) (by decide)).1
                    have e396 : (H324.1 407 2) = (H1.1 407 2) := (hq326.1 407 2 rfl (by decide) (by decide)).1
                    refine h_loc [0, 1, 2, 3] rfl ?_
                    exact ih H387 hI388 hf391 (x1 + 1) z327 (x3 + 1) (by omega) (by omega) (by omega) (by omega) (by omega) (by omega) (by omega) (by omega)
                  · refine k_run 0 (pc' := 169) (l' := [(0, .inr (.inr 406)), (1, .inl x1), (2, .inl x2), (3, .inl x3), (4, .inl z327), (5, .inr (.inr t343)), (6, .inl z390)]) (st' := []) rfl ?_
                    refine k_run 1 (pc' := 171) (l' := [(0, .inr (.inr 406)), (1, .inl x1), (2, .inl x2), (3, .inl x3), (4, .inl z327), (5, .inr (.inr t343)), (6, .inl z390)]) (st' := [.inl (-105)]) rfl ?_
                    refine h_reti (x := (-105)) rfl rfl ?_
                    exact ⟨_, rfl, (by omega), hI388, hf391⟩
              · refine k_run 0 (pc' := 97) (l' := [(0, .inr (.inr 406)), (1, .inl x1), (2, .inl x2), (3, .inl x3), (4, .inl z327)]) (st' := []) rfl ?_
                refine k_run 1 (pc' := 99) (l' := [(0, .inr (.inr 406)), (1, .inl x1), (2, .inl x2), (3, .inl x3), (4, .inl z327)]) (st' := [.inl (-105)]) rfl ?_
                refine h_reti (x := (-105)) rfl rfl ?_
                exact ⟨_, rfl, (by omega), hI337, hf340⟩
set_option maxRecDepth 100000 in
theorem k_Prover_split {d : Nat} (hd : 4 ≤ d) {H : hp} (hI : Inv H)  (hp0 : 1 ≤ H.1 407 2) : hG (zs zK) d mt_127 0 (zargs 0 [.inr (.inr 406)]) [] H (fun r9 H9 => ∃ z : Int, r9 = some (.inl z) ∧ ((-2147483648 ≤ z ∧ z ≤ 2147483647)) ∧ Inv H9 ∧ fq [(407, 2), (407, 3), (407, 6), (407, 7), (407, 8)] [408, 409, 1349] true H H9) := by
  refine k_run 0 (pc' := 0) (l' := [(0, .inr (.inr 406))]) (st' := []) rfl ?_
  refine k_run 5 (pc' := 9) (l' := [(0, .inr (.inr 406)), (1, .inl 0)]) (st' := [.inl (H.1 407 6)]) rfl ?_
  have g1 : 0 ≤ (H.1 407 6) ∧ (H.1 407 6) ≤ 60 := kn (x := kx_407) hI rfl 6
  refine k_run 3 (pc' := 14) (l' := [(0, .inr (.inr 406)), (1, .inl 0), (2, .inl (H.1 407 6))]) (st' := [.inl (H.1 406 18)]) rfl ?_
  have g2 : 0 ≤ (H.1 406 18) ∧ (H.1 406 18) ≤ 1 := kn (x := kx_406) hI rfl 18
  refine h_zeq (off := 7) (t := 21) rfl rfl (by omega) (fun c3 => ?_) (fun c3 => ?_)
  · refine k_run 0 (pc' := 21) (l' := [(0, .inr (.inr 406)), (1, .inl 0), (2, .inl (H.1 407 6))]) (st' := []) rfl ?_
    refine k_run 2 (pc' := 23) (l' := [(0, .inr (.inr 406)), (1, .inl 0), (2, .inl (H.1 407 6)), (3, .inl (-1))]) (st' := []) rfl ?_
    have g4 : 0 ≤ (H.1 407 2) ∧ (H.1 407 2) ≤ 12 := kn (x := kx_407) hI rfl 2
    exact (k_Prover_split_cut hd hI hp0 _) H hI (fq_rf _ _ _ _) (0 : Int) (H.1 407 6) (-1 : Int) (by decide) (by omega) (by decide) (by omega) (by omega) (by omega) (by omega) (Nat.lt_succ_self _)
  · refine k_run 0 (pc' := 17) (l' := [(0, .inr (.inr 406)), (1, .inl 0), (2, .inl (H.1 407 6))]) (st' := []) rfl ?_
    refine k_run 3 (pc' := 23) (l' := [(0, .inr (.inr 406)), (1, .inl 0), (2, .inl (H.1 407 6)), (3, .inl 0)]) (st' := []) rfl ?_
    have g5 : 0 ≤ (H.1 407 2) ∧ (H.1 407 2) ≤ 12 := kn (x := kx_407) hI rfl 2
    exact (k_Prover_split_cut hd hI hp0 _) H hI (fq_rf _ _ _ _) (0 : Int) (H.1 407 6) (0 : Int) (by decide) (by omega) (by decide) (by omega) (by omega) (by omega) (by omega) (Nat.lt_succ_self _)

/-! Prover.inductOver -/
set_option maxRecDepth 100000 in
theorem k_Prover_inductOver {d : Nat} (hd : 5 ≤ d) {H : hp} (hI : Inv H) {a : Int} (ha : -2147483648 ≤ a ∧ a ≤ 2147483647) (hp0 : 1 ≤ H.1 407 2) : hG (zs zK) d mt_124 0 (zargs 0 [.inr (.inr 406), .inl a]) [] H (fun r9 H9 => ∃ z : Int, r9 = some (.inl z) ∧ ((-2147483648 ≤ z ∧ z ≤ 2147483647)) ∧ Inv H9 ∧ fq [(406, 13), (406, 14), (406, 15), (406, 16), (406, 17), (406, 18), (407, 2), (407, 3), (407, 6), (407, 7), (407, 8)] [408, 409, 1349] true H H9) := by
  refine k_run 0 (pc' := 0) (l' := [(0, .inr (.inr 406)), (1, .inl a)]) (st' := []) rfl ?_
  refine k_run 4 (pc' := 8) (l' := [(0, .inr (.inr 406)), (1, .inl a)]) (st' := [.inl 0, .inr (.inr 408)]) rfl ?_
  refine k_ald (c := 408) (j := 0) (i := 0) (x := kx_408) rfl rfl (by decide) rfl (by decide) rfl (by decide) hI (fun h1 => ?_)
  obtain ⟨t2, et4⟩ : ∃ t9, t9 = H.2 408 0 := ⟨_, rfl⟩
  rw [← et4] at h1 ⊢
  have k3 : isG t2 := h1
  refine k_run 0 (pc' := 9) (l' := [(0, .inr (.inr 406)), (1, .inl a)]) (st' := [.inr (.inr t2)]) rfl ?_
  refine h_cv (i := 184) (j := 151) (b := t2) (M' := mt_151) (xs := []) (rest := []) rfl rfl rfl rfl (by rw [zs_K k3.1 (iG0 k3)]; rfl) rfl (Nat.le_of_ble_eq_true rfl) (Nat.le_of_ble_eq_true rfl) (by omega) (k_Goal_variables (by omega) hI k3) ?_
  rintro _ _ ⟨z9, rfl, g5, rfl⟩
  refine k_run 0 (pc' := 12) (l' := [(0, .inr (.inr 406)), (1, .inl a)]) (st' := [.inr (.inl z9)]) rfl ?_
  refine k_run 2 (pc' := 14) (l' := [(0, .inr (.inr 406)), (1, .inl a), (2, .inr (.inl z9))]) (st' := [.inl a]) rfl ?_
  refine h_zlt (off := 35) (t := 49) rfl rfl (by omega) (fun c10 => ?_) (fun c10 => ?_)
  · refine k_run 0 (pc' := 49) (l' := [(0, .inr (.inr 406)), (1, .inl a), (2, .inr (.inl z9))]) (st' := []) rfl ?_
    refine k_run 1 (pc' := 51) (l' := [(0, .inr (.inr 406)), (1, .inl a), (2, .inr (.inl z9))]) (st' := [.inl (-104)]) rfl ?_
    refine h_reti (x := (-104)) rfl rfl ?_
    exact ⟨_, rfl, (by omega), hI, (fq_rf _ _ _ _)⟩
  · refine k_run 0 (pc' := 17) (l' := [(0, .inr (.inr 406)), (1, .inl a), (2, .inr (.inl z9))]) (st' := []) rfl ?_
    refine k_run 4 (pc' := 25) (l' := [(0, .inr (.inr 406)), (1, .inl a), (2, .inr (.inl z9))]) (st' := [.inl (H.1 407 6), .inl a]) rfl ?_
    have g11 : 0 ≤ (H.1 407 6) ∧ (H.1 407 6) ≤ 60 := kn (x := kx_407) hI rfl 6
    refine h_ige (off := 24) (t := 49) rfl rfl (by omega) (by omega) (fun c12 => ?_) (fun c12 => ?_)
    · refine k_run 0 (pc' := 49) (l' := [(0, .inr (.inr 406)), (1, .inl a), (2, .inr (.inl z9))]) (st' := []) rfl ?_
      refine k_run 1 (pc' := 51) (l' := [(0, .inr (.inr 406)), (1, .inl a), (2, .inr (.inl z9))]) (st' := [.inl (-104)]) rfl ?_
      refine h_reti (x := (-104)) rfl rfl ?_
      exact ⟨_, rfl, (by omega), hI, (fq_rf _ _ _ _)⟩
    · refine k_run 0 (pc' := 28) (l' := [(0, .inr (.inr 406)), (1, .inl a), (2, .inr (.inl z9))]) (st' := []) rfl ?_
      refine k_run 3 (pc' := 31) (l' := [(0, .inr (.inr 406)), (1, .inl a), (2, .inr (.inl z9))]) (st' := [.inr (.inl (z_lshr z9 a))]) rfl ?_
      refine k_nrmj (fun y13 hy13 => ?_)
      refine k_run 2 (pc' := 33) (l' := [(0, .inr (.inr 406)), (1, .inl a), (2, .inr (.inl z9))]) (st' := [.inr (.inl (z_land y13 1))]) rfl ?_
      refine k_nrmj (fun y14 hy14 => ?_)
      refine k_run 2 (pc' := 35) (l' := [(0, .inr (.inr 406)), (1, .inl a), (2, .inr (.inl z9))]) (st' := [.inl (z_cmp y14 0)]) rfl ?_
      refine k_nrm (fun y15 hy15 => ?_)
      refine k_run 0 (pc' := 35) (l' := [(0, .inr (.inr 406)), (1, .inl a), (2, .inr (.inl z9))]) (st' := [.inl y15]) rfl ?_
      refine h_zeq (off := 14) (t := 49) rfl rfl (by omega) (fun c16 => ?_) (fun c16 => ?_)
      · refine k_run 0 (pc' := 49) (l' := [(0, .inr (.inr 406)), (1, .inl a), (2, .inr (.inl z9))]) (st' := []) rfl ?_
        refine k_run 1 (pc' := 51) (l' := [(0, .inr (.inr 406)), (1, .inl a), (2, .inr (.inl z9))]) (st' := [.inl (-104)]) rfl ?_
        refine h_reti (x := (-104)) rfl rfl ?_
        exact ⟨_, rfl, (by omega), hI, (fq_rf _ _ _ _)⟩
      · refine k_run 0 (pc' := 38) (l' := [(0, .inr (.inr 406)), (1, .inl a), (2, .inr (.inl z9))]) (st' := []) rfl ?_
        refine k_run 3 (pc' := 43) (l' := [(0, .inr (.inr 406)), (1, .inl a), (2, .inr (.inl z9))]) (st' := [.inl a, .inr (.inr 407)]) rfl ?_
        refine h_cv (i := 190) (j := 146) (b := 407) (M' := mt_146) (xs := [.inl a]) (rest := []) rfl rfl rfl rfl (zs_K (x := kx_407) rfl (by decide)) rfl (Nat.le_of_ble_eq_true rfl) (Nat.le_of_ble_eq_true rfl) (by omega) (k_Proof_isFixed (by omega) hI (by omega)) ?_
        rintro _ _ ⟨z21, rfl, g17, rfl⟩
        refine k_run 0 (pc' := 46) (l' := [(0, .inr (.inr 406)), (1, .inl a), (2, .inr (.inl z9))]) (st' := [.inl z21]) rfl ?_
        refine h_zeq (off := 6) (t := 52) rfl rfl (by omega) (fun c22 => ?_) (fun c22 => ?_)
        · refine k_run 0 (pc' := 52) (l' := [(0, .inr (.inr 406)), (1, .inl a), (2, .inr (.inl z9))]) (st' := []) rfl ?_
          refine k_run 2 (pc' := 54) (l' := [(0, .inr (.inr 406)), (1, .inl a), (2, .inr (.inl z9))]) (st' := [.inl a, .inr (.inr 406)]) rfl ?_
          refine h_cv (i := 193) (j := 126) (b := 406) (M' := mt_126) (xs := [.inl a]) (rest := []) rfl rfl rfl rfl (zs_K (x := kx_406) rfl (by decide)) rfl (Nat.le_of_ble_eq_true rfl) (Nat.le_of_ble_eq_true rfl) (by omega) (k_Prover_aimAtVariable (by omega) hI (by omega)) ?_
          rintro _ H24 ⟨rfl, hI25, hq26⟩
          have hf27 : fq [(406, 13), (406, 14), (406, 15), (406, 16), (406, 17), (406, 18), (407, 2), (407, 3), (407, 6), (407, 7), (407, 8)] [408, 409, 1349] true H H24 := fq_t (fq_rf _ _ _ _) hq26 rfl rfl rfl
          refine k_run 0 (pc' := 57) (l' := [(0, .inr (.inr 406)), (1, .inl a), (2, .inr (.inl z9))]) (st' := []) rfl ?_
          refine k_run 5 (pc' := 66) (l' := [(0, .inr (.inr 406)), (1, .inl a), (2, .inr (.inl z9))]) (st' := [.inr (.inl (H24.1 407 8)), .inr (.inl z9), .inr (.inr 406)]) rfl ?_
          have g28 : -9223372036854775808 ≤ (H24.1 407 8) ∧ (H24.1 407 8) ≤ 9223372036854775807 := kn (x := kx_407) hI25 rfl 8
          have e29 : (H24.1 407 8) = (H.1 407 8) := (hq26.1 407 8 rfl (by decide) (by decide)).1
          refine h_ldc2 (i := 118) (z := (-1)) rfl rfl rfl ?_
          refine k_run 0 (pc' := 69) (l' := [(0, .inr (.inr 406)), (1, .inl a), (2, .inr (.inl z9))]) (st' := [.inr (.inl (-1)), .inr (.inl (H24.1 407 8)), .inr (.inl z9), .inr (.inr 406)]) rfl ?_
          refine k_run 1 (pc' := 70) (l' := [(0, .inr (.inr 406)), (1, .inl a), (2, .inr (.inl z9))]) (st' := [.inr (.inl (z_lxor (H24.1 407 8) (-1))), .inr (.inl z9), .inr (.inr 406)]) rfl ?_
          refine k_nrmj (fun y30 hy30 => ?_)
          refine k_run 1 (pc' := 71) (l' := [(0, .inr (.inr 406)), (1, .inl a), (2, .inr (.inl z9))]) (st' := [.inr (.inl (z_land z9 y30)), .inr (.inr 406)]) rfl ?_
          refine k_nrmj (fun y31 hy31 => ?_)
          refine k_run 3 (pc' := 74) (l' := [(0, .inr (.inr 406)), (1, .inl a), (2, .inr (.inl z9))]) (st' := [.inr (.inl (z_lshl 1 a)), .inr (.inl y31), .inr (.inr 406)]) rfl ?_
          refine k_nrmj (fun y32 hy32 => ?_)
          refine h_ldc2 (i := 118) (z := (-1)) rfl rfl rfl ?_
          refine k_run 0 (pc' := 77) (l' := [(0, .inr (.inr 406)), (1, .inl a), (2, .inr (.inl z9))]) (st' := [.inr (.inl (-1)), .inr (.inl y32), .inr (.inl y31), .inr (.inr 406)]) rfl ?_
          refine k_run 1 (pc' := 78) (l' := [(0, .inr (.inr 406)), (1, .inl a), (2, .inr (.inl z9))]) (st' := [.inr (.inl (z_lxor y32 (-1))), .inr (.inl y31), .inr (.inr 406)]) rfl ?_
          refine k_nrmj (fun y33 hy33 => ?_)
          refine k_run 1 (pc' := 79) (l' := [(0, .inr (.inr 406)), (1, .inl a), (2, .inr (.inl z9))]) (st' := [.inr (.inl (z_land y31 y33)), .inr (.inr 406)]) rfl ?_
          refine k_nrmj (fun y34 hy34 => ?_)
          refine k_putl (a := 406) (x := kx_406) rfl rfl rfl (by decide) (by decide) rfl rfl rfl rfl hI25 rfl (fun H35 hI36 hw37 => ?_)
          have hf39 : fq [(406, 13), (406, 14), (406, 15), (406, 16), (406, 17), (406, 18), (407, 2), (407, 3), (407, 6), (407, 7), (407, 8)] [408, 409, 1349] true H H35 := fq_w hf27 hw37 (fpo (by decide) rfl)
          refine k_run 0 (pc' := 82) (l' := [(0, .inr (.inr 406)), (1, .inl a), (2, .inr (.inl z9))]) (st' := []) rfl ?_
          refine k_run 2 (pc' := 84) (l' := [(0, .inr (.inr 406)), (1, .inl a), (2, .inr (.inl z9))]) (st' := [.inl 1, .inr (.inr 406)]) rfl ?_
          refine k_putz (z := 1) (a := 406) (x := kx_406) rfl rfl rfl (by decide) (by decide) rfl rfl rfl rfl hI36 (by decide) rfl (fun H40 hI41 hw42 hv43 => ?_)
          have hf44 : fq [(406, 13), (406, 14), (406, 15), (406, 16), (406, 17), (406, 18), (407, 2), (407, 3), (407, 6), (407, 7), (407, 8)] [408, 409, 1349] true H H40 := fq_w hf39 hw42 (fpo (by decide) rfl)
          refine k_run 0 (pc' := 87) (l' := [(0, .inr (.inr 406)), (1, .inl a), (2, .inr (.inl z9))]) (st' := []) rfl ?_
          refine k_run 2 (pc' := 89) (l' := [(0, .inr (.inr 406)), (1, .inl a), (2, .inr (.inl z9))]) (st' := [.inl 1, .inr (.inr 406)]) rfl ?_
          refine k_putz (z := 1) (a := 406) (x := kx_406) rfl rfl rfl (by decide) (by decide) rfl rfl rfl rfl hI41 (by decide) rfl (fun H45 hI46 hw47 hv48 => ?_)
          have hf49 : fq [(406, 13), (406, 14), (406, 15), (406, 16), (406, 17), (406, 18), (407, 2), (407, 3), (407, 6), (407, 7), (407, 8)] [408, 409, 1349] true H H45 := fq_w hf44 hw47 (fpo (by decide) rfl)
          refine k_run 0 (pc' := 92) (l' := [(0, .inr (.inr 406)), (1, .inl a), (2, .inr (.inl z9))]) (st' := []) rfl ?_
          refine k_run 1 (pc' := 93) (l' := [(0, .inr (.inr 406)), (1, .inl a), (2, .inr (.inl z9))]) (st' := [.inr (.inr 406)]) rfl ?_
          have g50 : 0 ≤ (H45.1 407 2) ∧ (H45.1 407 2) ≤ 12 := kn (x := kx_407) hI46 rfl 2
          have e51 : (H45.1 407 2) = (H40.1 407 2) := hw47.2 _ _ (fun q => absurd q.1 (by decide))
          have e52 : (H40.1 407 2) = (H35.1 407 2) := hw42.2 _ _ (fun q => absurd q.1 (by decide))
          have e53 : (H35.1 407 2) = (H24.1 407 2) := hw37.2 _ _ (fun q => absurd q.1 (by decide))
          have e54 : (H24.1 407 2) = (H.1 407 2) := (hq26.1 407 2 rfl (by decide) (by decide)).1
          refine h_cv (i := 208) (j := 127) (b := 406) (M' := mt_127) (xs := []) (rest := []) rfl rfl rfl rfl (zs_K (x := kx_406) rfl (by decide)) rfl (Nat.le_of_ble_eq_true rfl) (Nat.le_of_ble_eq_true rfl) (by omega) (k_Prover_split (by omega) hI46 (by omega)) ?_
          rintro _ H56 ⟨z59, rfl, g55, hI57, hq58⟩
          have hf60 : fq [(406, 13), (406, 14), (406, 15), (406, 16), (406, 17), (406, 18), (407, 2), (407, 3), (407, 6), (407, 7), (407, 8)] [408, 409, 1349] true H H56 := fq_t hf49 hq58 rfl rfl rfl
          refine k_run 0 (pc' := 96) (l' := [(0, .inr (.inr 406)), (1, .inl a), (2, .inr (.inl z9))]) (st' := [.inl z59]) rfl ?_
          refine h_reti (x := z59) rfl rfl ?_
          exact ⟨_, rfl, (by omega), hI57, hf60⟩
        · refine k_run 0 (pc' := 49) (l' := [(0, .inr (.inr 406)), (1, .inl a), (2, .inr (.inl z9))]) (st' := []) rfl ?_
          refine k_run 1 (pc' := 51) (l' := [(0, .inr (.inr 406)), (1, .inl a), (2, .inr (.inl z9))]) (st' := [.inl (-104)]) rfl ?_
          refine h_reti (x := (-104)) rfl rfl ?_
          exact ⟨_, rfl, (by omega), hI, (fq_rf _ _ _ _)⟩

/-! Prover.splitAt -/
set_option maxRecDepth 100000 in
theorem k_Prover_splitAt {d : Nat} (hd : 5 ≤ d) {H : hp} (hI : Inv H) {a : Int} {b : Int} (ha : -2147483648 ≤ a ∧ a ≤ 2147483647) (hb : -2147483648 ≤ b ∧ b ≤ 2147483647) (hp0 : 1 ≤ H.1 407 2) : hG (zs zK) d mt_125 0 (zargs 0 [.inr (.inr 406), .inl a, .inl b]) [] H (fun r9 H9 => ∃ z : Int, r9 = some (.inl z) ∧ ((-2147483648 ≤ z ∧ z ≤ 2147483647)) ∧ Inv H9 ∧ fq [(406, 13), (406, 14), (406, 16), (406, 17), (406, 18), (407, 2), (407, 3), (407, 6), (407, 7), (407, 8)] [408, 409, 1349] true H H9) := by
  refine k_run 0 (pc' := 0) (l' := [(0, .inr (.inr 406)), (1, .inl a), (2, .inl b)]) (st' := []) rfl ?_
  refine k_run 2 (pc' := 2) (l' := [(0, .inr (.inr 406)), (1, .inl a), (2, .inl b)]) (st' := [.inl a, .inr (.inr 406)]) rfl ?_
  refine h_cv (i := 69) (j := 115) (b := 406) (M' := mt_115) (xs := [.inl a]) (rest := []) rfl rfl rfl rfl (zs_K (x := kx_406) rfl (by decide)) rfl (Nat.le_of_ble_eq_true rfl) (Nat.le_of_ble_eq_true rfl) (by omega) (k_Prover_sideOf (by omega) hI (by omega)) ?_
  rintro _ _ ⟨t5, n6, rfl, g1, rfl⟩
  have g1b := g1.2.2.2.2
  refine k_run 0 (pc' := 5) (l' := [(0, .inr (.inr 406)), (1, .inl a), (2, .inl b)]) (st' := [.inr (.inr t5)]) rfl ?_
  refine k_run 3 (pc' := 8) (l' := [(0, .inr (.inr 406)), (1, .inl a), (2, .inl b), (3, .inr (.inr t5))]) (st' := [.inl b, .inr (.inr t5)]) rfl ?_
  refine h_cv (i := 73) (j := 51) (b := t5) (M' := mt_51) (xs := [.inl b]) (rest := []) rfl rfl rfl rfl (by rw [zs_K g1.1 (iT0 g1)]; rfl) rfl (Nat.le_of_ble_eq_true rfl) (Nat.le_of_ble_eq_true rfl) (by omega) (k_Term_codeAt (by omega) hI g1 (by omega)) ?_
  rintro _ _ ⟨z11, rfl, g7, rfl⟩
  refine k_run 0 (pc' := 11) (l' := [(0, .inr (.inr 406)), (1, .inl a), (2, .inl b), (3, .inr (.inr t5))]) (st' := [.inl z11]) rfl ?_
  refine k_run 2 (pc' := 15) (l' := [(0, .inr (.inr 406)), (1, .inl a), (2, .inl b), (3, .inr (.inr t5)), (4, .inl z11)]) (st' := [.inl z11]) rfl ?_
  refine h_cs (i := 171) (j := 50) (M' := mt_50) (xs := [.inl z11]) (rest := []) rfl rfl rfl rfl rfl (Nat.le_of_ble_eq_true rfl) (Nat.le_of_ble_eq_true rfl) (by omega) (k_Term_indexOf (by omega)  (by omega)) ?_
  rintro _ _ ⟨z16, rfl, g12, rfl⟩
  refine k_run 0 (pc' := 18) (l' := [(0, .inr (.inr 406)), (1, .inl a), (2, .inl b), (3, .inr (.inr t5)), (4, .inl z11)]) (st' := [.inl z16]) rfl ?_
  refine k_run 3 (pc' := 22) (l' := [(0, .inr (.inr 406)), (1, .inl a), (2, .inl b), (3, .inr (.inr t5)), (4, .inl z11), (5, .inl z16)]) (st' := [.inl 0, .inr (.inr 406)]) rfl ?_
  refine k_putz (z := 0) (a := 406) (x := kx_406) rfl rfl rfl (by decide) (by decide) rfl rfl rfl rfl hI (by decide) rfl (fun H17 hI18 hw19 hv20 => ?_)
  have hf21 : fq [(406, 13), (406, 14), (406, 16), (406, 17), (406, 18), (407, 2), (407, 3), (407, 6), (407, 7), (407, 8)] [408, 409, 1349] true H H17 := fq_w (fq_rf _ _ _ _) hw19 (fpo (by decide) rfl)
  refine k_run 0 (pc' := 25) (l' := [(0, .inr (.inr 406)), (1, .inl a), (2, .inl b), (3, .inr (.inr t5)), (4, .inl z11), (5, .inl z16)]) (st' := []) rfl ?_
  refine k_run 1 (pc' := 26) (l' := [(0, .inr (.inr 406)), (1, .inl a), (2, .inl b), (3, .inr (.inr t5)), (4, .inl z11), (5, .inl z16)]) (st' := [.inl b]) rfl ?_
  refine h_zlt (off := 48) (t := 74) rfl rfl (by omega) (fun c22 => ?_) (fun c22 => ?_)
  · refine k_run 0 (pc' := 74) (l' := [(0, .inr (.inr 406)), (1, .inl a), (2, .inl b), (3, .inr (.inr t5)), (4, .inl z11), (5, .inl z16)]) (st' := []) rfl ?_
    refine k_run 1 (pc' := 75) (l' := [(0, .inr (.inr 406)), (1, .inl a), (2, .inl b), (3, .inr (.inr t5)), (4, .inl z11), (5, .inl z16)]) (st' := [.inl b]) rfl ?_
    refine h_zlt (off := 87) (t := 162) rfl rfl (by omega) (fun c23 => ?_) (fun c23 => ?_)
    · refine k_run 0 (pc' := 162) (l' := [(0, .inr (.inr 406)), (1, .inl a), (2, .inl b), (3, .inr (.inr t5)), (4, .inl z11), (5, .inl z16)]) (st' := []) rfl ?_
      refine k_run 1 (pc' := 164) (l' := [(0, .inr (.inr 406)), (1, .inl a), (2, .inl b), (3, .inr (.inr t5)), (4, .inl z11), (5, .inl z16)]) (st' := [.inl (-104)]) rfl ?_
      refine h_reti (x := (-104)) rfl rfl ?_
      exact ⟨_, rfl, (by omega), hI18, hf21⟩
    · exfalso
      omega
  · refine k_run 0 (pc' := 29) (l' := [(0, .inr (.inr 406)), (1, .inl a), (2, .inl b), (3, .inr (.inr t5)), (4, .inl z11), (5, .inl z16)]) (st' := []) rfl ?_
    refine k_run 1 (pc' := 31) (l' := [(0, .inr (.inr 406)), (1, .inl a), (2, .inl b), (3, .inr (.inr t5)), (4, .inl z11), (5, .inl z16)]) (st' := [.inl z11]) rfl ?_
    refine h_cs (i := 80) (j := 49) (M' := mt_49) (xs := [.inl z11]) (rest := []) rfl rfl rfl rfl rfl (Nat.le_of_ble_eq_true rfl) (Nat.le_of_ble_eq_true rfl) (by omega) (k_Term_kindOf (by omega)  (by omega)) ?_
    rintro _ _ ⟨z28, rfl, g24, rfl⟩
    refine k_run 0 (pc' := 34) (l' := [(0, .inr (.inr 406)), (1, .inl a), (2, .inl b), (3, .inr (.inr t5)), (4, .inl z11), (5, .inl z16)]) (st' := [.inl z28]) rfl ?_
    refine k_run 1 (pc' := 35) (l' := [(0, .inr (.inr 406)), (1, .inl a), (2, .inl b), (3, .inr (.inr t5)), (4, .inl z11), (5, .inl z16)]) (st' := [.inl 3, .inl z28]) rfl ?_
    refine h_ine (off := 39) (t := 74) rfl rfl (by omega) (by decide) (fun c29 => ?_) (fun c29 => ?_)
    · refine k_run 0 (pc' := 74) (l' := [(0, .inr (.inr 406)), (1, .inl a), (2, .inl b), (3, .inr (.inr t5)), (4, .inl z11), (5, .inl z16)]) (st' := []) rfl ?_
      refine k_run 1 (pc' := 75) (l' := [(0, .inr (.inr 406)), (1, .inl a), (2, .inl b), (3, .inr (.inr t5)), (4, .inl z11), (5, .inl z16)]) (st' := [.inl b]) rfl ?_
      refine h_zlt (off := 87) (t := 162) rfl rfl (by omega) (fun c30 => ?_) (fun c30 => ?_)
      · exfalso
        omega
      · refine k_run 0 (pc' := 78) (l' := [(0, .inr (.inr 406)), (1, .inl a), (2, .inl b), (3, .inr (.inr t5)), (4, .inl z11), (5, .inl z16)]) (st' := []) rfl ?_
        refine k_run 1 (pc' := 80) (l' := [(0, .inr (.inr 406)), (1, .inl a), (2, .inl b), (3, .inr (.inr t5)), (4, .inl z11), (5, .inl z16)]) (st' := [.inl z11]) rfl ?_
        refine h_cs (i := 80) (j := 49) (M' := mt_49) (xs := [.inl z11]) (rest := []) rfl rfl rfl rfl rfl (Nat.le_of_ble_eq_true rfl) (Nat.le_of_ble_eq_true rfl) (by omega) (k_Term_kindOf (by omega)  (by omega)) ?_
        rintro _ _ ⟨z35, rfl, g31, rfl⟩
        refine k_run 0 (pc' := 83) (l' := [(0, .inr (.inr 406)), (1, .inl a), (2, .inl b), (3, .inr (.inr t5)), (4, .inl z11), (5, .inl z16)]) (st' := [.inl z35]) rfl ?_
        refine k_run 1 (pc' := 84) (l' := [(0, .inr (.inr 406)), (1, .inl a), (2, .inl b), (3, .inr (.inr t5)), (4, .inl z11), (5, .inl z16)]) (st' := [.inl 2, .inl z35]) rfl ?_
        refine h_ine (off := 78) (t := 162) rfl rfl (by omega) (by decide) (fun c36 => ?_) (fun c36 => ?_)
        · refine k_run 0 (pc' := 162) (l' := [(0, .inr (.inr 406)), (1, .inl a), (2, .inl b), (3, .inr (.inr t5)), (4, .inl z11), (5, .inl z16)]) (st' := []) rfl ?_
          refine k_run 1 (pc' := 164) (l' := [(0, .inr (.inr 406)), (1, .inl a), (2, .inl b), (3, .inr (.inr t5)), (4, .inl z11), (5, .inl z16)]) (st' := [.inl (-104)]) rfl ?_
          refine h_reti (x := (-104)) rfl rfl ?_
          exact ⟨_, rfl, (by omega), hI18, hf21⟩
        · refine k_run 0 (pc' := 87) (l' := [(0, .inr (.inr 406)), (1, .inl a), (2, .inl b), (3, .inr (.inr t5)), (4, .inl z11), (5, .inl z16)]) (st' := []) rfl ?_
          refine k_run 5 (pc' := 99) (l' := [(0, .inr (.inr 406)), (1, .inl a), (2, .inl b), (3, .inr (.inr t5)), (4, .inl z11), (5, .inl z16)]) (st' := [.inl (H17.1 18 4), .inl z16]) rfl ?_
          have g37 : 0 ≤ (H17.1 18 4) ∧ (H17.1 18 4) ≤ 16 := kn (x := kx_18) hI18 rfl 4
          have e38 : (H17.1 18 4) = (H.1 18 4) := hw19.2 _ _ (fun q => absurd q.1 (by decide))
          refine h_ige (off := 63) (t := 162) rfl rfl (by omega) (by omega) (fun c39 => ?_) (fun c39 => ?_)
          · refine k_run 0 (pc' := 162) (l' := [(0, .inr (.inr 406)), (1, .inl a), (2, .inl b), (3, .inr (.inr t5)), (4, .inl z11), (5, .inl z16)]) (st' := []) rfl ?_
            refine k_run 1 (pc' := 164) (l' := [(0, .inr (.inr 406)), (1, .inl a), (2, .inl b), (3, .inr (.inr t5)), (4, .inl z11), (5, .inl z16)]) (st' := [.inl (-104)]) rfl ?_
            refine h_reti (x := (-104)) rfl rfl ?_
            exact ⟨_, rfl, (by omega), hI18, hf21⟩
          · refine k_run 0 (pc' := 102) (l' := [(0, .inr (.inr 406)), (1, .inl a), (2, .inl b), (3, .inr (.inr t5)), (4, .inl z11), (5, .inl z16)]) (st' := []) rfl ?_
            refine k_run 3 (pc' := 107) (l' := [(0, .inr (.inr 406)), (1, .inl a), (2, .inl b), (3, .inr (.inr t5)), (4, .inl z11), (5, .inl z16)]) (st' := [.inl 0, .inr (.inr 1352)]) rfl ?_
            refine k_puti (z := 0) (a := 1352) (x := (kTo 1352 60)) rfl rfl iT_1352.1 (iT0 iT_1352) iT_1352.2.2.1 rfl rfl rfl rfl hI18 (by decide) (show 0 ≤ (0 : Int) ∧ (0 : Int) ≤ 60 by omega) (fun H40 hI41 hw42 hv43 => ?_)
            have hf44 : fq [(406, 13), (406, 14), (406, 16), (406, 17), (406, 18), (407, 2), (407, 3), (407, 6), (407, 7), (407, 8)] [408, 409, 1349] true H H40 := fq_w hf21 hw42 (fpT iT_1352)
            refine k_run 0 (pc' := 110) (l' := [(0, .inr (.inr 406)), (1, .inl a), (2, .inl b), (3, .inr (.inr t5)), (4, .inl z11), (5, .inl z16)]) (st' := []) rfl ?_
            refine k_run 6 (pc' := 118) (l' := [(0, .inr (.inr 406)), (1, .inl a), (2, .inl b), (3, .inr (.inr t5)), (4, .inl z11), (5, .inl z16)]) (st' := [.inl b, .inr (.inr t5), .inl b, .inr (.inr t5), .inr (.inr 1352)]) rfl ?_
            refine h_cv (i := 77) (j := 53) (b := t5) (M' := mt_53) (xs := [.inl b]) (rest := [.inl b, .inr (.inr t5), .inr (.inr 1352)]) rfl rfl rfl rfl (by rw [zs_K g1.1 (iT0 g1)]; rfl) rfl (Nat.le_of_ble_eq_true rfl) (Nat.le_of_ble_eq_true rfl) (by omega) (k_Term_behind (by omega) hI41 g1 (by omega)) ?_
            rintro _ _ ⟨z49, rfl, g45, rfl⟩
            refine k_run 0 (pc' := 121) (l' := [(0, .inr (.inr 406)), (1, .inl a), (2, .inl b), (3, .inr (.inr t5)), (4, .inl z11), (5, .inl z16)]) (st' := [.inl z49, .inl b, .inr (.inr t5), .inr (.inr 1352)]) rfl ?_
            refine h_cv (i := 224) (j := 54) (b := 1352) (M' := mt_54) (xs := [.inl z49, .inl b, .inr (.inr t5)]) (rest := []) rfl rfl rfl rfl (by rw [zs_K iT_1352.1 (iT0 iT_1352)]; rfl) rfl (Nat.le_of_ble_eq_true rfl) (Nat.le_of_ble_eq_true rfl) (by omega) (k_Term_append (by omega) hI41 iT_1352 g1 (by omega) (by omega) (by omega)) ?_
            rintro _ H51 ⟨z54, rfl, g50, hI52, hq53⟩
            have hf55 : fq [(406, 13), (406, 14), (406, 16), (406, 17), (406, 18), (407, 2), (407, 3), (407, 6), (407, 7), (407, 8)] [408, 409, 1349] true H H51 := fq_t hf44 hq53 rfl rfl rfl
            refine k_run 0 (pc' := 124) (l' := [(0, .inr (.inr 406)), (1, .inl a), (2, .inl b), (3, .inr (.inr t5)), (4, .inl z11), (5, .inl z16)]) (st' := [.inl z54]) rfl ?_
            refine k_run 3 (pc' := 127) (l' := [(0, .inr (.inr 406)), (1, .inl a), (2, .inl b), (3, .inr (.inr t5)), (4, .inl z11), (5, .inl z16)]) (st' := [.inl (-1), .inr (.inr 406)]) rfl ?_
            refine k_putw (a := 406) (x := kx_406) rfl rfl rfl (by decide) (by decide) rfl rfl rfl rfl hI52 rfl (fun H56 hI57 hw58 => ?_)
            have hf60 : fq [(406, 13), (406, 14), (406, 16), (406, 17), (406, 18), (407, 2), (407, 3), (407, 6), (407, 7), (407, 8)] [408, 409, 1349] true H H56 := fq_w hf55 hw58 (fpo (by decide) rfl)
            refine k_run 0 (pc' := 130) (l' := [(0, .inr (.inr 406)), (1, .inl a), (2, .inl b), (3, .inr (.inr t5)), (4, .inl z11), (5, .inl z16)]) (st' := []) rfl ?_
            refine k_run 6 (pc' := 143) (l' := [(0, .inr (.inr 406)), (1, .inl a), (2, .inl b), (3, .inr (.inr t5)), (4, .inl z11), (5, .inl z16)]) (st' := [.inl z16, .inr (.inr 20), .inr (.inr 406)]) rfl ?_
            refine k_ild (c := 20) (j := (z16).toNat) (i := z16) (x := kx_20) rfl rfl (by decide) rfl (by decide) (by omega) (by omega) ?_
            have g61 : -2 ≤ (H56.1 20 (z16).toNat) ∧ (H56.1 20 (z16).toNat) ≤ 100 := kn (x := kx_20) hI57 rfl (z16).toNat
            have e62 : (H56.1 20 (z16).toNat) = (H51.1 20 (z16).toNat) := hw58.2 _ _ (fun q => absurd q.1 (by decide))
            have e63 : (H51.1 20 (z16).toNat) = (H40.1 20 (z16).toNat) := (hq53.1 20 (z16).toNat rfl (by decide) (fun q => by simp at q)).1
            have e64 : (H40.1 20 (z16).toNat) = (H17.1 20 (z16).toNat) := hw42.2 _ _ (fun q => by have h9 := (iTf iT_1352); rw [← q.1] at h9; exact absurd h9 (by decide))
            have e65 : (H17.1 20 (z16).toNat) = (H.1 20 (z16).toNat) := hw19.2 _ _ (fun q => absurd q.1 (by decide))
            refine k_run 0 (pc' := 144) (l' := [(0, .inr (.inr 406)), (1, .inl a), (2, .inl b), (3, .inr (.inr t5)), (4, .inl z11), (5, .inl z16)]) (st' := [.inl (H56.1 20 (z16).toNat), .inr (.inr 406)]) rfl ?_
            refine k_putw (a := 406) (x := kx_406) rfl rfl rfl (by decide) (by decide) rfl rfl rfl rfl hI57 rfl (fun H66 hI67 hw68 => ?_)
            have hf70 : fq [(406, 13), (406, 14), (406, 16), (406, 17), (406, 18), (407, 2), (407, 3), (407, 6), (407, 7), (407, 8)] [408, 409, 1349] true H H66 := fq_w hf60 hw68 (fpo (by decide) rfl)
            refine k_run 0 (pc' := 147) (l' := [(0, .inr (.inr 406)), (1, .inl a), (2, .inl b), (3, .inr (.inr t5)), (4, .inl z11), (5, .inl z16)]) (st' := []) rfl ?_
            refine k_run 2 (pc' := 149) (l' := [(0, .inr (.inr 406)), (1, .inl a), (2, .inl b), (3, .inr (.inr t5)), (4, .inl z11), (5, .inl z16)]) (st' := [.inl 1, .inr (.inr 406)]) rfl ?_
            refine k_putz (z := 1) (a := 406) (x := kx_406) rfl rfl rfl (by decide) (by decide) rfl rfl rfl rfl hI67 (by decide) rfl (fun H71 hI72 hw73 hv74 => ?_)
            have hf75 : fq [(406, 13), (406, 14), (406, 16), (406, 17), (406, 18), (407, 2), (407, 3), (407, 6), (407, 7), (407, 8)] [408, 409, 1349] true H H71 := fq_w hf70 hw73 (fpo (by decide) rfl)
            refine k_run 0 (pc' := 152) (l' := [(0, .inr (.inr 406)), (1, .inl a), (2, .inl b), (3, .inr (.inr t5)), (4, .inl z11), (5, .inl z16)]) (st' := []) rfl ?_
            refine k_run 2 (pc' := 154) (l' := [(0, .inr (.inr 406)), (1, .inl a), (2, .inl b), (3, .inr (.inr t5)), (4, .inl z11), (5, .inl z16)]) (st' := [.inl 0, .inr (.inr 406)]) rfl ?_
            refine k_putz (z := 0) (a := 406) (x := kx_406) rfl rfl rfl (by decide) (by decide) rfl rfl rfl rfl hI72 (by decide) rfl (fun H76 hI77 hw78 hv79 => ?_)
            have hf80 : fq [(406, 13), (406, 14), (406, 16), (406, 17), (406, 18), (407, 2), (407, 3), (407, 6), (407, 7), (407, 8)] [408, 409, 1349] true H H76 := fq_w hf75 hw78 (fpo (by decide) rfl)
            refine k_run 0 (pc' := 157) (l' := [(0, .inr (.inr 406)), (1, .inl a), (2, .inl b), (3, .inr (.inr t5)), (4, .inl z11), (5, .inl z16)]) (st' := []) rfl ?_
            refine k_run 1 (pc' := 158) (l' := [(0, .inr (.inr 406)), (1, .inl a), (2, .inl b), (3, .inr (.inr t5)), (4, .inl z11), (5, .inl z16)]) (st' := [.inr (.inr 406)]) rfl ?_
            have g81 : 0 ≤ (H76.1 407 2) ∧ (H76.1 407 2) ≤ 12 := kn (x := kx_407) hI77 rfl 2
            have e82 : (H76.1 407 2) = (H71.1 407 2) := hw78.2 _ _ (fun q => absurd q.1 (by decide))
            have e83 : (H71.1 407 2) = (H66.1 407 2) := hw73.2 _ _ (fun q => absurd q.1 (by decide))
            have e84 : (H66.1 407 2) = (H56.1 407 2) := hw68.2 _ _ (fun q => absurd q.1 (by decide))
            have e85 : (H56.1 407 2) = (H51.1 407 2) := hw58.2 _ _ (fun q => absurd q.1 (by decide))
            have e86 : (H51.1 407 2) = (H40.1 407 2) := (hq53.1 407 2 rfl (by decide) (by decide)).1
            have e87 : (H40.1 407 2) = (H17.1 407 2) := hw42.2 _ _ (fun q => by have h9 := (iTf iT_1352); rw [← q.1] at h9; exact absurd h9 (by decide))
            have e88 : (H17.1 407 2) = (H.1 407 2) := hw19.2 _ _ (fun q => absurd q.1 (by decide))
            refine h_cv (i := 208) (j := 127) (b := 406) (M' := mt_127) (xs := []) (rest := []) rfl rfl rfl rfl (zs_K (x := kx_406) rfl (by decide)) rfl (Nat.le_of_ble_eq_true rfl) (Nat.le_of_ble_eq_true rfl) (by omega) (k_Prover_split (by omega) hI77 (by omega)) ?_
            rintro _ H90 ⟨z93, rfl, g89, hI91, hq92⟩
            have hf94 : fq [(406, 13), (406, 14), (406, 16), (406, 17), (406, 18), (407, 2), (407, 3), (407, 6), (407, 7), (407, 8)] [408, 409, 1349] true H H90 := fq_t hf80 hq92 rfl rfl rfl
            refine k_run 0 (pc' := 161) (l' := [(0, .inr (.inr 406)), (1, .inl a), (2, .inl b), (3, .inr (.inr t5)), (4, .inl z11), (5, .inl z16)]) (st' := [.inl z93]) rfl ?_
            refine h_reti (x := z93) rfl rfl ?_
            exact ⟨_, rfl, (by omega), hI91, hf94⟩
    · refine k_run 0 (pc' := 38) (l' := [(0, .inr (.inr 406)), (1, .inl a), (2, .inl b), (3, .inr (.inr t5)), (4, .inl z11), (5, .inl z16)]) (st' := []) rfl ?_
      refine k_run 4 (pc' := 47) (l' := [(0, .inr (.inr 406)), (1, .inl a), (2, .inl b), (3, .inr (.inr t5)), (4, .inl z11), (5, .inl z16)]) (st' := [.inl (H17.1 407 6), .inl z16]) rfl ?_
      have g95 : 0 ≤ (H17.1 407 6) ∧ (H17.1 407 6) ≤ 60 := kn (x := kx_407) hI18 rfl 6
      have e96 : (H17.1 407 6) = (H.1 407 6) := hw19.2 _ _ (fun q => absurd q.1 (by decide))
      refine h_ige (off := 27) (t := 74) rfl rfl (by omega) (by omega) (fun c97 => ?_) (fun c97 => ?_)
      · refine k_run 0 (pc' := 74) (l' := [(0, .inr (.inr 406)), (1, .inl a), (2, .inl b), (3, .inr (.inr t5)), (4, .inl z11), (5, .inl z16)]) (st' := []) rfl ?_
        refine k_run 1 (pc' := 75) (l' := [(0, .inr (.inr 406)), (1, .inl a), (2, .inl b), (3, .inr (.inr t5)), (4, .inl z11), (5, .inl z16)]) (st' := [.inl b]) rfl ?_
        refine h_zlt (off := 87) (t := 162) rfl rfl (by omega) (fun c98 => ?_) (fun c98 => ?_)
        · exfalso
          omega
        · refine k_run 0 (pc' := 78) (l' := [(0, .inr (.inr 406)), (1, .inl a), (2, .inl b), (3, .inr (.inr t5)), (4, .inl z11), (5, .inl z16)]) (st' := []) rfl ?_
          refine k_run 1 (pc' := 80) (l' := [(0, .inr (.inr 406)), (1, .inl a), (2, .inl b), (3, .inr (.inr t5)), (4, .inl z11), (5, .inl z16)]) (st' := [.inl z11]) rfl ?_
          refine h_cs (i := 80) (j := 49) (M' := mt_49) (xs := [.inl z11]) (rest := []) rfl rfl rfl rfl rfl (Nat.le_of_ble_eq_true rfl) (Nat.le_of_ble_eq_true rfl) (by omega) (k_Term_kindOf (by omega)  (by omega)) ?_
          rintro _ _ ⟨z103, rfl, g99, rfl⟩
          refine k_run 0 (pc' := 83) (l' := [(0, .inr (.inr 406)), (1, .inl a), (2, .inl b), (3, .inr (.inr t5)), (4, .inl z11), (5, .inl z16)]) (st' := [.inl z103]) rfl ?_
          refine k_run 1 (pc' := 84) (l' := [(0, .inr (.inr 406)), (1, .inl a), (2, .inl b), (3, .inr (.inr t5)), (4, .inl z11), (5, .inl z16)]) (st' := [.inl 2, .inl z103]) rfl ?_
          refine h_ine (off := 78) (t := 162) rfl rfl (by omega) (by decide) (fun c104 => ?_) (fun c104 => ?_)
          · refine k_run 0 (pc' := 162) (l' := [(0, .inr (.inr 406)), (1, .inl a), (2, .inl b), (3, .inr (.inr t5)), (4, .inl z11), (5, .inl z16)]) (st' := []) rfl ?_
            refine k_run 1 (pc' := 164) (l' := [(0, .inr (.inr 406)), (1, .inl a), (2, .inl b), (3, .inr (.inr t5)), (4, .inl z11), (5, .inl z16)]) (st' := [.inl (-104)]) rfl ?_
            refine h_reti (x := (-104)) rfl rfl ?_
            exact ⟨_, rfl, (by omega), hI18, hf21⟩
          · refine k_run 0 (pc' := 87) (l' := [(0, .inr (.inr 406)), (1, .inl a), (2, .inl b), (3, .inr (.inr t5)), (4, .inl z11), (5, .inl z16)]) (st' := []) rfl ?_
            refine k_run 5 (pc' := 99) (l' := [(0, .inr (.inr 406)), (1, .inl a), (2, .inl b), (3, .inr (.inr t5)), (4, .inl z11), (5, .inl z16)]) (st' := [.inl (H17.1 18 4), .inl z16]) rfl ?_
            have g105 : 0 ≤ (H17.1 18 4) ∧ (H17.1 18 4) ≤ 16 := kn (x := kx_18) hI18 rfl 4
            have e106 : (H17.1 18 4) = (H.1 18 4) := hw19.2 _ _ (fun q => absurd q.1 (by decide))
            refine h_ige (off := 63) (t := 162) rfl rfl (by omega) (by omega) (fun c107 => ?_) (fun c107 => ?_)
            · refine k_run 0 (pc' := 162) (l' := [(0, .inr (.inr 406)), (1, .inl a), (2, .inl b), (3, .inr (.inr t5)), (4, .inl z11), (5, .inl z16)]) (st' := []) rfl ?_
              refine k_run 1 (pc' := 164) (l' := [(0, .inr (.inr 406)), (1, .inl a), (2, .inl b), (3, .inr (.inr t5)), (4, .inl z11), (5, .inl z16)]) (st' := [.inl (-104)]) rfl ?_
              refine h_reti (x := (-104)) rfl rfl ?_
              exact ⟨_, rfl, (by omega), hI18, hf21⟩
            · refine k_run 0 (pc' := 102) (l' := [(0, .inr (.inr 406)), (1, .inl a), (2, .inl b), (3, .inr (.inr t5)), (4, .inl z11), (5, .inl z16)]) (st' := []) rfl ?_
              refine k_run 3 (pc' := 107) (l' := [(0, .inr (.inr 406)), (1, .inl a), (2, .inl b), (3, .inr (.inr t5)), (4, .inl z11), (5, .inl z16)]) (st' := [.inl 0, .inr (.inr 1352)]) rfl ?_
              refine k_puti (z := 0) (a := 1352) (x := (kTo 1352 60)) rfl rfl iT_1352.1 (iT0 iT_1352) iT_1352.2.2.1 rfl rfl rfl rfl hI18 (by decide) (show 0 ≤ (0 : Int) ∧ (0 : Int) ≤ 60 by omega) (fun H108 hI109 hw110 hv111 => ?_)
              have hf112 : fq [(406, 13), (406, 14), (406, 16), (406, 17), (406, 18), (407, 2), (407, 3), (407, 6), (407, 7), (407, 8)] [408, 409, 1349] true H H108 := fq_w hf21 hw110 (fpT iT_1352)
              refine k_run 0 (pc' := 110) (l' := [(0, .inr (.inr 406)), (1, .inl a), (2, .inl b), (3, .inr (.inr t5)), (4, .inl z11), (5, .inl z16)]) (st' := []) rfl ?_
              refine k_run 6 (pc' := 118) (l' := [(0, .inr (.inr 406)), (1, .inl a), (2, .inl b), (3, .inr (.inr t5)), (4, .inl z11), (5, .inl z16)]) (st' := [.inl b, .inr (.inr t5), .inl b, .inr (.inr t5), .inr (.inr 1352)]) rfl ?_
              refine h_cv (i := 77) (j := 53) (b := t5) (M' := mt_53) (xs := [.inl b]) (rest := [.inl b, .inr (.inr t5), .inr (.inr 1352)]) rfl rfl rfl rfl (by rw [zs_K g1.1 (iT0 g1)]; rfl) rfl (Nat.le_of_ble_eq_true rfl) (Nat.le_of_ble_eq_true rfl) (by omega) (k_Term_behind (by omega) hI109 g1 (by omega)) ?_
              rintro _ _ ⟨z117, rfl, g113, rfl⟩
              refine k_run 0 (pc' := 121) (l' := [(0, .inr (.inr 406)), (1, .inl a), (2, .inl b), (3, .inr (.inr t5)), (4, .inl z11), (5, .inl z16)]) (st' := [.inl z117, .inl b, .inr (.inr t5), .inr (.inr 1352)]) rfl ?_
              refine h_cv (i := 224) (j := 54) (b := 1352) (M' := mt_54) (xs := [.inl z117, .inl b, .inr (.inr t5)]) (rest := []) rfl rfl rfl rfl (by rw [zs_K iT_1352.1 (iT0 iT_1352)]; rfl) rfl (Nat.le_of_ble_eq_true rfl) (Nat.le_of_ble_eq_true rfl) (by omega) (k_Term_append (by omega) hI109 iT_1352 g1 (by omega) (by omega) (by omega)) ?_
              rintro _ H119 ⟨z122, rfl, g118, hI120, hq121⟩
              have hf123 : fq [(406, 13), (406, 14), (406, 16), (406, 17), (406, 18), (407, 2), (407, 3), (407, 6), (407, 7), (407, 8)] [408, 409, 1349] true H H119 := fq_t hf112 hq121 rfl rfl rfl
              refine k_run 0 (pc' := 124) (l' := [(0, .inr (.inr 406)), (1, .inl a), (2, .inl b), (3, .inr (.inr t5)), (4, .inl z11), (5, .inl z16)]) (st' := [.inl z122]) rfl ?_
              refine k_run 3 (pc' := 127) (l' := [(0, .inr (.inr 406)), (1, .inl a), (2, .inl b), (3, .inr (.inr t5)), (4, .inl z11), (5, .inl z16)]) (st' := [.inl (-1), .inr (.inr 406)]) rfl ?_
              refine k_putw (a := 406) (x := kx_406) rfl rfl rfl (by decide) (by decide) rfl rfl rfl rfl hI120 rfl (fun H124 hI125 hw126 => ?_)
              have hf128 : fq [(406, 13), (406, 14), (406, 16), (406, 17), (406, 18), (407, 2), (407, 3), (407, 6), (407, 7), (407, 8)] [408, 409, 1349] true H H124 := fq_w hf123 hw126 (fpo (by decide) rfl)
              refine k_run 0 (pc' := 130) (l' := [(0, .inr (.inr 406)), (1, .inl a), (2, .inl b), (3, .inr (.inr t5)), (4, .inl z11), (5, .inl z16)]) (st' := []) rfl ?_
              refine k_run 6 (pc' := 143) (l' := [(0, .inr (.inr 406)), (1, .inl a), (2, .inl b), (3, .inr (.inr t5)), (4, .inl z11), (5, .inl z16)]) (st' := [.inl z16, .inr (.inr 20), .inr (.inr 406)]) rfl ?_
              refine k_ild (c := 20) (j := (z16).toNat) (i := z16) (x := kx_20) rfl rfl (by decide) rfl (by decide) (by omega) (by omega) ?_
              have g129 : -2 ≤ (H124.1 20 (z16).toNat) ∧ (H124.1 20 (z16).toNat) ≤ 100 := kn (x := kx_20) hI125 rfl (z16).toNat
              have e130 : (H124.1 20 (z16).toNat) = (H119.1 20 (z16).toNat) := hw126.2 _ _ (fun q => absurd q.1 (by decide))
              have e131 : (H119.1 20 (z16).toNat) = (H108.1 20 (z16).toNat) := (hq121.1 20 (z16).toNat rfl (by decide) (fun q => by simp at q)).1
              have e132 : (H108.1 20 (z16).toNat) = (H17.1 20 (z16).toNat) := hw110.2 _ _ (fun q => by have h9 := (iTf iT_1352); rw [← q.1] at h9; exact absurd h9 (by decide))
              have e133 : (H17.1 20 (z16).toNat) = (H.1 20 (z16).toNat) := hw19.2 _ _ (fun q => absurd q.1 (by decide))
              refine k_run 0 (pc' := 144) (l' := [(0, .inr (.inr 406)), (1, .inl a), (2, .inl b), (3, .inr (.inr t5)), (4, .inl z11), (5, .inl z16)]) (st' := [.inl (H124.1 20 (z16).toNat), .inr (.inr 406)]) rfl ?_
              refine k_putw (a := 406) (x := kx_406) rfl rfl rfl (by decide) (by decide) rfl rfl rfl rfl hI125 rfl (fun H134 hI135 hw136 => ?_)
              have hf138 : fq [(406, 13), (406, 14), (406, 16), (406, 17), (406, 18), (407, 2), (407, 3), (407, 6), (407, 7), (407, 8)] [408, 409, 1349] true H H134 := fq_w hf128 hw136 (fpo (by decide) rfl)
              refine k_run 0 (pc' := 147) (l' := [(0, .inr (.inr 406)), (1, .inl a), (2, .inl b), (3, .inr (.inr t5)), (4, .inl z11), (5, .inl z16)]) (st' := []) rfl ?_
              refine k_run 2 (pc' := 149) (l' := [(0, .inr (.inr 406)), (1, .inl a), (2, .inl b), (3, .inr (.inr t5)), (4, .inl z11), (5, .inl z16)]) (st' := [.inl 1, .inr (.inr 406)]) rfl ?_
              refine k_putz (z := 1) (a := 406) (x := kx_406) rfl rfl rfl (by decide) (by decide) rfl rfl rfl rfl hI135 (by decide) rfl (fun H139 hI140 hw141 hv142 => ?_)
              have hf143 : fq [(406, 13), (406, 14), (406, 16), (406, 17), (406, 18), (407, 2), (407, 3), (407, 6), (407, 7), (407, 8)] [408, 409, 1349] true H H139 := fq_w hf138 hw141 (fpo (by decide) rfl)
              refine k_run 0 (pc' := 152) (l' := [(0, .inr (.inr 406)), (1, .inl a), (2, .inl b), (3, .inr (.inr t5)), (4, .inl z11), (5, .inl z16)]) (st' := []) rfl ?_
              refine k_run 2 (pc' := 154) (l' := [(0, .inr (.inr 406)), (1, .inl a), (2, .inl b), (3, .inr (.inr t5)), (4, .inl z11), (5, .inl z16)]) (st' := [.inl 0, .inr (.inr 406)]) rfl ?_
              refine k_putz (z := 0) (a := 406) (x := kx_406) rfl rfl rfl (by decide) (by decide) rfl rfl rfl rfl hI140 (by decide) rfl (fun H144 hI145 hw146 hv147 => ?_)
              have hf148 : fq [(406, 13), (406, 14), (406, 16), (406, 17), (406, 18), (407, 2), (407, 3), (407, 6), (407, 7), (407, 8)] [408, 409, 1349] true H H144 := fq_w hf143 hw146 (fpo (by decide) rfl)
              refine k_run 0 (pc' := 157) (l' := [(0, .inr (.inr 406)), (1, .inl a), (2, .inl b), (3, .inr (.inr t5)), (4, .inl z11), (5, .inl z16)]) (st' := []) rfl ?_
              refine k_run 1 (pc' := 158) (l' := [(0, .inr (.inr 406)), (1, .inl a), (2, .inl b), (3, .inr (.inr t5)), (4, .inl z11), (5, .inl z16)]) (st' := [.inr (.inr 406)]) rfl ?_
              have g149 : 0 ≤ (H144.1 407 2) ∧ (H144.1 407 2) ≤ 12 := kn (x := kx_407) hI145 rfl 2
              have e150 : (H144.1 407 2) = (H139.1 407 2) := hw146.2 _ _ (fun q => absurd q.1 (by decide))
              have e151 : (H139.1 407 2) = (H134.1 407 2) := hw141.2 _ _ (fun q => absurd q.1 (by decide))
              have e152 : (H134.1 407 2) = (H124.1 407 2) := hw136.2 _ _ (fun q => absurd q.1 (by decide))
              have e153 : (H124.1 407 2) = (H119.1 407 2) := hw126.2 _ _ (fun q => absurd q.1 (by decide))
              have e154 : (H119.1 407 2) = (H108.1 407 2) := (hq121.1 407 2 rfl (by decide) (by decide)).1
              have e155 : (H108.1 407 2) = (H17.1 407 2) := hw110.2 _ _ (fun q => by have h9 := (iTf iT_1352); rw [← q.1] at h9; exact absurd h9 (by decide))
              have e156 : (H17.1 407 2) = (H.1 407 2) := hw19.2 _ _ (fun q => absurd q.1 (by decide))
              refine h_cv (i := 208) (j := 127) (b := 406) (M' := mt_127) (xs := []) (rest := []) rfl rfl rfl rfl (zs_K (x := kx_406) rfl (by decide)) rfl (Nat.le_of_ble_eq_true rfl) (Nat.le_of_ble_eq_true rfl) (by omega) (k_Prover_split (by omega) hI145 (by omega)) ?_
              rintro _ H158 ⟨z161, rfl, g157, hI159, hq160⟩
              have hf162 : fq [(406, 13), (406, 14), (406, 16), (406, 17), (406, 18), (407, 2), (407, 3), (407, 6), (407, 7), (407, 8)] [408, 409, 1349] true H H158 := fq_t hf148 hq160 rfl rfl rfl
              refine k_run 0 (pc' := 161) (l' := [(0, .inr (.inr 406)), (1, .inl a), (2, .inl b), (3, .inr (.inr t5)), (4, .inl z11), (5, .inl z16)]) (st' := [.inl z161]) rfl ?_
              refine h_reti (x := z161) rfl rfl ?_
              exact ⟨_, rfl, (by omega), hI159, hf162⟩
      · refine k_run 0 (pc' := 50) (l' := [(0, .inr (.inr 406)), (1, .inl a), (2, .inl b), (3, .inr (.inr t5)), (4, .inl z11), (5, .inl z16)]) (st' := []) rfl ?_
        refine k_run 2 (pc' := 53) (l' := [(0, .inr (.inr 406)), (1, .inl a), (2, .inl b), (3, .inr (.inr t5)), (4, .inl z11), (5, .inl z16)]) (st' := [.inl z16, .inr (.inr 406)]) rfl ?_
        refine h_cv (i := 193) (j := 126) (b := 406) (M' := mt_126) (xs := [.inl z16]) (rest := []) rfl rfl rfl rfl (zs_K (x := kx_406) rfl (by decide)) rfl (Nat.le_of_ble_eq_true rfl) (Nat.le_of_ble_eq_true rfl) (by omega) (k_Prover_aimAtVariable (by omega) hI18 (by omega)) ?_
        rintro _ H164 ⟨rfl, hI165, hq166⟩
        have hf167 : fq [(406, 13), (406, 14), (406, 16), (406, 17), (406, 18), (407, 2), (407, 3), (407, 6), (407, 7), (407, 8)] [408, 409, 1349] true H H164 := fq_t hf21 hq166 rfl rfl rfl
        refine k_run 0 (pc' := 56) (l' := [(0, .inr (.inr 406)), (1, .inl a), (2, .inl b), (3, .inr (.inr t5)), (4, .inl z11), (5, .inl z16)]) (st' := []) rfl ?_
        refine k_run 4 (pc' := 63) (l' := [(0, .inr (.inr 406)), (1, .inl a), (2, .inl b), (3, .inr (.inr t5)), (4, .inl z11), (5, .inl z16)]) (st' := [.inl z16, .inr (.inr 407), .inr (.inr 406)]) rfl ?_
        refine h_cv (i := 190) (j := 146) (b := 407) (M' := mt_146) (xs := [.inl z16]) (rest := [.inr (.inr 406)]) rfl rfl rfl rfl (zs_K (x := kx_407) rfl (by decide)) rfl (Nat.le_of_ble_eq_true rfl) (Nat.le_of_ble_eq_true rfl) (by omega) (k_Proof_isFixed (by omega) hI165 (by omega)) ?_
        rintro _ _ ⟨z172, rfl, g168, rfl⟩
        refine k_run 0 (pc' := 66) (l' := [(0, .inr (.inr 406)), (1, .inl a), (2, .inl b), (3, .inr (.inr t5)), (4, .inl z11), (5, .inl z16)]) (st' := [.inl z172, .inr (.inr 406)]) rfl ?_
        refine k_putz (z := z172) (a := 406) (x := kx_406) rfl rfl rfl (by decide) (by decide) rfl rfl rfl rfl hI165 (by omega) rfl (fun H173 hI174 hw175 hv176 => ?_)
        have hf177 : fq [(406, 13), (406, 14), (406, 16), (406, 17), (406, 18), (407, 2), (407, 3), (407, 6), (407, 7), (407, 8)] [408, 409, 1349] true H H173 := fq_w hf167 hw175 (fpo (by decide) rfl)
        refine k_run 0 (pc' := 69) (l' := [(0, .inr (.inr 406)), (1, .inl a), (2, .inl b), (3, .inr (.inr t5)), (4, .inl z11), (5, .inl z16)]) (st' := []) rfl ?_
        refine k_run 1 (pc' := 70) (l' := [(0, .inr (.inr 406)), (1, .inl a), (2, .inl b), (3, .inr (.inr t5)), (4, .inl z11), (5, .inl z16)]) (st' := [.inr (.inr 406)]) rfl ?_
        have g178 : 0 ≤ (H173.1 407 2) ∧ (H173.1 407 2) ≤ 12 := kn (x := kx_407) hI174 rfl 2
        have e179 : (H173.1 407 2) = (H164.1 407 2) := hw175.2 _ _ (fun q => absurd q.1 (by decide))
        have e180 : (H164.1 407 2) = (H17.1 407 2) := (hq166.1 407 2 rfl (by decide) (by decide)).1
        have e181 : (H17.1 407 2) = (H.1 407 2) := hw19.2 _ _ (fun q => absurd q.1 (by decide))
        refine h_cv (i := 208) (j := 127) (b := 406) (M' := mt_127) (xs := []) (rest := []) rfl rfl rfl rfl (zs_K (x := kx_406) rfl (by decide)) rfl (Nat.le_of_ble_eq_true rfl) (Nat.le_of_ble_eq_true rfl) (by omega) (k_Prover_split (by omega) hI174 (by omega)) ?_
        rintro _ H183 ⟨z186, rfl, g182, hI184, hq185⟩
        have hf187 : fq [(406, 13), (406, 14), (406, 16), (406, 17), (406, 18), (407, 2), (407, 3), (407, 6), (407, 7), (407, 8)] [408, 409, 1349] true H H183 := fq_t hf177 hq185 rfl rfl rfl
        refine k_run 0 (pc' := 73) (l' := [(0, .inr (.inr 406)), (1, .inl a), (2, .inl b), (3, .inr (.inr t5)), (4, .inl z11), (5, .inl z16)]) (st' := [.inl z186]) rfl ?_
        refine h_reti (x := z186) rfl rfl ?_
        exact ⟨_, rfl, (by omega), hI184, hf187⟩

/-! Prover.unfoldFirst -/
set_option maxRecDepth 100000 in
theorem k_Prover_unfoldFirst_cut {d : Nat} (hd : 5 ≤ d) {H : hp} (hI : Inv H)   : ∀ w : Nat, (∀ (H1 : hp), Inv H1 → fq [(366, 4), (366, 5), (407, 3)] [367] false H H1 → ∀ (x1 : Int) , (-2147483648 ≤ x1 ∧ x1 ≤ 2147483647) → (0 ≤ x1 ∧ x1 ≤ 2) → (((10000 * (10 - x1) + 5000).toNat) < w) → hG (zs zK) d mt_139 2 [(0, .inr (.inr 406)), (1, .inl x1)] [] H1 (fun r9 H9 => ∃ z : Int, r9 = some (.inl z) ∧ ((0 ≤ z ∧ z ≤ 1)) ∧ Inv H9 ∧ fq [(366, 4), (366, 5), (407, 3)] [367] false H H9)) ∧ (∀ (H1 : hp), Inv H1 → fq [(366, 4), (366, 5), (407, 3)] [367] false H H1 → ∀ (x1 : Int) (x2 : Int) (x3 : Int) , (-2147483648 ≤ x1 ∧ x1 ≤ 2147483647) → (-2147483648 ≤ x2 ∧ x2 ≤ 2147483647) → (-2147483648 ≤ x3 ∧ x3 ≤ 2147483647) → (0 ≤ x1 ∧ x1 ≤ 1) → (x2 ≤ 240) → (0 ≤ x3 ∧ x3 ≤ 300) → (((10000 * (10 - x1) + 1000 - x3).toNat) < w) → hG (zs zK) d mt_139 18 [(0, .inr (.inr 406)), (1, .inl x1), (2, .inl x2), (3, .inl x3)] [] H1 (fun r9 H9 => ∃ z : Int, r9 = some (.inl z) ∧ ((0 ≤ z ∧ z ≤ 1)) ∧ Inv H9 ∧ fq [(366, 4), (366, 5), (407, 3)] [367] false H H9)) := by
  intro w
  induction w with
  | zero => exact ⟨fun _ _ _ _ _ _ h => absurd h (Nat.not_lt_zero _), fun _ _ _ _ _ _ _ _ _ _ _ _ h => absurd h (Nat.not_lt_zero _)⟩
  | succ w ih =>
    refine ⟨?_, ?_⟩
    · intro H1 hI1 hf1 x1 hx1 hi0 hw
      refine k_run 2 (pc' := 4) (l' := [(0, .inr (.inr 406)), (1, .inl x1)]) (st' := [.inl 1, .inl x1]) rfl ?_
      refine h_igt (off := 42) (t := 46) rfl rfl (by omega) (by decide) (fun c1 => ?_) (fun c1 => ?_)
      · refine k_run 0 (pc' := 46) (l' := [(0, .inr (.inr 406)), (1, .inl x1)]) (st' := []) rfl ?_
        refine k_run 1 (pc' := 47) (l' := [(0, .inr (.inr 406)), (1, .inl x1)]) (st' := [.inl 0]) rfl ?_
        refine h_retz (x := 0) rfl rfl (by decide) ?_
        exact ⟨_, rfl, (by omega), hI1, hf1⟩
      · refine k_run 0 (pc' := 7) (l' := [(0, .inr (.inr 406)), (1, .inl x1)]) (st' := []) rfl ?_
        refine k_run 2 (pc' := 9) (l' := [(0, .inr (.inr 406)), (1, .inl x1)]) (st' := [.inl x1, .inr (.inr 406)]) rfl ?_
        refine h_cv (i := 69) (j := 115) (b := 406) (M' := mt_115) (xs := [.inl x1]) (rest := []) rfl rfl rfl rfl (zs_K (x := kx_406) rfl (by decide)) rfl (Nat.le_of_ble_eq_true rfl) (Nat.le_of_ble_eq_true rfl) (by omega) (k_Prover_sideOf (by omega) hI1 (by omega)) ?_
        rintro _ _ ⟨t6, n7, rfl, g2, rfl⟩
        have g2b := g2.2.2.2.2
        refine k_run 0 (pc' := 12) (l' := [(0, .inr (.inr 406)), (1, .inl x1)]) (st' := [.inr (.inr t6)]) rfl ?_
        refine k_get (a := t6) (x := (kTo t6 n7)) (v := .inl (H1.1 t6 1)) rfl rfl g2.1 (iT0 g2) rfl rfl rfl ?_
        have g8 : 0 ≤ (H1.1 t6 1) ∧ (H1.1 t6 1) ≤ n7 := kn hI1 g2.1 1
        refine k_run 0 (pc' := 15) (l' := [(0, .inr (.inr 406)), (1, .inl x1)]) (st' := [.inl (H1.1 t6 1)]) rfl ?_
        refine k_run 3 (pc' := 18) (l' := [(0, .inr (.inr 406)), (1, .inl x1), (2, .inl (H1.1 t6 1)), (3, .inl 0)]) (st' := []) rfl ?_
        exact ih.2 H1 hI1 hf1 x1 (H1.1 t6 1) (0 : Int) (by omega) (by omega) (by decide) (by omega) (by omega) (by omega) (by omega)
    · intro H1 hI1 hf1 x1 x2 x3 hx1 hx2 hx3 hi0 hi1 hi2 hw
      refine k_run 2 (pc' := 20) (l' := [(0, .inr (.inr 406)), (1, .inl x1), (2, .inl x2), (3, .inl x3)]) (st' := [.inl x2, .inl x3]) rfl ?_
      refine h_ige (off := 20) (t := 40) rfl rfl (by omega) (by omega) (fun c9 => ?_) (fun c9 => ?_)
      · refine k_run 0 (pc' := 40) (l' := [(0, .inr (.inr 406)), (1, .inl x1), (2, .inl x2), (3, .inl x3)]) (st' := []) rfl ?_
        refine k_run 2 (pc' := 2) (l' := [(0, .inr (.inr 406)), (1, .inl (x1 + 1)), (2, .inl x2), (3, .inl x3)]) (st' := []) rfl ?_
        refine h_loc [0, 1] rfl ?_
        exact ih.1 H1 hI1 hf1 (x1 + 1) (by omega) (by omega) (by omega)
      · refine k_run 0 (pc' := 23) (l' := [(0, .inr (.inr 406)), (1, .inl x1), (2, .inl x2), (3, .inl x3)]) (st' := []) rfl ?_
        refine k_run 3 (pc' := 26) (l' := [(0, .inr (.inr 406)), (1, .inl x1), (2, .inl x2), (3, .inl x3)]) (st' := [.inl x3, .inl x1, .inr (.inr 406)]) rfl ?_
        refine h_cv (i := 325) (j := 117) (b := 406) (M' := mt_117) (xs := [.inl x3, .inl x1]) (rest := []) rfl rfl rfl rfl (zs_K (x := kx_406) rfl (by decide)) rfl (Nat.le_of_ble_eq_true rfl) (Nat.le_of_ble_eq_true rfl) (by omega) (k_Prover_unfoldAt (by omega) hI1 (by omega) (by omega)) ?_
        rintro _ H11 ⟨z14, rfl, g10, hI12, hq13⟩
        have hf15 : fq [(366, 4), (366, 5), (407, 3)] [367] false H H11 := fq_t hf1 hq13 rfl rfl rfl
        refine k_run 0 (pc' := 29) (l' := [(0, .inr (.inr 406)), (1, .inl x1), (2, .inl x2), (3, .inl x3)]) (st' := [.inl z14]) rfl ?_
        refine h_zlt (off := 5) (t := 34) rfl rfl (by omega) (fun c16 => ?_) (fun c16 => ?_)
        · refine k_run 0 (pc' := 34) (l' := [(0, .inr (.inr 406)), (1, .inl x1), (2, .inl x2), (3, .inl x3)]) (st' := []) rfl ?_
          refine k_run 2 (pc' := 18) (l' := [(0, .inr (.inr 406)), (1, .inl x1), (2, .inl x2), (3, .inl (x3 + 1))]) (st' := []) rfl ?_
          exact ih.2 H11 hI12 hf15 x1 x2 (x3 + 1) (by omega) (by omega) (by omega) (by omega) (by omega) (by omega) (by omega)
        · refine k_run 0 (pc' := 32) (l' := [(0, .inr (.inr 406)), (1, .inl x1), (2, .inl x2), (3, .inl x3)]) (st' := []) rfl ?_
          refine k_run 1 (pc' := 33) (l' := [(0, .inr (.inr 406)), (1, .inl x1), (2, .inl x2), (3, .inl x3)]) (st' := [.inl 1]) rfl ?_
          refine h_retz (x := 1) rfl rfl (by decide) ?_
          exact ⟨_, rfl, (by omega), hI12, hf15⟩
set_option maxRecDepth 100000 in
theorem k_Prover_unfoldFirst {d : Nat} (hd : 5 ≤ d) {H : hp} (hI : Inv H)   : hG (zs zK) d mt_139 0 (zargs 0 [.inr (.inr 406)]) [] H (fun r9 H9 => ∃ z : Int, r9 = some (.inl z) ∧ ((0 ≤ z ∧ z ≤ 1)) ∧ Inv H9 ∧ fq [(366, 4), (366, 5), (407, 3)] [367] false H H9) := by
  refine k_run 0 (pc' := 0) (l' := [(0, .inr (.inr 406))]) (st' := []) rfl ?_
  refine k_run 2 (pc' := 2) (l' := [(0, .inr (.inr 406)), (1, .inl 0)]) (st' := []) rfl ?_
  exact (k_Prover_unfoldFirst_cut hd hI  _).1 H hI (fq_rf _ _ _ _) (0 : Int) (by decide) (by omega) (Nat.lt_succ_self _)

/-! Prover.rewriteFirst -/
set_option maxRecDepth 100000 in
theorem k_Prover_rewriteFirst_cut {d : Nat} (hd : 5 ≤ d) {H : hp} (hI : Inv H)   : ∀ w : Nat, (∀ (H1 : hp), Inv H1 → fq [(407, 3)] [367] false H H1 → ∀ (x1 : Int) , (-2147483648 ≤ x1 ∧ x1 ≤ 2147483647) → (0 ≤ x1 ∧ x1 ≤ 2) → (((10000 * (10 - x1) + 5000).toNat) < w) → hG (zs zK) d mt_141 2 [(0, .inr (.inr 406)), (1, .inl x1)] [] H1 (fun r9 H9 => ∃ z : Int, r9 = some (.inl z) ∧ ((0 ≤ z ∧ z ≤ 1)) ∧ Inv H9 ∧ fq [(407, 3)] [367] false H H9)) ∧ (∀ (H1 : hp), Inv H1 → fq [(407, 3)] [367] false H H1 → ∀ (x1 : Int) (x2 : Int) (x3 : Int) , (-2147483648 ≤ x1 ∧ x1 ≤ 2147483647) → (-2147483648 ≤ x2 ∧ x2 ≤ 2147483647) → (-2147483648 ≤ x3 ∧ x3 ≤ 2147483647) → (0 ≤ x1 ∧ x1 ≤ 1) → (x2 ≤ 240) → (0 ≤ x3 ∧ x3 ≤ 300) → (((10000 * (10 - x1) + 1000 - x3).toNat) < w) → hG (zs zK) d mt_141 18 [(0, .inr (.inr 406)), (1, .inl x1), (2, .inl x2), (3, .inl x3)] [] H1 (fun r9 H9 => ∃ z : Int, r9 = some (.inl z) ∧ ((0 ≤ z ∧ z ≤ 1)) ∧ Inv H9 ∧ fq [(407, 3)] [367] false H H9)) := by
  intro w
  induction w with
  | zero => exact ⟨fun _ _ _ _ _ _ h => absurd h (Nat.not_lt_zero _), fun _ _ _ _ _ _ _ _ _ _ _ _ h => absurd h (Nat.not_lt_zero _)⟩
  | succ w ih =>
    refine ⟨?_, ?_⟩
    · intro H1 hI1 hf1 x1 hx1 hi0 hw
      refine k_run 2 (pc' := 4) (l' := [(0, .inr (.inr 406)), (1, .inl x1)]) (st' := [.inl 1, .inl x1]) rfl ?_
      refine h_igt (off := 42) (t := 46) rfl rfl (by omega) (by decide) (fun c1 => ?_) (fun c1 => ?_)
      · refine k_run 0 (pc' := 46) (l' := [(0, .inr (.inr 406)), (1, .inl x1)]) (st' := []) rfl ?_
        refine k_run 1 (pc' := 47) (l' := [(0, .inr (.inr 406)), (1, .inl x1)]) (st' := [.inl 0]) rfl ?_
        refine h_retz (x := 0) rfl rfl (by decide) ?_
        exact ⟨_, rfl, (by omega), hI1, hf1⟩
      · refine k_run 0 (pc' := 7) (l' := [(0, .inr (.inr 406)), (1, .inl x1)]) (st' := []) rfl ?_
        refine k_run 2 (pc' := 9) (l' := [(0, .inr (.inr 406)), (1, .inl x1)]) (st' := [.inl x1, .inr (.inr 406)]) rfl ?_
        refine h_cv (i := 69) (j := 115) (b := 406) (M' := mt_115) (xs := [.inl x1]) (rest := []) rfl rfl rfl rfl (zs_K (x := kx_406) rfl (by decide)) rfl (Nat.le_of_ble_eq_true rfl) (Nat.le_of_ble_eq_true rfl) (by omega) (k_Prover_sideOf (by omega) hI1 (by omega)) ?_
        rintro _ _ ⟨t6, n7, rfl, g2, rfl⟩
        have g2b := g2.2.2.2.2
        refine k_run 0 (pc' := 12) (l' := [(0, .inr (.inr 406)), (1, .inl x1)]) (st' := [.inr (.inr t6)]) rfl ?_
        refine k_get (a := t6) (x := (kTo t6 n7)) (v := .inl (H1.1 t6 1)) rfl rfl g2.1 (iT0 g2) rfl rfl rfl ?_
        have g8 : 0 ≤ (H1.1 t6 1) ∧ (H1.1 t6 1) ≤ n7 := kn hI1 g2.1 1
        refine k_run 0 (pc' := 15) (l' := [(0, .inr (.inr 406)), (1, .inl x1)]) (st' := [.inl (H1.1 t6 1)]) rfl ?_
        refine k_run 3 (pc' := 18) (l' := [(0, .inr (.inr 406)), (1, .inl x1), (2, .inl (H1.1 t6 1)), (3, .inl 0)]) (st' := []) rfl ?_
        exact ih.2 H1 hI1 hf1 x1 (H1.1 t6 1) (0 : Int) (by omega) (by omega) (by decide) (by omega) (by omega) (by omega) (by omega)
    · intro H1 hI1 hf1 x1 x2 x3 hx1 hx2 hx3 hi0 hi1 hi2 hw
      refine k_run 2 (pc' := 20) (l' := [(0, .inr (.inr 406)), (1, .inl x1), (2, .inl x2), (3, .inl x3)]) (st' := [.inl x2, .inl x3]) rfl ?_
      refine h_ige (off := 20) (t := 40) rfl rfl (by omega) (by omega) (fun c9 => ?_) (fun c9 => ?_)
      · refine k_run 0 (pc' := 40) (l' := [(0, .inr (.inr 406)), (1, .inl x1), (2, .inl x2), (3, .inl x3)]) (st' := []) rfl ?_
        refine k_run 2 (pc' := 2) (l' := [(0, .inr (.inr 406)), (1, .inl (x1 + 1)), (2, .inl x2), (3, .inl x3)]) (st' := []) rfl ?_
        refine h_loc [0, 1] rfl ?_
        exact ih.1 H1 hI1 hf1 (x1 + 1) (by omega) (by omega) (by omega)
      · refine k_run 0 (pc' := 23) (l' := [(0, .inr (.inr 406)), (1, .inl x1), (2, .inl x2), (3, .inl x3)]) (st' := []) rfl ?_
        refine k_run 3 (pc' := 26) (l' := [(0, .inr (.inr 406)), (1, .inl x1), (2, .inl x2), (3, .inl x3)]) (st' := [.inl x3, .inl x1, .inr (.inr 406)]) rfl ?_
        refine h_cv (i := 341) (j := 120) (b := 406) (M' := mt_120) (xs := [.inl x3, .inl x1]) (rest := []) rfl rfl rfl rfl (zs_K (x := kx_406) rfl (by decide)) rfl (Nat.le_of_ble_eq_true rfl) (Nat.le_of_ble_eq_true rfl) (by omega) (k_Prover_rewriteAt (by omega) hI1 (by omega) (by omega)) ?_
        rintro _ H11 ⟨z14, rfl, g10, hI12, hq13⟩
        have hf15 : fq [(407, 3)] [367] false H H11 := fq_t hf1 hq13 rfl rfl rfl
        refine k_run 0 (pc' := 29) (l' := [(0, .inr (.inr 406)), (1, .inl x1), (2, .inl x2), (3, .inl x3)]) (st' := [.inl z14]) rfl ?_
        refine h_zlt (off := 5) (t := 34) rfl rfl (by omega) (fun c16 => ?_) (fun c16 => ?_)
        · refine k_run 0 (pc' := 34) (l' := [(0, .inr (.inr 406)), (1, .inl x1), (2, .inl x2), (3, .inl x3)]) (st' := []) rfl ?_
          refine k_run 2 (pc' := 18) (l' := [(0, .inr (.inr 406)), (1, .inl x1), (2, .inl x2), (3, .inl (x3 + 1))]) (st' := []) rfl ?_
          exact ih.2 H11 hI12 hf15 x1 x2 (x3 + 1) (by omega) (by omega) (by omega) (by omega) (by omega) (by omega) (by omega)
        · refine k_run 0 (pc' := 32) (l' := [(0, .inr (.inr 406)), (1, .inl x1), (2, .inl x2), (3, .inl x3)]) (st' := []) rfl ?_
          refine k_run 1 (pc' := 33) (l' := [(0, .inr (.inr 406)), (1, .inl x1), (2, .inl x2), (3, .inl x3)]) (st' := [.inl 1]) rfl ?_
          refine h_retz (x := 1) rfl rfl (by decide) ?_
          exact ⟨_, rfl, (by omega), hI12, hf15⟩
set_option maxRecDepth 100000 in
theorem k_Prover_rewriteFirst {d : Nat} (hd : 5 ≤ d) {H : hp} (hI : Inv H)   : hG (zs zK) d mt_141 0 (zargs 0 [.inr (.inr 406)]) [] H (fun r9 H9 => ∃ z : Int, r9 = some (.inl z) ∧ ((0 ≤ z ∧ z ≤ 1)) ∧ Inv H9 ∧ fq [(407, 3)] [367] false H H9) := by
  refine k_run 0 (pc' := 0) (l' := [(0, .inr (.inr 406))]) (st' := []) rfl ?_
  refine k_run 2 (pc' := 2) (l' := [(0, .inr (.inr 406)), (1, .inl 0)]) (st' := []) rfl ?_
  exact (k_Prover_rewriteFirst_cut hd hI  _).1 H hI (fq_rf _ _ _ _) (0 : Int) (by decide) (by omega) (Nat.lt_succ_self _)

/-! Prover.useFirst -/
set_option maxRecDepth 100000 in
theorem k_Prover_useFirst_cut {d : Nat} (hd : 6 ≤ d) {H : hp} (hI : Inv H)   : ∀ w : Nat, (∀ (H1 : hp), Inv H1 → fq [(406, 6), (406, 7), (406, 8), (406, 9), (406, 10), (407, 3)] [367] false H H1 → ∀ (x1 : Int) (x2 : Int) , (-2147483648 ≤ x1 ∧ x1 ≤ 2147483647) → (-2147483648 ≤ x2 ∧ x2 ≤ 2147483647) → (x1 ≤ 8) → (0 ≤ x2 ∧ x2 ≤ 8) → (((10000 - x2).toNat) < w) → hG (zs zK) d mt_140 15 [(0, .inr (.inr 406)), (1, .inl x1), (2, .inl x2)] [] H1 (fun r9 H9 => ∃ z : Int, r9 = some (.inl z) ∧ ((0 ≤ z ∧ z ≤ 1)) ∧ Inv H9 ∧ fq [(406, 6), (406, 7), (406, 8), (406, 9), (406, 10), (407, 3)] [367] false H H9)) ∧ (∀ (H1 : hp), Inv H1 → fq [(406, 6), (406, 7), (406, 8), (406, 9), (406, 10), (407, 3)] [367] false H H1 → ∀ (x1 : Int) (x2 : Int) , (-2147483648 ≤ x1 ∧ x1 ≤ 2147483647) → (-2147483648 ≤ x2 ∧ x2 ≤ 2147483647) → (0 ≤ x2 ∧ x2 ≤ 16) → (((1000 - x2).toNat) < w) → hG (zs zK) d mt_140 46 [(0, .inr (.inr 406)), (1, .inl x1), (2, .inl x2)] [] H1 (fun r9 H9 => ∃ z : Int, r9 = some (.inl z) ∧ ((0 ≤ z ∧ z ≤ 1)) ∧ Inv H9 ∧ fq [(406, 6), (406, 7), (406, 8), (406, 9), (406, 10), (407, 3)] [367] false H H9)) := by
  intro w
  induction w with
  | zero => exact ⟨fun _ _ _ _ _ _ _ _ _ h => absurd h (Nat.not_lt_zero _), fun _ _ _ _ _ _ _ _ h => absurd h (Nat.not_lt_zero _)⟩
  | succ w ih =>
    refine ⟨?_, ?_⟩
    · intro H1 hI1 hf1 x1 x2 hx1 hx2 hi0 hi1 hw
      refine k_run 2 (pc' := 17) (l' := [(0, .inr (.inr 406)), (1, .inl x1), (2, .inl x2)]) (st' := [.inl x1, .inl x2]) rfl ?_
      refine h_ige (off := 27) (t := 44) rfl rfl (by omega) (by omega) (fun c6 => ?_) (fun c6 => ?_)
      · refine k_run 0 (pc' := 44) (l' := [(0, .inr (.inr 406)), (1, .inl x1), (2, .inl x2)]) (st' := []) rfl ?_
        refine k_run 2 (pc' := 46) (l' := [(0, .inr (.inr 406)), (1, .inl x1), (2, .inl 0)]) (st' := []) rfl ?_
        exact ih.2 H1 hI1 hf1 x1 (0 : Int) (by omega) (by decide) (by omega) (by omega)
      · refine k_run 0 (pc' := 20) (l' := [(0, .inr (.inr 406)), (1, .inl x1), (2, .inl x2)]) (st' := []) rfl ?_
        refine k_run 3 (pc' := 23) (l' := [(0, .inr (.inr 406)), (1, .inl x1), (2, .inl x2)]) (st' := [.inl 0, .inl x2, .inr (.inr 406)]) rfl ?_
        refine h_cv (i := 328) (j := 119) (b := 406) (M' := mt_119) (xs := [.inl 0, .inl x2]) (rest := []) rfl rfl rfl rfl (zs_K (x := kx_406) rfl (by decide)) rfl (Nat.le_of_ble_eq_true rfl) (Nat.le_of_ble_eq_true rfl) (by omega) (k_Prover_chooseHypothesis (by omega) hI1 (by omega) (by decide)) ?_
        rintro _ H8 ⟨z11, rfl, g7, hI9, hq10⟩
        have hf12 : fq [(406, 6), (406, 7), (406, 8), (406, 9), (406, 10), (407, 3)] [367] false H H8 := fq_t hf1 hq10 rfl rfl rfl
        refine k_run 0 (pc' := 26) (l' := [(0, .inr (.inr 406)), (1, .inl x1), (2, .inl x2)]) (st' := [.inl z11]) rfl ?_
        refine h_zeq (off := 12) (t := 38) rfl rfl (by omega) (fun c13 => ?_) (fun c13 => ?_)
        · refine k_run 0 (pc' := 38) (l' := [(0, .inr (.inr 406)), (1, .inl x1), (2, .inl x2)]) (st' := []) rfl ?_
          refine k_run 2 (pc' := 15) (l' := [(0, .inr (.inr 406)), (1, .inl x1), (2, .inl (x2 + 1))]) (st' := []) rfl ?_
          exact ih.1 H8 hI9 hf12 x1 (x2 + 1) (by omega) (by omega) (by omega) (by omega) (by omega)
        · refine k_run 0 (pc' := 29) (l' := [(0, .inr (.inr 406)), (1, .inl x1), (2, .inl x2)]) (st' := []) rfl ?_
          refine k_run 1 (pc' := 30) (l' := [(0, .inr (.inr 406)), (1, .inl x1), (2, .inl x2)]) (st' := [.inr (.inr 406)]) rfl ?_
          refine h_cv (i := 332) (j := 141) (b := 406) (M' := mt_141) (xs := []) (rest := []) rfl rfl rfl rfl (zs_K (x := kx_406) rfl (by decide)) rfl (Nat.le_of_ble_eq_true rfl) (Nat.le_of_ble_eq_true rfl) (by omega) (k_Prover_rewriteFirst (by omega) hI9 ) ?_
          rintro _ H15 ⟨z18, rfl, g14, hI16, hq17⟩
          have hf19 : fq [(406, 6), (406, 7), (406, 8), (406, 9), (406, 10), (407, 3)] [367] false H H15 := fq_t hf12 hq17 rfl rfl rfl
          refine k_run 0 (pc' := 33) (l' := [(0, .inr (.inr 406)), (1, .inl x1), (2, .inl x2)]) (st' := [.inl z18]) rfl ?_
          refine h_zeq (off := 5) (t := 38) rfl rfl (by omega) (fun c20 => ?_) (fun c20 => ?_)
          · refine k_run 0 (pc' := 38) (l' := [(0, .inr (.inr 406)), (1, .inl x1), (2, .inl x2)]) (st' := []) rfl ?_
            refine k_run 2 (pc' := 15) (l' := [(0, .inr (.inr 406)), (1, .inl x1), (2, .inl (x2 + 1))]) (st' := []) rfl ?_
            exact ih.1 H15 hI16 hf19 x1 (x2 + 1) (by omega) (by omega) (by omega) (by omega) (by omega)
          · refine k_run 0 (pc' := 36) (l' := [(0, .inr (.inr 406)), (1, .inl x1), (2, .inl x2)]) (st' := []) rfl ?_
            refine k_run 1 (pc' := 37) (l' := [(0, .inr (.inr 406)), (1, .inl x1), (2, .inl x2)]) (st' := [.inl 1]) rfl ?_
            refine h_retz (x := 1) rfl rfl (by decide) ?_
            exact ⟨_, rfl, (by omega), hI16, hf19⟩
    · intro H1 hI1 hf1 x1 x2 hx1 hx2 hi0 hw
      refine k_run 4 (pc' := 54) (l' := [(0, .inr (.inr 406)), (1, .inl x1), (2, .inl x2)]) (st' := [.inl (H1.1 7 6), .inl x2]) rfl ?_
      have g21 : 0 ≤ (H1.1 7 6) ∧ (H1.1 7 6) ≤ 16 := kn (x := kx_7) hI1 rfl 6
      have e22 : (H1.1 7 6) = (H.1 7 6) := (hf1.1 7 6 rfl (by decide) (by decide)).1
      refine h_ige (off := 38) (t := 92) rfl rfl (by omega) (by omega) (fun c23 => ?_) (fun c23 => ?_)
      · refine k_run 0 (pc' := 92) (l' := [(0, .inr (.inr 406)), (1, .inl x1), (2, .inl x2)]) (st' := []) rfl ?_
        refine k_run 1 (pc' := 93) (l' := [(0, .inr (.inr 406)), (1, .inl x1), (2, .inl x2)]) (st' := [.inl 0]) rfl ?_
        refine h_retz (x := 0) rfl rfl (by decide) ?_
        exact ⟨_, rfl, (by omega), hI1, hf1⟩
      · refine k_run 0 (pc' := 57) (l' := [(0, .inr (.inr 406)), (1, .inl x1), (2, .inl x2)]) (st' := []) rfl ?_
        refine k_run 4 (pc' := 65) (l' := [(0, .inr (.inr 406)), (1, .inl x1), (2, .inl x2)]) (st' := [.inl (H1.1 407 4), .inl x2]) rfl ?_
        have g24 : -2147483648 ≤ (H1.1 407 4) ∧ (H1.1 407 4) ≤ 2147483647 := kn (x := kx_407) hI1 rfl 4
        have e25 : (H1.1 407 4) = (H.1 407 4) := (hf1.1 407 4 rfl (by decide) (by decide)).1
        refine h_ieq (off := 21) (t := 86) rfl rfl (by omega) (by omega) (fun c26 => ?_) (fun c26 => ?_)
        · refine k_run 0 (pc' := 86) (l' := [(0, .inr (.inr 406)), (1, .inl x1), (2, .inl x2)]) (st' := []) rfl ?_
          refine k_run 2 (pc' := 46) (l' := [(0, .inr (.inr 406)), (1, .inl x1), (2, .inl (x2 + 1))]) (st' := []) rfl ?_
          exact ih.2 H1 hI1 hf1 x1 (x2 + 1) (by omega) (by omega) (by omega) (by omega)
        · refine k_run 0 (pc' := 68) (l' := [(0, .inr (.inr 406)), (1, .inl x1), (2, .inl x2)]) (st' := []) rfl ?_
          refine k_run 3 (pc' := 71) (l' := [(0, .inr (.inr 406)), (1, .inl x1), (2, .inl x2)]) (st' := [.inl 0, .inl x2, .inr (.inr 406)]) rfl ?_
          refine h_cv (i := 338) (j := 118) (b := 406) (M' := mt_118) (xs := [.inl 0, .inl x2]) (rest := []) rfl rfl rfl rfl (zs_K (x := kx_406) rfl (by decide)) rfl (Nat.le_of_ble_eq_true rfl) (Nat.le_of_ble_eq_true rfl) (by omega) (k_Prover_chooseLaw (by omega) hI1 (by omega) (by decide)) ?_
          rintro _ H28 ⟨z31, rfl, g27, hI29, hq30⟩
          have hf32 : fq [(406, 6), (406, 7), (406, 8), (406, 9), (406, 10), (407, 3)] [367] false H H28 := fq_t hf1 hq30 rfl rfl rfl
          refine k_run 0 (pc' := 74) (l' := [(0, .inr (.inr 406)), (1, .inl x1), (2, .inl x2)]) (st' := [.inl z31]) rfl ?_
          refine h_zeq (off := 12) (t := 86) rfl rfl (by omega) (fun c33 => ?_) (fun c33 => ?_)
          · refine k_run 0 (pc' := 86) (l' := [(0, .inr (.inr 406)), (1, .inl x1), (2, .inl x2)]) (st' := []) rfl ?_
            refine k_run 2 (pc' := 46) (l' := [(0, .inr (.inr 406)), (1, .inl x1), (2, .inl (x2 + 1))]) (st' := []) rfl ?_
            exact ih.2 H28 hI29 hf32 x1 (x2 + 1) (by omega) (by omega) (by omega) (by omega)
          · refine k_run 0 (pc' := 77) (l' := [(0, .inr (.inr 406)), (1, .inl x1), (2, .inl x2)]) (st' := []) rfl ?_
            refine k_run 1 (pc' := 78) (l' := [(0, .inr (.inr 406)), (1, .inl x1), (2, .inl x2)]) (st' := [.inr (.inr 406)]) rfl ?_
            refine h_cv (i := 332) (j := 141) (b := 406) (M' := mt_141) (xs := []) (rest := []) rfl rfl rfl rfl (zs_K (x := kx_406) rfl (by decide)) rfl (Nat.le_of_ble_eq_true rfl) (Nat.le_of_ble_eq_true rfl) (by omega) (k_Prover_rewriteFirst (by omega) hI29 ) ?_
            rintro _ H35 ⟨z38, rfl, g34, hI36, hq37⟩
            have hf39 : fq [(406, 6), (406, 7), (406, 8), (406, 9), (406, 10), (407, 3)] [367] false H H35 := fq_t hf32 hq37 rfl rfl rfl
            refine k_run 0 (pc' := 81) (l' := [(0, .inr (.inr 406)), (1, .inl x1), (2, .inl x2)]) (st' := [.inl z38]) rfl ?_
            refine h_zeq (off := 5) (t := 86) rfl rfl (by omega) (fun c40 => ?_) (fun c40 => ?_)
            · refine k_run 0 (pc' := 86) (l' := [(0, .inr (.inr 406)), (1, .inl x1), (2, .inl x2)]) (st' := []) rfl ?_
              refine k_run 2 (pc' := 46) (l' := [(0, .inr (.inr 406)), (1, .inl x1), (2, .inl (x2 + 1))]) (st' := []) rfl ?_
              exact ih.2 H35 hI36 hf39 x1 (x2 + 1) (by omega) (by omega) (by omega) (by omega)
            · refine k_run 0 (pc' := 84) (l' := [(0, .inr (.inr 406)), (1, .inl x1), (2, .inl x2)]) (st' := []) rfl ?_
              refine k_run 1 (pc' := 85) (l' := [(0, .inr (.inr 406)), (1, .inl x1), (2, .inl x2)]) (st' := [.inl 1]) rfl ?_
              refine h_retz (x := 1) rfl rfl (by decide) ?_
              exact ⟨_, rfl, (by omega), hI36, hf39⟩
set_option maxRecDepth 100000 in
theorem k_Prover_useFirst {d : Nat} (hd : 6 ≤ d) {H : hp} (hI : Inv H)   : hG (zs zK) d mt_140 0 (zargs 0 [.inr (.inr 406)]) [] H (fun r9 H9 => ∃ z : Int, r9 = some (.inl z) ∧ ((0 ≤ z ∧ z ≤ 1)) ∧ Inv H9 ∧ fq [(406, 6), (406, 7), (406, 8), (406, 9), (406, 10), (407, 3)] [367] false H H9) := by
  refine k_run 0 (pc' := 0) (l' := [(0, .inr (.inr 406))]) (st' := []) rfl ?_
  refine k_run 4 (pc' := 8) (l' := [(0, .inr (.inr 406))]) (st' := [.inl 0, .inr (.inr 408)]) rfl ?_
  refine k_ald (c := 408) (j := 0) (i := 0) (x := kx_408) rfl rfl (by decide) rfl (by decide) rfl (by decide) hI (fun h1 => ?_)
  obtain ⟨t2, et4⟩ : ∃ t9, t9 = H.2 408 0 := ⟨_, rfl⟩
  rw [← et4] at h1 ⊢
  have k3 : isG t2 := h1
  refine k_run 0 (pc' := 9) (l' := [(0, .inr (.inr 406))]) (st' := [.inr (.inr t2)]) rfl ?_
  refine k_get (a := t2) (x := (kGo t2)) (v := .inl (H.1 t2 2)) rfl rfl k3.1 (iG0 k3) rfl rfl rfl ?_
  have g5 : 0 ≤ (H.1 t2 2) ∧ (H.1 t2 2) ≤ 8 := kn hI k3.1 2
  refine k_run 0 (pc' := 12) (l' := [(0, .inr (.inr 406))]) (st' := [.inl (H.1 t2 2)]) rfl ?_
  refine k_run 3 (pc' := 15) (l' := [(0, .inr (.inr 406)), (1, .inl (H.1 t2 2)), (2, .inl 0)]) (st' := []) rfl ?_
  exact (k_Prover_useFirst_cut hd hI  _).1 H hI (fq_rf _ _ _ _) (H.1 t2 2) (0 : Int) (by omega) (by decide) (by omega) (by omega) (Nat.lt_succ_self _)

/-! Prover.splitFirst -/
set_option maxRecDepth 100000 in
theorem k_Prover_splitFirst_cut {d : Nat} (hd : 6 ≤ d) {H : hp} (hI : Inv H)  (hp0 : 1 ≤ H.1 407 2) : ∀ w : Nat, (∀ (H1 : hp), Inv H1 → fq [(366, 4), (366, 5), (406, 13), (406, 14), (406, 15), (406, 16), (406, 17), (406, 18), (407, 2), (407, 3), (407, 6), (407, 7), (407, 8)] [367, 408, 409, 1349] true H H1 → ∀ (x1 : Int) , (-2147483648 ≤ x1 ∧ x1 ≤ 2147483647) → (0 ≤ x1 ∧ x1 ≤ 2) → (H1.1 407 2 = H.1 407 2) → (((10000 * (10 - x1) + 5000).toNat) < w) → hG (zs zK) d mt_142 20 [(0, .inr (.inr 406)), (1, .inl x1)] [] H1 (fun r9 H9 => ∃ z : Int, r9 = some (.inl z) ∧ ((0 ≤ z ∧ z ≤ 1)) ∧ Inv H9 ∧ fq [(366, 4), (366, 5), (406, 13), (406, 14), (406, 15), (406, 16), (406, 17), (406, 18), (407, 2), (407, 3), (407, 6), (407, 7), (407, 8)] [367, 408, 409, 1349] true H H9)) ∧ (∀ (H1 : hp), Inv H1 → fq [(366, 4), (366, 5), (406, 13), (406, 14), (406, 15), (406, 16), (406, 17), (406, 18), (407, 2), (407, 3), (407, 6), (407, 7), (407, 8)] [367, 408, 409, 1349] true H H1 → ∀ (x1 : Int) (t2 : Nat) (n2 : Nat) (x3 : Int) , (-2147483648 ≤ x1 ∧ x1 ≤ 2147483647) → (isT t2 n2) → (-2147483648 ≤ x3 ∧ x3 ≤ 2147483647) → (0 ≤ x1 ∧ x1 ≤ 1) → (0 ≤ x3 ∧ x3 ≤ 300) → (H1.1 407 2 = H.1 407 2) → (((10000 * (10 - x1) + 1000 - x3).toNat) < w) → hG (zs zK) d mt_142 33 [(0, .inr (.inr 406)), (1, .inl x1), (2, .inr (.inr t2)), (3, .inl x3)] [] H1 (fun r9 H9 => ∃ z : Int, r9 = some (.inl z) ∧ ((0 ≤ z ∧ z ≤ 1)) ∧ Inv H9 ∧ fq [(366, 4), (366, 5), (406, 13), (406, 14), (406, 15), (406, 16), (406, 17), (406, 18), (407, 2), (407, 3), (407, 6), (407, 7), (407, 8)] [367, 408, 409, 1349] true H H9)) := by
  intro w
  induction w with
  | zero => exact ⟨fun _ _ _ _ _ _ _ h => absurd h (Nat.not_lt_zero _), fun _ _ _ _ _ _ _ _ _ _ _ _ _ h => absurd h (Nat.not_lt_zero _)⟩
  | succ w ih =>
    refine ⟨?_, ?_⟩
    · intro H1 hI1 hf1 x1 hx1 hi0 hi1 hw
      have g8 : 0 ≤ (H1.1 407 2) ∧ (H1.1 407 2) ≤ 12 := kn (x := kx_407) hI1 rfl 2
      refine k_run 2 (pc' := 22) (l' := [(0, .inr (.inr 406)), (1, .inl x1)]) (st' := [.inl 1, .inl x1]) rfl ?_
      refine h_igt (off := 119) (t := 141) rfl rfl (by omega) (by decide) (fun c9 => ?_) (fun c9 => ?_)
      · refine k_run 0 (pc' := 141) (l' := [(0, .inr (.inr 406)), (1, .inl x1)]) (st' := []) rfl ?_
        refine k_run 1 (pc' := 142) (l' := [(0, .inr (.inr 406)), (1, .inl x1)]) (st' := [.inl 0]) rfl ?_
        refine h_retz (x := 0) rfl rfl (by decide) ?_
        exact ⟨_, rfl, (by omega), hI1, hf1⟩
      · refine k_run 0 (pc' := 25) (l' := [(0, .inr (.inr 406)), (1, .inl x1)]) (st' := []) rfl ?_
        refine k_run 2 (pc' := 27) (l' := [(0, .inr (.inr 406)), (1, .inl x1)]) (st' := [.inl x1, .inr (.inr 406)]) rfl ?_
        refine h_cv (i := 69) (j := 115) (b := 406) (M' := mt_115) (xs := [.inl x1]) (rest := []) rfl rfl rfl rfl (zs_K (x := kx_406) rfl (by decide)) rfl (Nat.le_of_ble_eq_true rfl) (Nat.le_of_ble_eq_true rfl) (by omega) (k_Prover_sideOf (by omega) hI1 (by omega)) ?_
        rintro _ _ ⟨t14, n15, rfl, g10, rfl⟩
        have g10b := g10.2.2.2.2
        refine k_run 0 (pc' := 30) (l' := [(0, .inr (.inr 406)), (1, .inl x1)]) (st' := [.inr (.inr t14)]) rfl ?_
        refine k_run 3 (pc' := 33) (l' := [(0, .inr (.inr 406)), (1, .inl x1), (2, .inr (.inr t14)), (3, .inl 0)]) (st' := []) rfl ?_
        exact ih.2 H1 hI1 hf1 x1 t14 n15 (0 : Int) (by omega) g10 (by decide) (by omega) (by omega) (by omega) (by omega)
    · intro H1 hI1 hf1 x1 t2 n2 x3 hx1 hT2 hx3 hi0 hi1 hi2 hw
      have hT2b := hT2.2.2.2.2
      have g16 : 0 ≤ (H1.1 407 2) ∧ (H1.1 407 2) ≤ 12 := kn (x := kx_407) hI1 rfl 2
      refine k_run 2 (pc' := 35) (l' := [(0, .inr (.inr 406)), (1, .inl x1), (2, .inr (.inr t2)), (3, .inl x3)]) (st' := [.inr (.inr t2), .inl x3]) rfl ?_
      refine k_get (a := t2) (x := (kTo t2 n2)) (v := .inl (H1.1 t2 1)) rfl rfl hT2.1 (iT0 hT2) rfl rfl rfl ?_
      have g17 : 0 ≤ (H1.1 t2 1) ∧ (H1.1 t2 1) ≤ n2 := kn hI1 hT2.1 1
      refine k_run 0 (pc' := 38) (l' := [(0, .inr (.inr 406)), (1, .inl x1), (2, .inr (.inr t2)), (3, .inl x3)]) (st' := [.inl (H1.1 t2 1), .inl x3]) rfl ?_
      refine h_ige (off := 97) (t := 135) rfl rfl (by omega) (by omega) (fun c18 => ?_) (fun c18 => ?_)
      · refine k_run 0 (pc' := 135) (l' := [(0, .inr (.inr 406)), (1, .inl x1), (2, .inr (.inr t2)), (3, .inl x3)]) (st' := []) rfl ?_
        refine k_run 2 (pc' := 20) (l' := [(0, .inr (.inr 406)), (1, .inl (x1 + 1)), (2, .inr (.inr t2)), (3, .inl x3)]) (st' := []) rfl ?_
        refine h_loc [0, 1] rfl ?_
        exact ih.1 H1 hI1 hf1 (x1 + 1) (by omega) (by omega) (by omega) (by omega)
      · refine k_run 0 (pc' := 41) (l' := [(0, .inr (.inr 406)), (1, .inl x1), (2, .inr (.inr t2)), (3, .inl x3)]) (st' := []) rfl ?_
        refine k_run 4 (pc' := 47) (l' := [(0, .inr (.inr 406)), (1, .inl x1), (2, .inr (.inr t2)), (3, .inl x3)]) (st' := [.inl x3, .inr (.inr t2), .inr (.inr 366)]) rfl ?_
        refine h_cv (i := 83) (j := 94) (b := 366) (M' := mt_94) (xs := [.inl x3, .inr (.inr t2)]) (rest := []) rfl rfl rfl rfl (zs_K (x := kx_366) rfl (by decide)) rfl (Nat.le_of_ble_eq_true rfl) (Nat.le_of_ble_eq_true rfl) (by omega) (k_Rewriter_matchCall (by omega) hI1 hT2 (by omega)) ?_
        rintro _ H20 ⟨z23, rfl, g19, hI21, hq22⟩
        have hf24 : fq [(366, 4), (366, 5), (406, 13), (406, 14), (406, 15), (406, 16), (406, 17), (406, 18), (407, 2), (407, 3), (407, 6), (407, 7), (407, 8)] [367, 408, 409, 1349] true H H20 := fq_t hf1 hq22 rfl rfl rfl
        refine k_run 0 (pc' := 50) (l' := [(0, .inr (.inr 406)), (1, .inl x1), (2, .inr (.inr t2)), (3, .inl x3)]) (st' := [.inl z23]) rfl ?_
        refine k_run 1 (pc' := 51) (l' := [(0, .inr (.inr 406)), (1, .inl x1), (2, .inr (.inr t2)), (3, .inl x3)]) (st' := [.inl 2, .inl z23]) rfl ?_
        refine h_ine (off := 78) (t := 129) rfl rfl (by omega) (by decide) (fun c25 => ?_) (fun c25 => ?_)
        · refine k_run 0 (pc' := 129) (l' := [(0, .inr (.inr 406)), (1, .inl x1), (2, .inr (.inr t2)), (3, .inl x3)]) (st' := []) rfl ?_
          refine k_run 2 (pc' := 33) (l' := [(0, .inr (.inr 406)), (1, .inl x1), (2, .inr (.inr t2)), (3, .inl (x3 + 1))]) (st' := []) rfl ?_
          have g26 : 0 ≤ (H20.1 407 2) ∧ (H20.1 407 2) ≤ 12 := kn (x := kx_407) hI21 rfl 2
          have e27 : (H20.1 407 2) = (H1.1 407 2) := (hq22.1 407 2 rfl (by decide) (by decide)).1
          exact ih.2 H20 hI21 hf24 x1 t2 n2 (x3 + 1) (by omega) hT2 (by omega) (by omega) (by omega) (by omega) (by omega)
        · refine k_run 0 (pc' := 54) (l' := [(0, .inr (.inr 406)), (1, .inl x1), (2, .inr (.inr t2)), (3, .inl x3)]) (st' := []) rfl ?_
          refine k_run 4 (pc' := 62) (l' := [(0, .inr (.inr 406)), (1, .inl x1), (2, .inr (.inr t2)), (3, .inl x3)]) (st' := [.inl (H20.1 366 5), .inr (.inr t2)]) rfl ?_
          have g28 : -2147483648 ≤ (H20.1 366 5) ∧ (H20.1 366 5) ≤ 2147483647 := kn (x := kx_366) hI21 rfl 5
          refine h_cv (i := 73) (j := 51) (b := t2) (M' := mt_51) (xs := [.inl (H20.1 366 5)]) (rest := []) rfl rfl rfl rfl (by rw [zs_K hT2.1 (iT0 hT2)]; rfl) rfl (Nat.le_of_ble_eq_true rfl) (Nat.le_of_ble_eq_true rfl) (by omega) (k_Term_codeAt (by omega) hI21 hT2 (by omega)) ?_
          rintro _ _ ⟨z33, rfl, g29, rfl⟩
          refine k_run 0 (pc' := 65) (l' := [(0, .inr (.inr 406)), (1, .inl x1), (2, .inr (.inr t2)), (3, .inl x3)]) (st' := [.inl z33]) rfl ?_
          refine k_run 2 (pc' := 69) (l' := [(0, .inr (.inr 406)), (1, .inl x1), (2, .inr (.inr t2)), (3, .inl x3), (4, .inl z33)]) (st' := [.inl z33]) rfl ?_
          refine h_cs (i := 171) (j := 50) (M' := mt_50) (xs := [.inl z33]) (rest := []) rfl rfl rfl rfl rfl (Nat.le_of_ble_eq_true rfl) (Nat.le_of_ble_eq_true rfl) (by omega) (k_Term_indexOf (by omega)  (by omega)) ?_
          rintro _ _ ⟨z38, rfl, g34, rfl⟩
          refine k_run 0 (pc' := 72) (l' := [(0, .inr (.inr 406)), (1, .inl x1), (2, .inr (.inr t2)), (3, .inl x3), (4, .inl z33)]) (st' := [.inl z38]) rfl ?_
          refine k_run 2 (pc' := 76) (l' := [(0, .inr (.inr 406)), (1, .inl x1), (2, .inr (.inr t2)), (3, .inl x3), (4, .inl z33), (5, .inl z38)]) (st' := [.inl z33]) rfl ?_
          refine h_cs (i := 80) (j := 49) (M' := mt_49) (xs := [.inl z33]) (rest := []) rfl rfl rfl rfl rfl (Nat.le_of_ble_eq_true rfl) (Nat.le_of_ble_eq_true rfl) (by omega) (k_Term_kindOf (by omega)  (by omega)) ?_
          rintro _ _ ⟨z43, rfl, g39, rfl⟩
          refine k_run 0 (pc' := 79) (l' := [(0, .inr (.inr 406)), (1, .inl x1), (2, .inr (.inr t2)), (3, .inl x3), (4, .inl z33), (5, .inl z38)]) (st' := [.inl z43]) rfl ?_
          refine k_run 1 (pc' := 80) (l' := [(0, .inr (.inr 406)), (1, .inl x1), (2, .inr (.inr t2)), (3, .inl x3), (4, .inl z33), (5, .inl z38)]) (st' := [.inl 3, .inl z43]) rfl ?_
          refine h_ine (off := 49) (t := 129) rfl rfl (by omega) (by decide) (fun c44 => ?_) (fun c44 => ?_)
          · refine k_run 0 (pc' := 129) (l' := [(0, .inr (.inr 406)), (1, .inl x1), (2, .inr (.inr t2)), (3, .inl x3), (4, .inl z33), (5, .inl z38)]) (st' := []) rfl ?_
            refine k_run 2 (pc' := 33) (l' := [(0, .inr (.inr 406)), (1, .inl x1), (2, .inr (.inr t2)), (3, .inl (x3 + 1)), (4, .inl z33), (5, .inl z38)]) (st' := []) rfl ?_
            have g45 : 0 ≤ (H20.1 407 2) ∧ (H20.1 407 2) ≤ 12 := kn (x := kx_407) hI21 rfl 2
            have e46 : (H20.1 407 2) = (H1.1 407 2) := (hq22.1 407 2 rfl (by decide) (by decide)).1
            refine h_loc [0, 1, 2, 3] rfl ?_
            exact ih.2 H20 hI21 hf24 x1 t2 n2 (x3 + 1) (by omega) hT2 (by omega) (by omega) (by omega) (by omega) (by omega)
          · refine k_run 0 (pc' := 83) (l' := [(0, .inr (.inr 406)), (1, .inl x1), (2, .inr (.inr t2)), (3, .inl x3), (4, .inl z33), (5, .inl z38)]) (st' := []) rfl ?_
            refine k_run 3 (pc' := 89) (l' := [(0, .inr (.inr 406)), (1, .inl x1), (2, .inr (.inr t2)), (3, .inl x3), (4, .inl z33), (5, .inl z38)]) (st' := [.inl z38, .inr (.inr 407)]) rfl ?_
            refine h_cv (i := 190) (j := 146) (b := 407) (M' := mt_146) (xs := [.inl z38]) (rest := []) rfl rfl rfl rfl (zs_K (x := kx_407) rfl (by decide)) rfl (Nat.le_of_ble_eq_true rfl) (Nat.le_of_ble_eq_true rfl) (by omega) (k_Proof_isFixed (by omega) hI21 (by omega)) ?_
            rintro _ _ ⟨z51, rfl, g47, rfl⟩
            refine k_run 0 (pc' := 92) (l' := [(0, .inr (.inr 406)), (1, .inl x1), (2, .inr (.inr t2)), (3, .inl x3), (4, .inl z33), (5, .inl z38)]) (st' := [.inl z51]) rfl ?_
            refine h_zeq (off := 18) (t := 110) rfl rfl (by omega) (fun c52 => ?_) (fun c52 => ?_)
            · refine k_run 0 (pc' := 110) (l' := [(0, .inr (.inr 406)), (1, .inl x1), (2, .inr (.inr t2)), (3, .inl x3), (4, .inl z33), (5, .inl z38)]) (st' := []) rfl ?_
              refine k_run 2 (pc' := 113) (l' := [(0, .inr (.inr 406)), (1, .inl x1), (2, .inr (.inr t2)), (3, .inl x3), (4, .inl z33), (5, .inl z38)]) (st' := [.inl z38, .inr (.inr 406)]) rfl ?_
              have g53 : 0 ≤ (H20.1 407 2) ∧ (H20.1 407 2) ≤ 12 := kn (x := kx_407) hI21 rfl 2
              have e54 : (H20.1 407 2) = (H1.1 407 2) := (hq22.1 407 2 rfl (by decide) (by decide)).1
              refine h_cv (i := 350) (j := 124) (b := 406) (M' := mt_124) (xs := [.inl z38]) (rest := []) rfl rfl rfl rfl (zs_K (x := kx_406) rfl (by decide)) rfl (Nat.le_of_ble_eq_true rfl) (Nat.le_of_ble_eq_true rfl) (by omega) (k_Prover_inductOver (by omega) hI21 (by omega) (by omega)) ?_
              rintro _ H56 ⟨z59, rfl, g55, hI57, hq58⟩
              have hf60 : fq [(366, 4), (366, 5), (406, 13), (406, 14), (406, 15), (406, 16), (406, 17), (406, 18), (407, 2), (407, 3), (407, 6), (407, 7), (407, 8)] [367, 408, 409, 1349] true H H56 := fq_t hf24 hq58 rfl rfl rfl
              refine k_run 0 (pc' := 116) (l' := [(0, .inr (.inr 406)), (1, .inl x1), (2, .inr (.inr t2)), (3, .inl x3), (4, .inl z33), (5, .inl z38)]) (st' := [.inl z59]) rfl ?_
              refine k_run 2 (pc' := 120) (l' := [(0, .inr (.inr 406)), (1, .inl x1), (2, .inr (.inr t2)), (3, .inl x3), (4, .inl z33), (5, .inl z38), (6, .inl z59)]) (st' := [.inl z59]) rfl ?_
              refine h_zlt (off := 7) (t := 127) rfl rfl (by omega) (fun c61 => ?_) (fun c61 => ?_)
              · refine k_run 0 (pc' := 127) (l' := [(0, .inr (.inr 406)), (1, .inl x1), (2, .inr (.inr t2)), (3, .inl x3), (4, .inl z33), (5, .inl z38), (6, .inl z59)]) (st' := []) rfl ?_
                refine k_run 1 (pc' := 128) (l' := [(0, .inr (.inr 406)), (1, .inl x1), (2, .inr (.inr t2)), (3, .inl x3), (4, .inl z33), (5, .inl z38), (6, .inl z59)]) (st' := [.inl 0]) rfl ?_
                refine h_retz (x := 0) rfl rfl (by decide) ?_
                exact ⟨_, rfl, (by omega), hI57, hf60⟩
              · refine k_run 0 (pc' := 123) (l' := [(0, .inr (.inr 406)), (1, .inl x1), (2, .inr (.inr t2)), (3, .inl x3), (4, .inl z33), (5, .inl z38), (6, .inl z59)]) (st' := []) rfl ?_
                refine k_run 2 (pc' := 128) (l' := [(0, .inr (.inr 406)), (1, .inl x1), (2, .inr (.inr t2)), (3, .inl x3), (4, .inl z33), (5, .inl z38), (6, .inl z59)]) (st' := [.inl 1]) rfl ?_
                refine h_retz (x := 1) rfl rfl (by decide) ?_
                exact ⟨_, rfl, (by omega), hI57, hf60⟩
            · refine k_run 0 (pc' := 95) (l' := [(0, .inr (.inr 406)), (1, .inl x1), (2, .inr (.inr t2)), (3, .inl x3), (4, .inl z33), (5, .inl z38)]) (st' := []) rfl ?_
              refine k_run 5 (pc' := 104) (l' := [(0, .inr (.inr 406)), (1, .inl x1), (2, .inr (.inr t2)), (3, .inl x3), (4, .inl z33), (5, .inl z38)]) (st' := [.inl (H20.1 366 5), .inl x1, .inr (.inr 406)]) rfl ?_
              have g62 : 0 ≤ (H20.1 407 2) ∧ (H20.1 407 2) ≤ 12 := kn (x := kx_407) hI21 rfl 2
              have e63 : (H20.1 407 2) = (H1.1 407 2) := (hq22.1 407 2 rfl (by decide) (by decide)).1
              refine h_cv (i := 347) (j := 125) (b := 406) (M' := mt_125) (xs := [.inl (H20.1 366 5), .inl x1]) (rest := []) rfl rfl rfl rfl (zs_K (x := kx_406) rfl (by decide)) rfl (Nat.le_of_ble_eq_true rfl) (Nat.le_of_ble_eq_true rfl) (by omega) (k_Prover_splitAt (by omega) hI21 (by omega) (by omega) (by omega)) ?_
              rintro _ H65 ⟨z68, rfl, g64, hI66, hq67⟩
              have hf69 : fq [(366, 4), (366, 5), (406, 13), (406, 14), (406, 15), (406, 16), (406, 17), (406, 18), (407, 2), (407, 3), (407, 6), (407, 7), (407, 8)] [367, 408, 409, 1349] true H H65 := fq_t hf24 hq67 rfl rfl rfl
              refine k_run 0 (pc' := 107) (l' := [(0, .inr (.inr 406)), (1, .inl x1), (2, .inr (.inr t2)), (3, .inl x3), (4, .inl z33), (5, .inl z38)]) (st' := [.inl z68]) rfl ?_
              refine k_run 3 (pc' := 120) (l' := [(0, .inr (.inr 406)), (1, .inl x1), (2, .inr (.inr t2)), (3, .inl x3), (4, .inl z33), (5, .inl z38), (6, .inl z68)]) (st' := [.inl z68]) rfl ?_
              refine h_zlt (off := 7) (t := 127) rfl rfl (by omega) (fun c70 => ?_) (fun c70 => ?_)
              · refine k_run 0 (pc' := 127) (l' := [(0, .inr (.inr 406)), (1, .inl x1), (2, .inr (.inr t2)), (3, .inl x3), (4, .inl z33), (5, .inl z38), (6, .inl z68)]) (st' := []) rfl ?_
                refine k_run 1 (pc' := 128) (l' := [(0, .inr (.inr 406)), (1, .inl x1), (2, .inr (.inr t2)), (3, .inl x3), (4, .inl z33), (5, .inl z38), (6, .inl z68)]) (st' := [.inl 0]) rfl ?_
                refine h_retz (x := 0) rfl rfl (by decide) ?_
                exact ⟨_, rfl, (by omega), hI66, hf69⟩
              · refine k_run 0 (pc' := 123) (l' := [(0, .inr (.inr 406)), (1, .inl x1), (2, .inr (.inr t2)), (3, .inl x3), (4, .inl z33), (5, .inl z38), (6, .inl z68)]) (st' := []) rfl ?_
                refine k_run 2 (pc' := 128) (l' := [(0, .inr (.inr 406)), (1, .inl x1), (2, .inr (.inr t2)), (3, .inl x3), (4, .inl z33), (5, .inl z38), (6, .inl z68)]) (st' := [.inl 1]) rfl ?_
                refine h_retz (x := 1) rfl rfl (by decide) ?_
                exact ⟨_, rfl, (by omega), hI66, hf69⟩
set_option maxRecDepth 100000 in
theorem k_Prover_splitFirst {d : Nat} (hd : 6 ≤ d) {H : hp} (hI : Inv H)  (hp0 : 1 ≤ H.1 407 2) : hG (zs zK) d mt_142 0 (zargs 0 [.inr (.inr 406)]) [] H (fun r9 H9 => ∃ z : Int, r9 = some (.inl z) ∧ ((0 ≤ z ∧ z ≤ 1)) ∧ Inv H9 ∧ fq [(366, 4), (366, 5), (406, 13), (406, 14), (406, 15), (406, 16), (406, 17), (406, 18), (407, 2), (407, 3), (407, 6), (407, 7), (407, 8)] [367, 408, 409, 1349] true H H9) := by
  refine k_run 0 (pc' := 0) (l' := [(0, .inr (.inr 406))]) (st' := []) rfl ?_
  refine k_run 4 (pc' := 8) (l' := [(0, .inr (.inr 406))]) (st' := [.inl 0, .inr (.inr 408)]) rfl ?_
  refine k_ald (c := 408) (j := 0) (i := 0) (x := kx_408) rfl rfl (by decide) rfl (by decide) rfl (by decide) hI (fun h1 => ?_)
  obtain ⟨t2, et4⟩ : ∃ t9, t9 = H.2 408 0 := ⟨_, rfl⟩
  rw [← et4] at h1 ⊢
  have k3 : isG t2 := h1
  refine k_run 0 (pc' := 9) (l' := [(0, .inr (.inr 406))]) (st' := [.inr (.inr t2)]) rfl ?_
  refine k_get (a := t2) (x := (kGo t2)) (v := .inl (H.1 t2 3)) rfl rfl k3.1 (iG0 k3) rfl rfl rfl ?_
  have g5 : -2147483648 ≤ (H.1 t2 3) ∧ (H.1 t2 3) ≤ 2147483647 := kn hI k3.1 3
  refine k_run 0 (pc' := 12) (l' := [(0, .inr (.inr 406))]) (st' := [.inl (H.1 t2 3)]) rfl ?_
  refine k_run 1 (pc' := 13) (l' := [(0, .inr (.inr 406))]) (st' := [.inl 4, .inl (H.1 t2 3)]) rfl ?_
  refine h_ilt (off := 5) (t := 18) rfl rfl (by omega) (by decide) (fun c6 => ?_) (fun c6 => ?_)
  · refine k_run 0 (pc' := 18) (l' := [(0, .inr (.inr 406))]) (st' := []) rfl ?_
    refine k_run 2 (pc' := 20) (l' := [(0, .inr (.inr 406)), (1, .inl 0)]) (st' := []) rfl ?_
    have g7 : 0 ≤ (H.1 407 2) ∧ (H.1 407 2) ≤ 12 := kn (x := kx_407) hI rfl 2
    exact (k_Prover_splitFirst_cut hd hI hp0 _).1 H hI (fq_rf _ _ _ _) (0 : Int) (by decide) (by omega) (by omega) (Nat.lt_succ_self _)
  · refine k_run 0 (pc' := 16) (l' := [(0, .inr (.inr 406))]) (st' := []) rfl ?_
    refine k_run 1 (pc' := 17) (l' := [(0, .inr (.inr 406))]) (st' := [.inl 0]) rfl ?_
    refine h_retz (x := 0) rfl rfl (by decide) ?_
    exact ⟨_, rfl, (by omega), hI, (fq_rf _ _ _ _)⟩

/-! Prover.nextRow -/
set_option maxRecDepth 100000 in
theorem k_Prover_nextRow {d : Nat} (hd : 7 ≤ d) {H : hp} (hI : Inv H)  (hp0 : 1 ≤ H.1 407 2) : hG (zs zK) d mt_138 0 (zargs 0 [.inr (.inr 406)]) [] H (fun r9 H9 => ∃ z : Int, r9 = some (.inl z) ∧ ((0 ≤ z ∧ z ≤ 1)) ∧ Inv H9 ∧ fq [(366, 4), (366, 5), (406, 6), (406, 7), (406, 8), (406, 9), (406, 10), (406, 13), (406, 14), (406, 15), (406, 16), (406, 17), (406, 18), (407, 2), (407, 3), (407, 6), (407, 7), (407, 8)] [367, 408, 409, 1349] true H H9) := by
  refine k_run 0 (pc' := 0) (l' := [(0, .inr (.inr 406))]) (st' := []) rfl ?_
  refine k_run 1 (pc' := 1) (l' := [(0, .inr (.inr 406))]) (st' := [.inr (.inr 406)]) rfl ?_
  have g1 : 0 ≤ (H.1 407 2) ∧ (H.1 407 2) ≤ 12 := kn (x := kx_407) hI rfl 2
  refine h_cv (i := 309) (j := 134) (b := 406) (M' := mt_134) (xs := []) (rest := []) rfl rfl rfl rfl (zs_K (x := kx_406) rfl (by decide)) rfl (Nat.le_of_ble_eq_true rfl) (Nat.le_of_ble_eq_true rfl) (by omega) (k_Prover_dropSame (by omega) hI (by omega)) ?_
  rintro _ H3 ⟨z6, rfl, g2, hI4, hq5⟩
  have hf7 : fq [(366, 4), (366, 5), (406, 6), (406, 7), (406, 8), (406, 9), (406, 10), (406, 13), (406, 14), (406, 15), (406, 16), (406, 17), (406, 18), (407, 2), (407, 3), (407, 6), (407, 7), (407, 8)] [367, 408, 409, 1349] true H H3 := fq_t (fq_rf _ _ _ _) hq5 rfl rfl rfl
  refine k_run 0 (pc' := 4) (l' := [(0, .inr (.inr 406))]) (st' := [.inl z6]) rfl ?_
  refine h_zge (off := 31) (t := 35) rfl rfl (by omega) (fun c8 => ?_) (fun c8 => ?_)
  · refine k_run 0 (pc' := 35) (l' := [(0, .inr (.inr 406))]) (st' := []) rfl ?_
    refine k_run 2 (pc' := 40) (l' := [(0, .inr (.inr 406))]) (st' := [.inl 1]) rfl ?_
    refine h_retz (x := 1) rfl rfl (by decide) ?_
    exact ⟨_, rfl, (by omega), hI4, hf7⟩
  · refine k_run 0 (pc' := 7) (l' := [(0, .inr (.inr 406))]) (st' := []) rfl ?_
    refine k_run 1 (pc' := 8) (l' := [(0, .inr (.inr 406))]) (st' := [.inr (.inr 406)]) rfl ?_
    refine h_cv (i := 312) (j := 139) (b := 406) (M' := mt_139) (xs := []) (rest := []) rfl rfl rfl rfl (zs_K (x := kx_406) rfl (by decide)) rfl (Nat.le_of_ble_eq_true rfl) (Nat.le_of_ble_eq_true rfl) (by omega) (k_Prover_unfoldFirst (by omega) hI4 ) ?_
    rintro _ H10 ⟨z13, rfl, g9, hI11, hq12⟩
    have hf14 : fq [(366, 4), (366, 5), (406, 6), (406, 7), (406, 8), (406, 9), (406, 10), (406, 13), (406, 14), (406, 15), (406, 16), (406, 17), (406, 18), (407, 2), (407, 3), (407, 6), (407, 7), (407, 8)] [367, 408, 409, 1349] true H H10 := fq_t hf7 hq12 rfl rfl rfl
    refine k_run 0 (pc' := 11) (l' := [(0, .inr (.inr 406))]) (st' := [.inl z13]) rfl ?_
    refine h_zne (off := 24) (t := 35) rfl rfl (by omega) (fun c15 => ?_) (fun c15 => ?_)
    · refine k_run 0 (pc' := 35) (l' := [(0, .inr (.inr 406))]) (st' := []) rfl ?_
      refine k_run 2 (pc' := 40) (l' := [(0, .inr (.inr 406))]) (st' := [.inl 1]) rfl ?_
      refine h_retz (x := 1) rfl rfl (by decide) ?_
      exact ⟨_, rfl, (by omega), hI11, hf14⟩
    · refine k_run 0 (pc' := 14) (l' := [(0, .inr (.inr 406))]) (st' := []) rfl ?_
      refine k_run 1 (pc' := 15) (l' := [(0, .inr (.inr 406))]) (st' := [.inr (.inr 406)]) rfl ?_
      refine h_cv (i := 316) (j := 140) (b := 406) (M' := mt_140) (xs := []) (rest := []) rfl rfl rfl rfl (zs_K (x := kx_406) rfl (by decide)) rfl (Nat.le_of_ble_eq_true rfl) (Nat.le_of_ble_eq_true rfl) (by omega) (k_Prover_useFirst (by omega) hI11 ) ?_
      rintro _ H17 ⟨z20, rfl, g16, hI18, hq19⟩
      have hf21 : fq [(366, 4), (366, 5), (406, 6), (406, 7), (406, 8), (406, 9), (406, 10), (406, 13), (406, 14), (406, 15), (406, 16), (406, 17), (406, 18), (407, 2), (407, 3), (407, 6), (407, 7), (407, 8)] [367, 408, 409, 1349] true H H17 := fq_t hf14 hq19 rfl rfl rfl
      refine k_run 0 (pc' := 18) (l' := [(0, .inr (.inr 406))]) (st' := [.inl z20]) rfl ?_
      refine h_zne (off := 17) (t := 35) rfl rfl (by omega) (fun c22 => ?_) (fun c22 => ?_)
      · refine k_run 0 (pc' := 35) (l' := [(0, .inr (.inr 406))]) (st' := []) rfl ?_
        refine k_run 2 (pc' := 40) (l' := [(0, .inr (.inr 406))]) (st' := [.inl 1]) rfl ?_
        refine h_retz (x := 1) rfl rfl (by decide) ?_
        exact ⟨_, rfl, (by omega), hI18, hf21⟩
      · refine k_run 0 (pc' := 21) (l' := [(0, .inr (.inr 406))]) (st' := []) rfl ?_
        refine k_run 1 (pc' := 22) (l' := [(0, .inr (.inr 406))]) (st' := [.inr (.inr 406)]) rfl ?_
        have g23 : 0 ≤ (H17.1 407 2) ∧ (H17.1 407 2) ≤ 12 := kn (x := kx_407) hI18 rfl 2
        have e24 : (H17.1 407 2) = (H10.1 407 2) := (hq19.1 407 2 rfl (by decide) (by decide)).1
        have e25 : (H10.1 407 2) = (H3.1 407 2) := (hq12.1 407 2 rfl (by decide) (by decide)).1
        refine h_cv (i := 319) (j := 135) (b := 406) (M' := mt_135) (xs := []) (rest := []) rfl rfl rfl rfl (zs_K (x := kx_406) rfl (by decide)) rfl (Nat.le_of_ble_eq_true rfl) (Nat.le_of_ble_eq_true rfl) (by omega) (k_Prover_takeApart (by omega) hI18 (by omega)) ?_
        rintro _ H27 ⟨z30, rfl, g26, hI28, hq29⟩
        have hf31 : fq [(366, 4), (366, 5), (406, 6), (406, 7), (406, 8), (406, 9), (406, 10), (406, 13), (406, 14), (406, 15), (406, 16), (406, 17), (406, 18), (407, 2), (407, 3), (407, 6), (407, 7), (407, 8)] [367, 408, 409, 1349] true H H27 := fq_t hf21 hq29 rfl rfl rfl
        refine k_run 0 (pc' := 25) (l' := [(0, .inr (.inr 406))]) (st' := [.inl z30]) rfl ?_
        refine h_zge (off := 10) (t := 35) rfl rfl (by omega) (fun c32 => ?_) (fun c32 => ?_)
        · refine k_run 0 (pc' := 35) (l' := [(0, .inr (.inr 406))]) (st' := []) rfl ?_
          refine k_run 2 (pc' := 40) (l' := [(0, .inr (.inr 406))]) (st' := [.inl 1]) rfl ?_
          refine h_retz (x := 1) rfl rfl (by decide) ?_
          exact ⟨_, rfl, (by omega), hI28, hf31⟩
        · refine k_run 0 (pc' := 28) (l' := [(0, .inr (.inr 406))]) (st' := []) rfl ?_
          refine k_run 1 (pc' := 29) (l' := [(0, .inr (.inr 406))]) (st' := [.inr (.inr 406)]) rfl ?_
          have g33 : 0 ≤ (H27.1 407 2) ∧ (H27.1 407 2) ≤ 12 := kn (x := kx_407) hI28 rfl 2
          refine h_cv (i := 322) (j := 142) (b := 406) (M' := mt_142) (xs := []) (rest := []) rfl rfl rfl rfl (zs_K (x := kx_406) rfl (by decide)) rfl (Nat.le_of_ble_eq_true rfl) (Nat.le_of_ble_eq_true rfl) (by omega) (k_Prover_splitFirst (by omega) hI28 (by omega)) ?_
          rintro _ H35 ⟨z38, rfl, g34, hI36, hq37⟩
          have hf39 : fq [(366, 4), (366, 5), (406, 6), (406, 7), (406, 8), (406, 9), (406, 10), (406, 13), (406, 14), (406, 15), (406, 16), (406, 17), (406, 18), (407, 2), (407, 3), (407, 6), (407, 7), (407, 8)] [367, 408, 409, 1349] true H H35 := fq_t hf31 hq37 rfl rfl rfl
          refine k_run 0 (pc' := 32) (l' := [(0, .inr (.inr 406))]) (st' := [.inl z38]) rfl ?_
          refine h_zeq (off := 7) (t := 39) rfl rfl (by omega) (fun c40 => ?_) (fun c40 => ?_)
          · refine k_run 0 (pc' := 39) (l' := [(0, .inr (.inr 406))]) (st' := []) rfl ?_
            refine k_run 1 (pc' := 40) (l' := [(0, .inr (.inr 406))]) (st' := [.inl 0]) rfl ?_
            refine h_retz (x := 0) rfl rfl (by decide) ?_
            exact ⟨_, rfl, (by omega), hI36, hf39⟩
          · refine k_run 0 (pc' := 35) (l' := [(0, .inr (.inr 406))]) (st' := []) rfl ?_
            refine k_run 2 (pc' := 40) (l' := [(0, .inr (.inr 406))]) (st' := [.inl 1]) rfl ?_
            refine h_retz (x := 1) rfl rfl (by decide) ?_
            exact ⟨_, rfl, (by omega), hI36, hf39⟩

/-! the class: its calls -/
/-! refusalAt -/
set_option maxRecDepth 100000 in
theorem k_refusalAt {d : Nat} (hd : 1 ≤ d) {H : hp} (hI : Inv H) {a : Int} {b : Int} (ha : -2147483648 ≤ a ∧ a ≤ 2147483647) (hb : -2147483648 ≤ b ∧ b ≤ 2147483647) : hG (zs zK) d mt_24 0 (zargs 0 [.inr (.inr 1), .inl a, .inl b]) [] H (fun r9 H9 => ∃ z : Int, r9 = some (.inl z) ∧ ((-2147483648 ≤ z ∧ z ≤ 2147483647) ∧ (z < 0 ∨ (0 ≤ a ∧ a ≤ 1 ∧ 0 ≤ b ∧ 1 ≤ H.1 407 2))) ∧ H = H9) := by
  refine k_run 0 (pc' := 0) (l' := [(0, .inr (.inr 1)), (1, .inl a), (2, .inl b)]) (st' := []) rfl ?_
  refine k_run 1 (pc' := 1) (l' := [(0, .inr (.inr 1)), (1, .inl a), (2, .inl b)]) (st' := [.inl a]) rfl ?_
  refine h_zlt (off := 12) (t := 13) rfl rfl (by omega) (fun c1 => ?_) (fun c1 => ?_)
  · refine k_run 0 (pc' := 13) (l' := [(0, .inr (.inr 1)), (1, .inl a), (2, .inl b)]) (st' := []) rfl ?_
    refine k_run 1 (pc' := 15) (l' := [(0, .inr (.inr 1)), (1, .inl a), (2, .inl b)]) (st' := [.inl (-102)]) rfl ?_
    refine h_reti (x := (-102)) rfl rfl ?_
    exact ⟨_, rfl, (by omega), rfl⟩
  · refine k_run 0 (pc' := 4) (l' := [(0, .inr (.inr 1)), (1, .inl a), (2, .inl b)]) (st' := []) rfl ?_
    refine k_run 2 (pc' := 6) (l' := [(0, .inr (.inr 1)), (1, .inl a), (2, .inl b)]) (st' := [.inl 1, .inl a]) rfl ?_
    refine h_igt (off := 7) (t := 13) rfl rfl (by omega) (by decide) (fun c2 => ?_) (fun c2 => ?_)
    · refine k_run 0 (pc' := 13) (l' := [(0, .inr (.inr 1)), (1, .inl a), (2, .inl b)]) (st' := []) rfl ?_
      refine k_run 1 (pc' := 15) (l' := [(0, .inr (.inr 1)), (1, .inl a), (2, .inl b)]) (st' := [.inl (-102)]) rfl ?_
      refine h_reti (x := (-102)) rfl rfl ?_
      exact ⟨_, rfl, (by omega), rfl⟩
    · refine k_run 0 (pc' := 9) (l' := [(0, .inr (.inr 1)), (1, .inl a), (2, .inl b)]) (st' := []) rfl ?_
      refine k_run 1 (pc' := 10) (l' := [(0, .inr (.inr 1)), (1, .inl a), (2, .inl b)]) (st' := [.inl b]) rfl ?_
      refine h_zge (off := 6) (t := 16) rfl rfl (by omega) (fun c3 => ?_) (fun c3 => ?_)
      · refine k_run 0 (pc' := 16) (l' := [(0, .inr (.inr 1)), (1, .inl a), (2, .inl b)]) (st' := []) rfl ?_
        refine k_run 4 (pc' := 26) (l' := [(0, .inr (.inr 1)), (1, .inl a), (2, .inl b)]) (st' := [.inl (H.1 407 2)]) rfl ?_
        have g4 : 0 ≤ (H.1 407 2) ∧ (H.1 407 2) ≤ 12 := kn (x := kx_407) hI rfl 2
        refine h_zle (off := 7) (t := 33) rfl rfl (by omega) (fun c5 => ?_) (fun c5 => ?_)
        · refine k_run 0 (pc' := 33) (l' := [(0, .inr (.inr 1)), (1, .inl a), (2, .inl b)]) (st' := []) rfl ?_
          refine k_run 1 (pc' := 35) (l' := [(0, .inr (.inr 1)), (1, .inl a), (2, .inl b)]) (st' := [.inl (-103)]) rfl ?_
          refine h_reti (x := (-103)) rfl rfl ?_
          exact ⟨_, rfl, (by omega), rfl⟩
        · refine k_run 0 (pc' := 29) (l' := [(0, .inr (.inr 1)), (1, .inl a), (2, .inl b)]) (st' := []) rfl ?_
          refine k_run 2 (pc' := 35) (l' := [(0, .inr (.inr 1)), (1, .inl a), (2, .inl b)]) (st' := [.inl 0]) rfl ?_
          refine h_reti (x := 0) rfl rfl ?_
          exact ⟨_, rfl, (by omega), rfl⟩
      · refine k_run 0 (pc' := 13) (l' := [(0, .inr (.inr 1)), (1, .inl a), (2, .inl b)]) (st' := []) rfl ?_
        refine k_run 1 (pc' := 15) (l' := [(0, .inr (.inr 1)), (1, .inl a), (2, .inl b)]) (st' := [.inl (-102)]) rfl ?_
        refine h_reti (x := (-102)) rfl rfl ?_
        exact ⟨_, rfl, (by omega), rfl⟩

/-! feed -/
set_option maxRecDepth 100000 in
theorem k_feed {d : Nat} (hd : 2 ≤ d) {H : hp} (hI : Inv H) {a : Int} {b : Int} {c : Int} {e : Int} {f : Int} (ha : -2147483648 ≤ a ∧ a ≤ 2147483647) (hb : -2147483648 ≤ b ∧ b ≤ 2147483647) (hc : -2147483648 ≤ c ∧ c ≤ 2147483647) (he : -2147483648 ≤ e ∧ e ≤ 2147483647) (hf : -2147483648 ≤ f ∧ f ≤ 2147483647) (hp0 : H.1 2 1 ≤ 980) : hG (zs zK) d mt_1 0 (zargs 0 [.inr (.inr 1), .inl a, .inl b, .inl c, .inl e, .inl f]) [] H (fun r9 H9 => ∃ z : Int, r9 = some (.inl z) ∧ ((-2147483648 ≤ z ∧ z ≤ 2147483647) ∧ (z = H.1 2 1 + 20 ∧ H9.1 2 1 = H.1 2 1 + 20)) ∧ Inv H9 ∧ fq [(2, 1)] [3] false H H9) := by
  refine k_run 0 (pc' := 0) (l' := [(0, .inr (.inr 1)), (1, .inl a), (2, .inl b), (3, .inl c), (4, .inl e), (5, .inl f)]) (st' := []) rfl ?_
  refine k_run 3 (pc' := 7) (l' := [(0, .inr (.inr 1)), (1, .inl a), (2, .inl b), (3, .inl c), (4, .inl e), (5, .inl f)]) (st' := [.inl (H.1 2 1)]) rfl ?_
  have g1 : 0 ≤ (H.1 2 1) ∧ (H.1 2 1) ≤ 1000 := kn (x := kx_2) hI rfl 1
  refine k_run 1 (pc' := 10) (l' := [(0, .inr (.inr 1)), (1, .inl a), (2, .inl b), (3, .inl c), (4, .inl e), (5, .inl f)]) (st' := [.inl 980, .inl (H.1 2 1)]) rfl ?_
  refine h_ile (off := 13) (t := 23) rfl rfl (by omega) (by decide) (fun c2 => ?_) (fun c2 => ?_)
  · refine k_run 0 (pc' := 23) (l' := [(0, .inr (.inr 1)), (1, .inl a), (2, .inl b), (3, .inl c), (4, .inl e), (5, .inl f)]) (st' := []) rfl ?_
    refine k_run 3 (pc' := 28) (l' := [(0, .inr (.inr 1)), (1, .inl a), (2, .inl b), (3, .inl c), (4, .inl e), (5, .inl f)]) (st' := [.inl a, .inr (.inr 2)]) rfl ?_
    refine h_cv (i := 84) (j := 26) (b := 2) (M' := mt_26) (xs := [.inl a]) (rest := []) rfl rfl rfl rfl (zs_K (x := kx_2) rfl (by decide)) rfl (Nat.le_of_ble_eq_true rfl) (Nat.le_of_ble_eq_true rfl) (by omega) (k_Tape_putNumber (by omega) hI (by omega)) ?_
    rintro _ H4 ⟨rfl, g3, hI5, hq6⟩
    have hf7 : fq [(2, 1)] [3] false H H4 := fq_t (fq_rf _ _ _ _) hq6 rfl rfl rfl
    refine k_run 0 (pc' := 31) (l' := [(0, .inr (.inr 1)), (1, .inl a), (2, .inl b), (3, .inl c), (4, .inl e), (5, .inl f)]) (st' := []) rfl ?_
    refine k_run 3 (pc' := 36) (l' := [(0, .inr (.inr 1)), (1, .inl a), (2, .inl b), (3, .inl c), (4, .inl e), (5, .inl f)]) (st' := [.inl b, .inr (.inr 2)]) rfl ?_
    refine h_cv (i := 84) (j := 26) (b := 2) (M' := mt_26) (xs := [.inl b]) (rest := []) rfl rfl rfl rfl (zs_K (x := kx_2) rfl (by decide)) rfl (Nat.le_of_ble_eq_true rfl) (Nat.le_of_ble_eq_true rfl) (by omega) (k_Tape_putNumber (by omega) hI5 (by omega)) ?_
    rintro _ H9 ⟨rfl, g8, hI10, hq11⟩
    have hf12 : fq [(2, 1)] [3] false H H9 := fq_t hf7 hq11 rfl rfl rfl
    refine k_run 0 (pc' := 39) (l' := [(0, .inr (.inr 1)), (1, .inl a), (2, .inl b), (3, .inl c), (4, .inl e), (5, .inl f)]) (st' := []) rfl ?_
    refine k_run 3 (pc' := 44) (l' := [(0, .inr (.inr 1)), (1, .inl a), (2, .inl b), (3, .inl c), (4, .inl e), (5, .inl f)]) (st' := [.inl c, .inr (.inr 2)]) rfl ?_
    refine h_cv (i := 84) (j := 26) (b := 2) (M' := mt_26) (xs := [.inl c]) (rest := []) rfl rfl rfl rfl (zs_K (x := kx_2) rfl (by decide)) rfl (Nat.le_of_ble_eq_true rfl) (Nat.le_of_ble_eq_true rfl) (by omega) (k_Tape_putNumber (by omega) hI10 (by omega)) ?_
    rintro _ H14 ⟨rfl, g13, hI15, hq16⟩
    have hf17 : fq [(2, 1)] [3] false H H14 := fq_t hf12 hq16 rfl rfl rfl
    refine k_run 0 (pc' := 47) (l' := [(0, .inr (.inr 1)), (1, .inl a), (2, .inl b), (3, .inl c), (4, .inl e), (5, .inl f)]) (st' := []) rfl ?_
    refine k_run 3 (pc' := 53) (l' := [(0, .inr (.inr 1)), (1, .inl a), (2, .inl b), (3, .inl c), (4, .inl e), (5, .inl f)]) (st' := [.inl e, .inr (.inr 2)]) rfl ?_
    refine h_cv (i := 84) (j := 26) (b := 2) (M' := mt_26) (xs := [.inl e]) (rest := []) rfl rfl rfl rfl (zs_K (x := kx_2) rfl (by decide)) rfl (Nat.le_of_ble_eq_true rfl) (Nat.le_of_ble_eq_true rfl) (by omega) (k_Tape_putNumber (by omega) hI15 (by omega)) ?_
    rintro _ H19 ⟨rfl, g18, hI20, hq21⟩
    have hf22 : fq [(2, 1)] [3] false H H19 := fq_t hf17 hq21 rfl rfl rfl
    refine k_run 0 (pc' := 56) (l' := [(0, .inr (.inr 1)), (1, .inl a), (2, .inl b), (3, .inl c), (4, .inl e), (5, .inl f)]) (st' := []) rfl ?_
    refine k_run 3 (pc' := 62) (l' := [(0, .inr (.inr 1)), (1, .inl a), (2, .inl b), (3, .inl c), (4, .inl e), (5, .inl f)]) (st' := [.inl f, .inr (.inr 2)]) rfl ?_
    refine h_cv (i := 84) (j := 26) (b := 2) (M' := mt_26) (xs := [.inl f]) (rest := []) rfl rfl rfl rfl (zs_K (x := kx_2) rfl (by decide)) rfl (Nat.le_of_ble_eq_true rfl) (Nat.le_of_ble_eq_true rfl) (by omega) (k_Tape_putNumber (by omega) hI20 (by omega)) ?_
    rintro _ H24 ⟨rfl, g23, hI25, hq26⟩
    have hf27 : fq [(2, 1)] [3] false H H24 := fq_t hf22 hq26 rfl rfl rfl
    refine k_run 0 (pc' := 65) (l' := [(0, .inr (.inr 1)), (1, .inl a), (2, .inl b), (3, .inl c), (4, .inl e), (5, .inl f)]) (st' := []) rfl ?_
    refine k_run 3 (pc' := 72) (l' := [(0, .inr (.inr 1)), (1, .inl a), (2, .inl b), (3, .inl c), (4, .inl e), (5, .inl f)]) (st' := [.inl (H24.1 2 1)]) rfl ?_
    have g28 : 0 ≤ (H24.1 2 1) ∧ (H24.1 2 1) ≤ 1000 := kn (x := kx_2) hI25 rfl 1
    refine h_reti (x := (H24.1 2 1)) rfl rfl ?_
    exact ⟨_, rfl, (by omega), hI25, hf27⟩
  · refine k_run 0 (pc' := 13) (l' := [(0, .inr (.inr 1)), (1, .inl a), (2, .inl b), (3, .inl c), (4, .inl e), (5, .inl f)]) (st' := []) rfl ?_
    exfalso
    omega

/-! end -/
set_option maxRecDepth 100000 in
theorem k_end {d : Nat} (hd : 1 ≤ d) {H : hp} (hI : Inv H) {a : Int} (ha : -2147483648 ≤ a ∧ a ≤ 2147483647) (hp0 : 0 ≤ a ∧ a ≤ H.1 2 1) : hG (zs zK) d mt_2 0 (zargs 0 [.inr (.inr 1), .inl a]) [] H (fun r9 H9 => r9 = none ∧ (H9.1 2 1 = a) ∧ Inv H9 ∧ fq [(2, 1)] [] false H H9) := by
  refine k_run 0 (pc' := 0) (l' := [(0, .inr (.inr 1)), (1, .inl a)]) (st' := []) rfl ?_
  refine k_run 1 (pc' := 1) (l' := [(0, .inr (.inr 1)), (1, .inl a)]) (st' := [.inl a]) rfl ?_
  refine h_zlt (off := 14) (t := 15) rfl rfl (by omega) (fun c1 => ?_) (fun c1 => ?_)
  · refine k_run 0 (pc' := 15) (l' := [(0, .inr (.inr 1)), (1, .inl a)]) (st' := []) rfl ?_
    exfalso
    omega
  · refine k_run 0 (pc' := 4) (l' := [(0, .inr (.inr 1)), (1, .inl a)]) (st' := []) rfl ?_
    refine k_run 4 (pc' := 12) (l' := [(0, .inr (.inr 1)), (1, .inl a)]) (st' := [.inl (H.1 2 1), .inl a]) rfl ?_
    have g2 : 0 ≤ (H.1 2 1) ∧ (H.1 2 1) ≤ 1000 := kn (x := kx_2) hI rfl 1
    refine h_ile (off := 13) (t := 25) rfl rfl (by omega) (by omega) (fun c3 => ?_) (fun c3 => ?_)
    · refine k_run 0 (pc' := 25) (l' := [(0, .inr (.inr 1)), (1, .inl a)]) (st' := []) rfl ?_
      refine k_run 3 (pc' := 30) (l' := [(0, .inr (.inr 1)), (1, .inl a)]) (st' := [.inl a, .inr (.inr 2)]) rfl ?_
      refine k_puti (z := a) (a := 2) (x := kx_2) rfl rfl rfl (by decide) (by decide) rfl rfl rfl rfl hI (by omega) (show 0 ≤ a ∧ a ≤ 1000 by omega) (fun H4 hI5 hw6 hv7 => ?_)
      have hf8 : fq [(2, 1)] [] false H H4 := fq_w (fq_rf _ _ _ _) hw6 (fpo (by decide) rfl)
      refine k_run 0 (pc' := 33) (l' := [(0, .inr (.inr 1)), (1, .inl a)]) (st' := []) rfl ?_
      refine h_ret rfl rfl ?_
      have g9 : 0 ≤ (H4.1 2 1) ∧ (H4.1 2 1) ≤ 1000 := kn (x := kx_2) hI5 rfl 1
      exact ⟨rfl, (by omega), hI5, hf8⟩
    · refine k_run 0 (pc' := 15) (l' := [(0, .inr (.inr 1)), (1, .inl a)]) (st' := []) rfl ?_
      exfalso
      omega

/-! read -/
set_option maxRecDepth 100000 in
theorem k_read {d : Nat} (hd : 43 ≤ d) {H : hp} (hI : Inv H)   : hG (zs zK) d mt_3 0 (zargs 0 [.inr (.inr 1)]) [] H (fun r9 H9 => ∃ z : Int, r9 = some (.inl z) ∧ ((-2147483648 ≤ z ∧ z ≤ 2147483647) ∧ (H9.1 2 1 = 0)) ∧ Inv H9 ∧ fq [(2, 1), (2, 5), (7, 5), (7, 6), (8, 4), (13, 4), (18, 4), (361, 3), (361, 4), (361, 5), (361, 6), (361, 7), (361, 8), (361, 9), (407, 2), (407, 3)] [4, 5, 6, 9, 10, 11, 14, 15, 16, 17, 19, 20, 21, 22, 362] true H H9) := by
  refine k_run 0 (pc' := 0) (l' := [(0, .inr (.inr 1))]) (st' := []) rfl ?_
  refine k_run 2 (pc' := 4) (l' := [(0, .inr (.inr 1))]) (st' := [.inr (.inr 361)]) rfl ?_
  refine h_cv (i := 92) (j := 62) (b := 361) (M' := mt_62) (xs := []) (rest := []) rfl rfl rfl rfl (zs_K (x := kx_361) rfl (by decide)) rfl (Nat.le_of_ble_eq_true rfl) (Nat.le_of_ble_eq_true rfl) (by omega) (k_Reader_readText (by omega) hI ) ?_
  rintro _ H2 ⟨z5, rfl, g1, hI3, hq4⟩
  have hf6 : fq [(2, 1), (2, 5), (7, 5), (7, 6), (8, 4), (13, 4), (18, 4), (361, 3), (361, 4), (361, 5), (361, 6), (361, 7), (361, 8), (361, 9), (407, 2), (407, 3)] [4, 5, 6, 9, 10, 11, 14, 15, 16, 17, 19, 20, 21, 22, 362] true H H2 := fq_t (fq_rf _ _ _ _) hq4 rfl rfl rfl
  refine k_run 0 (pc' := 7) (l' := [(0, .inr (.inr 1))]) (st' := [.inl z5]) rfl ?_
  refine k_run 4 (pc' := 13) (l' := [(0, .inr (.inr 1)), (1, .inl z5)]) (st' := [.inl 0, .inr (.inr 2)]) rfl ?_
  refine k_puti (z := 0) (a := 2) (x := kx_2) rfl rfl rfl (by decide) (by decide) rfl rfl rfl rfl hI3 (by decide) (show 0 ≤ (0 : Int) ∧ (0 : Int) ≤ 1000 by omega) (fun H7 hI8 hw9 hv10 => ?_)
  have hf11 : fq [(2, 1), (2, 5), (7, 5), (7, 6), (8, 4), (13, 4), (18, 4), (361, 3), (361, 4), (361, 5), (361, 6), (361, 7), (361, 8), (361, 9), (407, 2), (407, 3)] [4, 5, 6, 9, 10, 11, 14, 15, 16, 17, 19, 20, 21, 22, 362] true H H7 := fq_w hf6 hw9 (fpo (by decide) rfl)
  refine k_run 0 (pc' := 16) (l' := [(0, .inr (.inr 1)), (1, .inl z5)]) (st' := []) rfl ?_
  refine k_run 1 (pc' := 17) (l' := [(0, .inr (.inr 1)), (1, .inl z5)]) (st' := [.inl z5]) rfl ?_
  refine h_zlt (off := 13) (t := 30) rfl rfl (by omega) (fun c12 => ?_) (fun c12 => ?_)
  · refine k_run 0 (pc' := 30) (l' := [(0, .inr (.inr 1)), (1, .inl z5)]) (st' := []) rfl ?_
    refine k_run 1 (pc' := 31) (l' := [(0, .inr (.inr 1)), (1, .inl z5)]) (st' := [.inl z5]) rfl ?_
    refine h_reti (x := z5) rfl rfl ?_
    have g13 : 0 ≤ (H7.1 2 1) ∧ (H7.1 2 1) ≤ 1000 := kn (x := kx_2) hI8 rfl 1
    exact ⟨_, rfl, (by omega), hI8, hf11⟩
  · refine k_run 0 (pc' := 20) (l' := [(0, .inr (.inr 1)), (1, .inl z5)]) (st' := []) rfl ?_
    refine k_run 3 (pc' := 27) (l' := [(0, .inr (.inr 1)), (1, .inl z5)]) (st' := [.inr (.inr 407)]) rfl ?_
    refine h_cv (i := 100) (j := 144) (b := 407) (M' := mt_144) (xs := []) (rest := []) rfl rfl rfl rfl (zs_K (x := kx_407) rfl (by decide)) rfl (Nat.le_of_ble_eq_true rfl) (Nat.le_of_ble_eq_true rfl) (by omega) (k_Proof_forget (by omega) hI8 ) ?_
    rintro _ H15 ⟨rfl, hI16, hq17⟩
    have hf18 : fq [(2, 1), (2, 5), (7, 5), (7, 6), (8, 4), (13, 4), (18, 4), (361, 3), (361, 4), (361, 5), (361, 6), (361, 7), (361, 8), (361, 9), (407, 2), (407, 3)] [4, 5, 6, 9, 10, 11, 14, 15, 16, 17, 19, 20, 21, 22, 362] true H H15 := fq_t hf11 hq17 rfl rfl rfl
    refine k_run 0 (pc' := 30) (l' := [(0, .inr (.inr 1)), (1, .inl z5)]) (st' := []) rfl ?_
    refine k_run 1 (pc' := 31) (l' := [(0, .inr (.inr 1)), (1, .inl z5)]) (st' := [.inl z5]) rfl ?_
    refine h_reti (x := z5) rfl rfl ?_
    have g19 : 0 ≤ (H15.1 2 1) ∧ (H15.1 2 1) ≤ 1000 := kn (x := kx_2) hI16 rfl 1
    have e20 : (H15.1 2 1) = (H7.1 2 1) := (hq17.1 2 1 rfl (by decide) (by decide)).1
    exact ⟨_, rfl, (by omega), hI16, hf18⟩

/-! fault -/
set_option maxRecDepth 100000 in
theorem k_fault {d : Nat} (hd : 1 ≤ d) {H : hp} (hI : Inv H)   : hG (zs zK) d mt_4 0 (zargs 0 [.inr (.inr 1)]) [] H (fun r9 H9 => ∃ z : Int, r9 = some (.inl z) ∧ ((-2147483648 ≤ z ∧ z ≤ 2147483647)) ∧ H = H9) := by
  refine k_run 0 (pc' := 0) (l' := [(0, .inr (.inr 1))]) (st' := []) rfl ?_
  refine k_run 3 (pc' := 7) (l' := [(0, .inr (.inr 1))]) (st' := [.inl (H.1 361 4)]) rfl ?_
  have g1 : -2147483648 ≤ (H.1 361 4) ∧ (H.1 361 4) ≤ 2147483647 := kn (x := kx_361) hI rfl 4
  refine h_reti (x := (H.1 361 4)) rfl rfl ?_
  exact ⟨_, rfl, (by omega), rfl⟩

/-! count -/
set_option maxRecDepth 100000 in
theorem k_count {d : Nat} (hd : 1 ≤ d) {H : hp} (hI : Inv H) {a : Int} (ha : -2147483648 ≤ a ∧ a ≤ 2147483647) : hG (zs zK) d mt_5 0 (zargs 0 [.inr (.inr 1), .inl a]) [] H (fun r9 H9 => ∃ z : Int, r9 = some (.inl z) ∧ ((-2147483648 ≤ z ∧ z ≤ 2147483647)) ∧ H = H9) := by
  refine k_run 0 (pc' := 0) (l' := [(0, .inr (.inr 1)), (1, .inl a)]) (st' := []) rfl ?_
  refine k_run 5 (pc' := 9) (l' := [(0, .inr (.inr 1)), (1, .inl a), (2, .inr (.inr 407))]) (st' := [.inl a]) rfl ?_
  rcases (show a < 0 ∨ 7 < a ∨ a = 0 ∨ a = 1 ∨ a = 2 ∨ a = 3 ∨ a = 4 ∨ a = 5 ∨ a = 6 ∨ a = 7 by omega) with c1 | c1 | c1 | c1 | c1 | c1 | c1 | c1 | c1 | c1
  · refine h_tout (t := 136) rfl (by omega) (Or.inl c1) rfl ?_
    refine k_run 1 (pc' := 138) (l' := [(0, .inr (.inr 1)), (1, .inl a), (2, .inr (.inr 407))]) (st' := [.inl (-102)]) rfl ?_
    refine h_reti (x := (-102)) rfl rfl ?_
    exact ⟨_, rfl, (by omega), rfl⟩
  · refine h_tout (t := 136) rfl (by omega) (Or.inr c1) rfl ?_
    refine k_run 1 (pc' := 138) (l' := [(0, .inr (.inr 1)), (1, .inl a), (2, .inr (.inr 407))]) (st' := [.inl (-102)]) rfl ?_
    refine h_reti (x := (-102)) rfl rfl ?_
    exact ⟨_, rfl, (by omega), rfl⟩
  · refine h_tin (k := 0) (t := 56) rfl (by omega) (show a = 0 + ((0 : Nat) : Int) by omega) (by decide) rfl rfl ?_
    refine k_run 4 (pc' := 66) (l' := [(0, .inr (.inr 1)), (1, .inl a), (2, .inr (.inr 407))]) (st' := [.inl (H.1 8 4)]) rfl ?_
    have g2 : 0 ≤ (H.1 8 4) ∧ (H.1 8 4) ≤ 6 := kn (x := kx_8) hI rfl 4
    refine h_reti (x := (H.1 8 4)) rfl rfl ?_
    exact ⟨_, rfl, (by omega), rfl⟩
  · refine h_tin (k := 1) (t := 67) rfl (by omega) (show a = 0 + ((1 : Nat) : Int) by omega) (by decide) rfl rfl ?_
    refine k_run 4 (pc' := 77) (l' := [(0, .inr (.inr 1)), (1, .inl a), (2, .inr (.inr 407))]) (st' := [.inl (H.1 13 4)]) rfl ?_
    have g3 : 0 ≤ (H.1 13 4) ∧ (H.1 13 4) ≤ 16 := kn (x := kx_13) hI rfl 4
    refine h_reti (x := (H.1 13 4)) rfl rfl ?_
    exact ⟨_, rfl, (by omega), rfl⟩
  · refine h_tin (k := 2) (t := 78) rfl (by omega) (show a = 0 + ((2 : Nat) : Int) by omega) (by decide) rfl rfl ?_
    refine k_run 4 (pc' := 88) (l' := [(0, .inr (.inr 1)), (1, .inl a), (2, .inr (.inr 407))]) (st' := [.inl (H.1 18 4)]) rfl ?_
    have g4 : 0 ≤ (H.1 18 4) ∧ (H.1 18 4) ≤ 16 := kn (x := kx_18) hI rfl 4
    refine h_reti (x := (H.1 18 4)) rfl rfl ?_
    exact ⟨_, rfl, (by omega), rfl⟩
  · refine h_tin (k := 3) (t := 89) rfl (by omega) (show a = 0 + ((3 : Nat) : Int) by omega) (by decide) rfl rfl ?_
    refine k_run 3 (pc' := 96) (l' := [(0, .inr (.inr 1)), (1, .inl a), (2, .inr (.inr 407))]) (st' := [.inl (H.1 7 5)]) rfl ?_
    have g5 : 0 ≤ (H.1 7 5) ∧ (H.1 7 5) ≤ 40 := kn (x := kx_7) hI rfl 5
    refine h_reti (x := (H.1 7 5)) rfl rfl ?_
    exact ⟨_, rfl, (by omega), rfl⟩
  · refine h_tin (k := 4) (t := 97) rfl (by omega) (show a = 0 + ((4 : Nat) : Int) by omega) (by decide) rfl rfl ?_
    refine k_run 3 (pc' := 104) (l' := [(0, .inr (.inr 1)), (1, .inl a), (2, .inr (.inr 407))]) (st' := [.inl (H.1 7 6)]) rfl ?_
    have g6 : 0 ≤ (H.1 7 6) ∧ (H.1 7 6) ≤ 16 := kn (x := kx_7) hI rfl 6
    refine h_reti (x := (H.1 7 6)) rfl rfl ?_
    exact ⟨_, rfl, (by omega), rfl⟩
  · refine h_tin (k := 5) (t := 105) rfl (by omega) (show a = 0 + ((5 : Nat) : Int) by omega) (by decide) rfl rfl ?_
    refine k_run 2 (pc' := 109) (l' := [(0, .inr (.inr 1)), (1, .inl a), (2, .inr (.inr 407))]) (st' := [.inl (H.1 407 2)]) rfl ?_
    have g7 : 0 ≤ (H.1 407 2) ∧ (H.1 407 2) ≤ 12 := kn (x := kx_407) hI rfl 2
    refine h_reti (x := (H.1 407 2)) rfl rfl ?_
    exact ⟨_, rfl, (by omega), rfl⟩
  · refine h_tin (k := 6) (t := 110) rfl (by omega) (show a = 0 + ((6 : Nat) : Int) by omega) (by decide) rfl rfl ?_
    refine k_run 2 (pc' := 114) (l' := [(0, .inr (.inr 1)), (1, .inl a), (2, .inr (.inr 407))]) (st' := [.inl (H.1 407 3)]) rfl ?_
    have g8 : -2147483648 ≤ (H.1 407 3) ∧ (H.1 407 3) ≤ 2147483647 := kn (x := kx_407) hI rfl 3
    refine h_reti (x := (H.1 407 3)) rfl rfl ?_
    exact ⟨_, rfl, (by omega), rfl⟩
  · refine h_tin (k := 7) (t := 115) rfl (by omega) (show a = 0 + ((7 : Nat) : Int) by omega) (by decide) rfl rfl ?_
    refine k_run 2 (pc' := 119) (l' := [(0, .inr (.inr 1)), (1, .inl a), (2, .inr (.inr 407))]) (st' := [.inl (H.1 407 2)]) rfl ?_
    have g9 : 0 ≤ (H.1 407 2) ∧ (H.1 407 2) ≤ 12 := kn (x := kx_407) hI rfl 2
    refine h_zle (off := 15) (t := 134) rfl rfl (by omega) (fun c10 => ?_) (fun c10 => ?_)
    · refine k_run 0 (pc' := 134) (l' := [(0, .inr (.inr 1)), (1, .inl a), (2, .inr (.inr 407))]) (st' := []) rfl ?_
      refine k_run 1 (pc' := 135) (l' := [(0, .inr (.inr 1)), (1, .inl a), (2, .inr (.inr 407))]) (st' := [.inl 0]) rfl ?_
      refine h_reti (x := 0) rfl rfl ?_
      exact ⟨_, rfl, (by omega), rfl⟩
    · refine k_run 0 (pc' := 122) (l' := [(0, .inr (.inr 1)), (1, .inl a), (2, .inr (.inr 407))]) (st' := []) rfl ?_
      refine k_run 3 (pc' := 127) (l' := [(0, .inr (.inr 1)), (1, .inl a), (2, .inr (.inr 407))]) (st' := [.inl 0, .inr (.inr 408)]) rfl ?_
      refine k_ald (c := 408) (j := 0) (i := 0) (x := kx_408) rfl rfl (by decide) rfl (by decide) rfl (by decide) hI (fun h11 => ?_)
      obtain ⟨t12, et14⟩ : ∃ t9, t9 = H.2 408 0 := ⟨_, rfl⟩
      rw [← et14] at h11 ⊢
      have k13 : isG t12 := h11
      refine k_run 0 (pc' := 128) (l' := [(0, .inr (.inr 1)), (1, .inl a), (2, .inr (.inr 407))]) (st' := [.inr (.inr t12)]) rfl ?_
      refine k_get (a := t12) (x := (kGo t12)) (v := .inl (H.1 t12 2)) rfl rfl k13.1 (iG0 k13) rfl rfl rfl ?_
      have g15 : 0 ≤ (H.1 t12 2) ∧ (H.1 t12 2) ≤ 8 := kn hI k13.1 2
      refine k_run 0 (pc' := 131) (l' := [(0, .inr (.inr 1)), (1, .inl a), (2, .inr (.inr 407))]) (st' := [.inl (H.1 t12 2)]) rfl ?_
      refine k_run 1 (pc' := 135) (l' := [(0, .inr (.inr 1)), (1, .inl a), (2, .inr (.inr 407))]) (st' := [.inl (H.1 t12 2)]) rfl ?_
      refine h_reti (x := (H.1 t12 2)) rfl rfl ?_
      exact ⟨_, rfl, (by omega), rfl⟩

/-! about -/
set_option maxRecDepth 100000 in
theorem k_about {d : Nat} (hd : 2 ≤ d) {H : hp} (hI : Inv H) {a : Int} {b : Int} (ha : -2147483648 ≤ a ∧ a ≤ 2147483647) (hb : -2147483648 ≤ b ∧ b ≤ 2147483647) : hG (zs zK) d mt_6 0 (zargs 0 [.inr (.inr 1), .inl a, .inl b]) [] H (fun r9 H9 => ∃ z : Int, r9 = some (.inl z) ∧ ((-2147483648 ≤ z ∧ z ≤ 2147483647)) ∧ H = H9) := by
  refine k_run 0 (pc' := 0) (l' := [(0, .inr (.inr 1)), (1, .inl a), (2, .inl b)]) (st' := []) rfl ?_
  refine k_run 3 (pc' := 5) (l' := [(0, .inr (.inr 1)), (1, .inl a), (2, .inl b)]) (st' := [.inl a, .inr (.inr 7)]) rfl ?_
  refine h_cv (i := 144) (j := 35) (b := 7) (M' := mt_35) (xs := [.inl a]) (rest := []) rfl rfl rfl rfl (zs_K (x := kx_7) rfl (by decide)) rfl (Nat.le_of_ble_eq_true rfl) (Nat.le_of_ble_eq_true rfl) (by omega) (k_Program_hasLaw (by omega) hI (by omega)) ?_
  rintro _ _ ⟨z5, rfl, g1, rfl⟩
  refine k_run 0 (pc' := 8) (l' := [(0, .inr (.inr 1)), (1, .inl a), (2, .inl b)]) (st' := [.inl z5]) rfl ?_
  refine h_zne (off := 6) (t := 14) rfl rfl (by omega) (fun c6 => ?_) (fun c6 => ?_)
  · refine k_run 0 (pc' := 14) (l' := [(0, .inr (.inr 1)), (1, .inl a), (2, .inl b)]) (st' := []) rfl ?_
    refine k_run 4 (pc' := 22) (l' := [(0, .inr (.inr 1)), (1, .inl a), (2, .inl b)]) (st' := [.inl a, .inr (.inr 24)]) rfl ?_
    refine k_ald (c := 24) (j := (a).toNat) (i := a) (x := kx_24) rfl rfl (by decide) rfl (by decide) (by omega) (by omega) hI (fun h7 => ?_)
    obtain ⟨t8, et10⟩ : ∃ t9, t9 = H.2 24 (a).toNat := ⟨_, rfl⟩
    rw [← et10] at h7 ⊢
    have k9 : isE t8 := h7
    refine k_run 0 (pc' := 23) (l' := [(0, .inr (.inr 1)), (1, .inl a), (2, .inl b)]) (st' := [.inr (.inr t8)]) rfl ?_
    refine k_run 2 (pc' := 25) (l' := [(0, .inr (.inr 1)), (1, .inl a), (2, .inl b), (3, .inr (.inr t8))]) (st' := [.inl b]) rfl ?_
    rcases (show b < 0 ∨ 3 < b ∨ b = 0 ∨ b = 1 ∨ b = 2 ∨ b = 3 by omega) with c11 | c11 | c11 | c11 | c11 | c11
    · refine h_tout (t := 82) rfl (by omega) (Or.inl c11) rfl ?_
      refine k_run 1 (pc' := 84) (l' := [(0, .inr (.inr 1)), (1, .inl a), (2, .inl b), (3, .inr (.inr t8))]) (st' := [.inl (-102)]) rfl ?_
      refine h_reti (x := (-102)) rfl rfl ?_
      exact ⟨_, rfl, (by omega), rfl⟩
    · refine h_tout (t := 82) rfl (by omega) (Or.inr c11) rfl ?_
      refine k_run 1 (pc' := 84) (l' := [(0, .inr (.inr 1)), (1, .inl a), (2, .inl b), (3, .inr (.inr t8))]) (st' := [.inl (-102)]) rfl ?_
      refine h_reti (x := (-102)) rfl rfl ?_
      exact ⟨_, rfl, (by omega), rfl⟩
    · refine h_tin (k := 0) (t := 56) rfl (by omega) (show b = 0 + ((0 : Nat) : Int) by omega) (by decide) rfl rfl ?_
      refine k_run 1 (pc' := 57) (l' := [(0, .inr (.inr 1)), (1, .inl a), (2, .inl b), (3, .inr (.inr t8))]) (st' := [.inr (.inr t8)]) rfl ?_
      refine k_get (a := t8) (x := (kEo t8)) (v := .inl (H.1 t8 6)) rfl rfl k9.1 (iE0 k9) rfl rfl rfl ?_
      have g12 : -2147483648 ≤ (H.1 t8 6) ∧ (H.1 t8 6) ≤ 2147483647 := kn hI k9.1 6
      refine k_run 0 (pc' := 60) (l' := [(0, .inr (.inr 1)), (1, .inl a), (2, .inl b), (3, .inr (.inr t8))]) (st' := [.inl (H.1 t8 6)]) rfl ?_
      refine h_reti (x := (H.1 t8 6)) rfl rfl ?_
      exact ⟨_, rfl, (by omega), rfl⟩
    · refine h_tin (k := 1) (t := 61) rfl (by omega) (show b = 0 + ((1 : Nat) : Int) by omega) (by decide) rfl rfl ?_
      refine k_run 1 (pc' := 62) (l' := [(0, .inr (.inr 1)), (1, .inl a), (2, .inl b), (3, .inr (.inr t8))]) (st' := [.inr (.inr t8)]) rfl ?_
      refine k_get (a := t8) (x := (kEo t8)) (v := .inl (H.1 t8 3)) rfl rfl k9.1 (iE0 k9) rfl rfl rfl ?_
      have g13 : 0 ≤ (H.1 t8 3) ∧ (H.1 t8 3) ≤ 40 := kn hI k9.1 3
      refine k_run 0 (pc' := 65) (l' := [(0, .inr (.inr 1)), (1, .inl a), (2, .inl b), (3, .inr (.inr t8))]) (st' := [.inl (H.1 t8 3)]) rfl ?_
      refine h_reti (x := (H.1 t8 3)) rfl rfl ?_
      exact ⟨_, rfl, (by omega), rfl⟩
    · refine h_tin (k := 2) (t := 66) rfl (by omega) (show b = 0 + ((2 : Nat) : Int) by omega) (by decide) rfl rfl ?_
      refine k_run 1 (pc' := 67) (l' := [(0, .inr (.inr 1)), (1, .inl a), (2, .inl b), (3, .inr (.inr t8))]) (st' := [.inr (.inr t8)]) rfl ?_
      refine k_get (a := t8) (x := (kEo t8)) (v := .inr (.inr (t8 + 1))) rfl rfl k9.1 (iE0 k9) rfl rfl rfl ?_
      refine k_run 0 (pc' := 70) (l' := [(0, .inr (.inr 1)), (1, .inl a), (2, .inl b), (3, .inr (.inr t8))]) (st' := [.inr (.inr (t8 + 1))]) rfl ?_
      refine k_get (a := (t8 + 1)) (x := (kTo (t8 + 1) 40)) (v := .inl (H.1 (t8 + 1) 1)) rfl rfl (iEl k9).1 (iT0 (iEl k9)) rfl rfl rfl ?_
      have g14 : 0 ≤ (H.1 (t8 + 1) 1) ∧ (H.1 (t8 + 1) 1) ≤ 40 := kn hI (iEl k9).1 1
      refine k_run 0 (pc' := 73) (l' := [(0, .inr (.inr 1)), (1, .inl a), (2, .inl b), (3, .inr (.inr t8))]) (st' := [.inl (H.1 (t8 + 1) 1)]) rfl ?_
      refine h_reti (x := (H.1 (t8 + 1) 1)) rfl rfl ?_
      exact ⟨_, rfl, (by omega), rfl⟩
    · refine h_tin (k := 3) (t := 74) rfl (by omega) (show b = 0 + ((3 : Nat) : Int) by omega) (by decide) rfl rfl ?_
      refine k_run 1 (pc' := 75) (l' := [(0, .inr (.inr 1)), (1, .inl a), (2, .inl b), (3, .inr (.inr t8))]) (st' := [.inr (.inr t8)]) rfl ?_
      refine k_get (a := t8) (x := (kEo t8)) (v := .inr (.inr (t8 + 3))) rfl rfl k9.1 (iE0 k9) rfl rfl rfl ?_
      refine k_run 0 (pc' := 78) (l' := [(0, .inr (.inr 1)), (1, .inl a), (2, .inl b), (3, .inr (.inr t8))]) (st' := [.inr (.inr (t8 + 3))]) rfl ?_
      refine k_get (a := (t8 + 3)) (x := (kTo (t8 + 3) 40)) (v := .inl (H.1 (t8 + 3) 1)) rfl rfl (iEr k9).1 (iT0 (iEr k9)) rfl rfl rfl ?_
      have g15 : 0 ≤ (H.1 (t8 + 3) 1) ∧ (H.1 (t8 + 3) 1) ≤ 40 := kn hI (iEr k9).1 1
      refine k_run 0 (pc' := 81) (l' := [(0, .inr (.inr 1)), (1, .inl a), (2, .inl b), (3, .inr (.inr t8))]) (st' := [.inl (H.1 (t8 + 3) 1)]) rfl ?_
      refine h_reti (x := (H.1 (t8 + 3) 1)) rfl rfl ?_
      exact ⟨_, rfl, (by omega), rfl⟩
  · refine k_run 0 (pc' := 11) (l' := [(0, .inr (.inr 1)), (1, .inl a), (2, .inl b)]) (st' := []) rfl ?_
    refine k_run 1 (pc' := 13) (l' := [(0, .inr (.inr 1)), (1, .inl a), (2, .inl b)]) (st' := [.inl (-101)]) rfl ?_
    refine h_reti (x := (-101)) rfl rfl ?_
    exact ⟨_, rfl, (by omega), rfl⟩

/-! work -/
set_option maxRecDepth 100000 in
theorem k_work {d : Nat} (hd : 42 ≤ d) {H : hp} (hI : Inv H) {a : Int} (ha : -2147483648 ≤ a ∧ a ≤ 2147483647) : hG (zs zK) d mt_7 0 (zargs 0 [.inr (.inr 1), .inl a]) [] H (fun r9 H9 => ∃ z : Int, r9 = some (.inl z) ∧ ((-2147483648 ≤ z ∧ z ≤ 2147483647) ∧ (H9.1 2 1 = 0)) ∧ Inv H9 ∧ fq [(1, 8), (2, 1), (2, 5), (361, 3), (361, 4), (361, 5), (361, 6), (361, 8), (361, 9), (363, 3), (366, 4), (366, 5), (366, 6)] [4, 5, 6, 362, 364, 365, 367] true H H9) := by
  refine k_run 0 (pc' := 0) (l' := [(0, .inr (.inr 1)), (1, .inl a)]) (st' := []) rfl ?_
  refine k_run 1 (pc' := 1) (l' := [(0, .inr (.inr 1)), (1, .inl a)]) (st' := [.inl a]) rfl ?_
  refine h_zlt (off := 10) (t := 11) rfl rfl (by omega) (fun c1 => ?_) (fun c1 => ?_)
  · refine k_run 0 (pc' := 11) (l' := [(0, .inr (.inr 1)), (1, .inl a)]) (st' := []) rfl ?_
    refine k_run 4 (pc' := 18) (l' := [(0, .inr (.inr 1)), (1, .inl a), (2, .inl 1)]) (st' := [.inl 1]) rfl ?_
    refine h_zeq (off := 8) (t := 26) rfl rfl (by decide) (fun c => absurd c (by decide)) (fun _ => ?_)
    refine k_run 0 (pc' := 21) (l' := [(0, .inr (.inr 1)), (1, .inl a), (2, .inl 1)]) (st' := []) rfl ?_
    refine k_run 6 (pc' := 43) (l' := [(0, .inr (.inr 1)), (1, .inl a), (2, .inl 1), (3, .inl (-102))]) (st' := [.inl 0, .inr (.inr 2)]) rfl ?_
    refine k_puti (z := 0) (a := 2) (x := kx_2) rfl rfl rfl (by decide) (by decide) rfl rfl rfl rfl hI (by decide) (show 0 ≤ (0 : Int) ∧ (0 : Int) ≤ 1000 by omega) (fun H2 hI3 hw4 hv5 => ?_)
    have hf6 : fq [(1, 8), (2, 1), (2, 5), (361, 3), (361, 4), (361, 5), (361, 6), (361, 8), (361, 9), (363, 3), (366, 4), (366, 5), (366, 6)] [4, 5, 6, 362, 364, 365, 367] true H H2 := fq_w (fq_rf _ _ _ _) hw4 (fpo (by decide) rfl)
    refine k_run 0 (pc' := 46) (l' := [(0, .inr (.inr 1)), (1, .inl a), (2, .inl 1), (3, .inl (-102))]) (st' := []) rfl ?_
    refine k_run 1 (pc' := 47) (l' := [(0, .inr (.inr 1)), (1, .inl a), (2, .inl 1), (3, .inl (-102))]) (st' := [.inl (-102)]) rfl ?_
    refine h_zge (off := 5) (t := 52) rfl rfl (by decide) (fun c => absurd c (by decide)) (fun _ => ?_)
    refine k_run 0 (pc' := 50) (l' := [(0, .inr (.inr 1)), (1, .inl a), (2, .inl 1), (3, .inl (-102))]) (st' := []) rfl ?_
    refine k_run 1 (pc' := 51) (l' := [(0, .inr (.inr 1)), (1, .inl a), (2, .inl 1), (3, .inl (-102))]) (st' := [.inl (-102)]) rfl ?_
    refine h_reti (x := (-102)) rfl rfl ?_
    have g7 : 0 ≤ (H2.1 2 1) ∧ (H2.1 2 1) ≤ 1000 := kn (x := kx_2) hI3 rfl 1
    exact ⟨_, rfl, (by omega), hI3, hf6⟩
  · refine k_run 0 (pc' := 4) (l' := [(0, .inr (.inr 1)), (1, .inl a)]) (st' := []) rfl ?_
    refine k_run 2 (pc' := 8) (l' := [(0, .inr (.inr 1)), (1, .inl a)]) (st' := [.inl 2000, .inl a]) rfl ?_
    refine h_ile (off := 7) (t := 15) rfl rfl (by omega) (by decide) (fun c8 => ?_) (fun c8 => ?_)
    · refine k_run 0 (pc' := 15) (l' := [(0, .inr (.inr 1)), (1, .inl a)]) (st' := []) rfl ?_
      refine k_run 3 (pc' := 18) (l' := [(0, .inr (.inr 1)), (1, .inl a), (2, .inl 0)]) (st' := [.inl 0]) rfl ?_
      refine h_zeq (off := 8) (t := 26) rfl rfl (by decide) (fun _ => ?_) (fun c => absurd c (by decide))
      refine k_run 0 (pc' := 26) (l' := [(0, .inr (.inr 1)), (1, .inl a), (2, .inl 0)]) (st' := []) rfl ?_
      refine k_run 4 (pc' := 34) (l' := [(0, .inr (.inr 1)), (1, .inl a), (2, .inl 0)]) (st' := [.inr (.inr 1824), .inr (.inr 361)]) rfl ?_
      refine h_cv (i := 169) (j := 63) (b := 361) (M' := mt_63) (xs := [.inr (.inr 1824)]) (rest := []) rfl rfl rfl rfl (zs_K (x := kx_361) rfl (by decide)) rfl (Nat.le_of_ble_eq_true rfl) (Nat.le_of_ble_eq_true rfl) (by omega) (k_Reader_readClosedTerm (by omega) hI iT_1824) ?_
      rintro _ H10 ⟨z13, rfl, g9, hI11, hq12⟩
      have hf14 : fq [(1, 8), (2, 1), (2, 5), (361, 3), (361, 4), (361, 5), (361, 6), (361, 8), (361, 9), (363, 3), (366, 4), (366, 5), (366, 6)] [4, 5, 6, 362, 364, 365, 367] true H H10 := fq_t (fq_rf _ _ _ _) hq12 rfl rfl rfl
      refine k_run 0 (pc' := 37) (l' := [(0, .inr (.inr 1)), (1, .inl a), (2, .inl 0)]) (st' := [.inl z13]) rfl ?_
      refine k_run 4 (pc' := 43) (l' := [(0, .inr (.inr 1)), (1, .inl a), (2, .inl 0), (3, .inl z13)]) (st' := [.inl 0, .inr (.inr 2)]) rfl ?_
      refine k_puti (z := 0) (a := 2) (x := kx_2) rfl rfl rfl (by decide) (by decide) rfl rfl rfl rfl hI11 (by decide) (show 0 ≤ (0 : Int) ∧ (0 : Int) ≤ 1000 by omega) (fun H15 hI16 hw17 hv18 => ?_)
      have hf19 : fq [(1, 8), (2, 1), (2, 5), (361, 3), (361, 4), (361, 5), (361, 6), (361, 8), (361, 9), (363, 3), (366, 4), (366, 5), (366, 6)] [4, 5, 6, 362, 364, 365, 367] true H H15 := fq_w hf14 hw17 (fpo (by decide) rfl)
      refine k_run 0 (pc' := 46) (l' := [(0, .inr (.inr 1)), (1, .inl a), (2, .inl 0), (3, .inl z13)]) (st' := []) rfl ?_
      refine k_run 1 (pc' := 47) (l' := [(0, .inr (.inr 1)), (1, .inl a), (2, .inl 0), (3, .inl z13)]) (st' := [.inl z13]) rfl ?_
      refine h_zge (off := 5) (t := 52) rfl rfl (by omega) (fun c20 => ?_) (fun c20 => ?_)
      · refine k_run 0 (pc' := 52) (l' := [(0, .inr (.inr 1)), (1, .inl a), (2, .inl 0), (3, .inl z13)]) (st' := []) rfl ?_
        refine k_run 5 (pc' := 61) (l' := [(0, .inr (.inr 1)), (1, .inl a), (2, .inl 0), (3, .inl z13)]) (st' := [.inl a, .inr (.inr 1824), .inr (.inr 366)]) rfl ?_
        refine h_cv (i := 173) (j := 99) (b := 366) (M' := mt_99) (xs := [.inl a, .inr (.inr 1824)]) (rest := []) rfl rfl rfl rfl (zs_K (x := kx_366) rfl (by decide)) rfl (Nat.le_of_ble_eq_true rfl) (Nat.le_of_ble_eq_true rfl) (by omega) (k_Rewriter_workOut (by omega) hI16 iT_1824 (by omega) (by omega)) ?_
        rintro _ H22 ⟨z25, rfl, g21, hI23, hq24⟩
        have hf26 : fq [(1, 8), (2, 1), (2, 5), (361, 3), (361, 4), (361, 5), (361, 6), (361, 8), (361, 9), (363, 3), (366, 4), (366, 5), (366, 6)] [4, 5, 6, 362, 364, 365, 367] true H H22 := fq_t hf19 hq24 rfl rfl rfl
        refine k_run 0 (pc' := 64) (l' := [(0, .inr (.inr 1)), (1, .inl a), (2, .inl 0), (3, .inl z13)]) (st' := [.inl z25]) rfl ?_
        refine k_run 5 (pc' := 74) (l' := [(0, .inr (.inr 1)), (1, .inl a), (2, .inl 0), (3, .inl z13), (4, .inl z25)]) (st' := [.inl (H22.1 366 6), .inr (.inr 1)]) rfl ?_
        have g27 : 0 ≤ (H22.1 366 6) ∧ (H22.1 366 6) ≤ 2000 := kn (x := kx_366) hI23 rfl 6
        refine k_putw (a := 1) (x := kx_1) rfl rfl rfl (by decide) (by decide) rfl rfl rfl rfl hI23 rfl (fun H28 hI29 hw30 => ?_)
        have hf32 : fq [(1, 8), (2, 1), (2, 5), (361, 3), (361, 4), (361, 5), (361, 6), (361, 8), (361, 9), (363, 3), (366, 4), (366, 5), (366, 6)] [4, 5, 6, 362, 364, 365, 367] true H H28 := fq_w hf26 hw30 (fpo (by decide) rfl)
        refine k_run 0 (pc' := 77) (l' := [(0, .inr (.inr 1)), (1, .inl a), (2, .inl 0), (3, .inl z13), (4, .inl z25)]) (st' := []) rfl ?_
        refine k_run 5 (pc' := 86) (l' := [(0, .inr (.inr 1)), (1, .inl a), (2, .inl 0), (3, .inl z13), (4, .inl z25)]) (st' := [.inr (.inl 0), .inr (.inr 1824), .inr (.inr 363)]) rfl ?_
        refine h_cv (i := 183) (j := 88) (b := 363) (M' := mt_88) (xs := [.inr (.inl 0), .inr (.inr 1824)]) (rest := []) rfl rfl rfl rfl (zs_K (x := kx_363) rfl (by decide)) rfl (Nat.le_of_ble_eq_true rfl) (Nat.le_of_ble_eq_true rfl) (by omega) (k_Printer_print (by omega) hI29 iT_1824) ?_
        rintro _ H34 ⟨z37, rfl, g33, hI35, hq36⟩
        have hf38 : fq [(1, 8), (2, 1), (2, 5), (361, 3), (361, 4), (361, 5), (361, 6), (361, 8), (361, 9), (363, 3), (366, 4), (366, 5), (366, 6)] [4, 5, 6, 362, 364, 365, 367] true H H34 := fq_t hf32 hq36 rfl rfl rfl
        refine k_run 0 (pc' := 89) (l' := [(0, .inr (.inr 1)), (1, .inl a), (2, .inl 0), (3, .inl z13), (4, .inl z25)]) (st' := [.inl z37]) rfl ?_
        refine k_run 2 (pc' := 92) (l' := [(0, .inr (.inr 1)), (1, .inl a), (2, .inl 0), (3, .inl z13), (4, .inl z25)]) (st' := [.inl z25]) rfl ?_
        refine h_reti (x := z25) rfl rfl ?_
        have g39 : 0 ≤ (H34.1 2 1) ∧ (H34.1 2 1) ≤ 1000 := kn (x := kx_2) hI35 rfl 1
        have e40 : (H34.1 2 1) = (H28.1 2 1) := (hq36.1 2 1 rfl (by decide) (by decide)).1
        have e41 : (H28.1 2 1) = (H22.1 2 1) := hw30.2 _ _ (fun q => absurd q.1 (by decide))
        have e42 : (H22.1 2 1) = (H15.1 2 1) := (hq24.1 2 1 rfl (by decide) (by decide)).1
        exact ⟨_, rfl, (by omega), hI35, hf38⟩
      · refine k_run 0 (pc' := 50) (l' := [(0, .inr (.inr 1)), (1, .inl a), (2, .inl 0), (3, .inl z13)]) (st' := []) rfl ?_
        refine k_run 1 (pc' := 51) (l' := [(0, .inr (.inr 1)), (1, .inl a), (2, .inl 0), (3, .inl z13)]) (st' := [.inl z13]) rfl ?_
        refine h_reti (x := z13) rfl rfl ?_
        have g43 : 0 ≤ (H15.1 2 1) ∧ (H15.1 2 1) ≤ 1000 := kn (x := kx_2) hI16 rfl 1
        exact ⟨_, rfl, (by omega), hI16, hf19⟩
    · refine k_run 0 (pc' := 11) (l' := [(0, .inr (.inr 1)), (1, .inl a)]) (st' := []) rfl ?_
      refine k_run 4 (pc' := 18) (l' := [(0, .inr (.inr 1)), (1, .inl a), (2, .inl 1)]) (st' := [.inl 1]) rfl ?_
      refine h_zeq (off := 8) (t := 26) rfl rfl (by decide) (fun c => absurd c (by decide)) (fun _ => ?_)
      refine k_run 0 (pc' := 21) (l' := [(0, .inr (.inr 1)), (1, .inl a), (2, .inl 1)]) (st' := []) rfl ?_
      refine k_run 6 (pc' := 43) (l' := [(0, .inr (.inr 1)), (1, .inl a), (2, .inl 1), (3, .inl (-102))]) (st' := [.inl 0, .inr (.inr 2)]) rfl ?_
      refine k_puti (z := 0) (a := 2) (x := kx_2) rfl rfl rfl (by decide) (by decide) rfl rfl rfl rfl hI (by decide) (show 0 ≤ (0 : Int) ∧ (0 : Int) ≤ 1000 by omega) (fun H44 hI45 hw46 hv47 => ?_)
      have hf48 : fq [(1, 8), (2, 1), (2, 5), (361, 3), (361, 4), (361, 5), (361, 6), (361, 8), (361, 9), (363, 3), (366, 4), (366, 5), (366, 6)] [4, 5, 6, 362, 364, 365, 367] true H H44 := fq_w (fq_rf _ _ _ _) hw46 (fpo (by decide) rfl)
      refine k_run 0 (pc' := 46) (l' := [(0, .inr (.inr 1)), (1, .inl a), (2, .inl 1), (3, .inl (-102))]) (st' := []) rfl ?_
      refine k_run 1 (pc' := 47) (l' := [(0, .inr (.inr 1)), (1, .inl a), (2, .inl 1), (3, .inl (-102))]) (st' := [.inl (-102)]) rfl ?_
      refine h_zge (off := 5) (t := 52) rfl rfl (by decide) (fun c => absurd c (by decide)) (fun _ => ?_)
      refine k_run 0 (pc' := 50) (l' := [(0, .inr (.inr 1)), (1, .inl a), (2, .inl 1), (3, .inl (-102))]) (st' := []) rfl ?_
      refine k_run 1 (pc' := 51) (l' := [(0, .inr (.inr 1)), (1, .inl a), (2, .inl 1), (3, .inl (-102))]) (st' := [.inl (-102)]) rfl ?_
      refine h_reti (x := (-102)) rfl rfl ?_
      have g49 : 0 ≤ (H44.1 2 1) ∧ (H44.1 2 1) ≤ 1000 := kn (x := kx_2) hI45 rfl 1
      exact ⟨_, rfl, (by omega), hI45, hf48⟩

/-! steps -/
set_option maxRecDepth 100000 in
theorem k_steps {d : Nat} (hd : 1 ≤ d) {H : hp} (hI : Inv H)   : hG (zs zK) d mt_8 0 (zargs 0 [.inr (.inr 1)]) [] H (fun r9 H9 => ∃ z : Int, r9 = some (.inl z) ∧ ((-2147483648 ≤ z ∧ z ≤ 2147483647)) ∧ H = H9) := by
  refine k_run 0 (pc' := 0) (l' := [(0, .inr (.inr 1))]) (st' := []) rfl ?_
  refine k_run 2 (pc' := 4) (l' := [(0, .inr (.inr 1))]) (st' := [.inl (H.1 1 8)]) rfl ?_
  have g1 : -2147483648 ≤ (H.1 1 8) ∧ (H.1 1 8) ≤ 2147483647 := kn (x := kx_1) hI rfl 8
  refine h_reti (x := (H.1 1 8)) rfl rfl ?_
  exact ⟨_, rfl, (by omega), rfl⟩

/-! test -/
set_option maxRecDepth 100000 in
theorem k_test {d : Nat} (hd : 22 ≤ d) {H : hp} (hI : Inv H) {a : Int} {b : Int} {c : Int} (ha : -2147483648 ≤ a ∧ a ≤ 2147483647) (hb : -2147483648 ≤ b ∧ b ≤ 2147483647) (hc : 0 ≤ c ∧ c ≤ 1) : hG (zs zK) d mt_9 0 (zargs 0 [.inr (.inr 1), .inl a, .inl b, .inl c]) [] H (fun r9 H9 => ∃ z : Int, r9 = some (.inl z) ∧ ((-2147483648 ≤ z ∧ z ≤ 2147483647)) ∧ Inv H9 ∧ fq [(366, 4), (366, 5), (366, 6), (372, 9), (372, 10)] [367, 373, 374, 375] false H H9) := by
  refine k_run 0 (pc' := 0) (l' := [(0, .inr (.inr 1)), (1, .inl a), (2, .inl b), (3, .inl c)]) (st' := []) rfl ?_
  refine k_run 3 (pc' := 5) (l' := [(0, .inr (.inr 1)), (1, .inl a), (2, .inl b), (3, .inl c)]) (st' := [.inl a, .inr (.inr 7)]) rfl ?_
  refine h_cv (i := 144) (j := 35) (b := 7) (M' := mt_35) (xs := [.inl a]) (rest := []) rfl rfl rfl rfl (zs_K (x := kx_7) rfl (by decide)) rfl (Nat.le_of_ble_eq_true rfl) (Nat.le_of_ble_eq_true rfl) (by omega) (k_Program_hasLaw (by omega) hI (by omega)) ?_
  rintro _ _ ⟨z5, rfl, g1, rfl⟩
  refine k_run 0 (pc' := 8) (l' := [(0, .inr (.inr 1)), (1, .inl a), (2, .inl b), (3, .inl c)]) (st' := [.inl z5]) rfl ?_
  refine h_zne (off := 6) (t := 14) rfl rfl (by omega) (fun c6 => ?_) (fun c6 => ?_)
  · refine k_run 0 (pc' := 14) (l' := [(0, .inr (.inr 1)), (1, .inl a), (2, .inl b), (3, .inl c)]) (st' := []) rfl ?_
    refine k_run 2 (pc' := 16) (l' := [(0, .inr (.inr 1)), (1, .inl a), (2, .inl b), (3, .inl c)]) (st' := [.inl 1, .inl b]) rfl ?_
    refine h_ilt (off := 9) (t := 25) rfl rfl (by omega) (by decide) (fun c7 => ?_) (fun c7 => ?_)
    · refine k_run 0 (pc' := 25) (l' := [(0, .inr (.inr 1)), (1, .inl a), (2, .inl b), (3, .inl c)]) (st' := []) rfl ?_
      refine k_run 1 (pc' := 27) (l' := [(0, .inr (.inr 1)), (1, .inl a), (2, .inl b), (3, .inl c)]) (st' := [.inl (-102)]) rfl ?_
      refine h_reti (x := (-102)) rfl rfl ?_
      exact ⟨_, rfl, (by omega), hI, (fq_rf _ _ _ _)⟩
    · refine k_run 0 (pc' := 19) (l' := [(0, .inr (.inr 1)), (1, .inl a), (2, .inl b), (3, .inl c)]) (st' := []) rfl ?_
      refine k_run 2 (pc' := 22) (l' := [(0, .inr (.inr 1)), (1, .inl a), (2, .inl b), (3, .inl c)]) (st' := [.inl 6, .inl b]) rfl ?_
      refine h_ile (off := 6) (t := 28) rfl rfl (by omega) (by decide) (fun c8 => ?_) (fun c8 => ?_)
      · refine k_run 0 (pc' := 28) (l' := [(0, .inr (.inr 1)), (1, .inl a), (2, .inl b), (3, .inl c)]) (st' := []) rfl ?_
        refine k_run 6 (pc' := 40) (l' := [(0, .inr (.inr 1)), (1, .inl a), (2, .inl b), (3, .inl c)]) (st' := [.inl a, .inr (.inr 24), .inr (.inr 372)]) rfl ?_
        refine k_ald (c := 24) (j := (a).toNat) (i := a) (x := kx_24) rfl rfl (by decide) rfl (by decide) (by omega) (by omega) hI (fun h9 => ?_)
        obtain ⟨t10, et12⟩ : ∃ t9, t9 = H.2 24 (a).toNat := ⟨_, rfl⟩
        rw [← et12] at h9 ⊢
        have k11 : isE t10 := h9
        refine k_run 0 (pc' := 41) (l' := [(0, .inr (.inr 1)), (1, .inl a), (2, .inl b), (3, .inl c)]) (st' := [.inr (.inr t10), .inr (.inr 372)]) rfl ?_
        refine k_run 2 (pc' := 43) (l' := [(0, .inr (.inr 1)), (1, .inl a), (2, .inl b), (3, .inl c)]) (st' := [.inl c, .inl b, .inr (.inr t10), .inr (.inr 372)]) rfl ?_
        refine h_cv (i := 187) (j := 102) (b := 372) (M' := mt_102) (xs := [.inl c, .inl b, .inr (.inr t10)]) (rest := []) rfl rfl rfl rfl (zs_K (x := kx_372) rfl (by decide)) rfl (Nat.le_of_ble_eq_true rfl) (Nat.le_of_ble_eq_true rfl) (by omega) (k_Trial_tryLaw (by omega) hI k11 (by omega) (by omega) (by omega)) ?_
        rintro _ H14 ⟨z17, rfl, g13, hI15, hq16⟩
        have hf18 : fq [(366, 4), (366, 5), (366, 6), (372, 9), (372, 10)] [367, 373, 374, 375] false H H14 := fq_t (fq_rf _ _ _ _) hq16 rfl rfl rfl
        refine k_run 0 (pc' := 46) (l' := [(0, .inr (.inr 1)), (1, .inl a), (2, .inl b), (3, .inl c)]) (st' := [.inl z17]) rfl ?_
        refine h_reti (x := z17) rfl rfl ?_
        exact ⟨_, rfl, (by omega), hI15, hf18⟩
      · refine k_run 0 (pc' := 25) (l' := [(0, .inr (.inr 1)), (1, .inl a), (2, .inl b), (3, .inl c)]) (st' := []) rfl ?_
        refine k_run 1 (pc' := 27) (l' := [(0, .inr (.inr 1)), (1, .inl a), (2, .inl b), (3, .inl c)]) (st' := [.inl (-102)]) rfl ?_
        refine h_reti (x := (-102)) rfl rfl ?_
        exact ⟨_, rfl, (by omega), hI, (fq_rf _ _ _ _)⟩
  · refine k_run 0 (pc' := 11) (l' := [(0, .inr (.inr 1)), (1, .inl a), (2, .inl b), (3, .inl c)]) (st' := []) rfl ?_
    refine k_run 1 (pc' := 13) (l' := [(0, .inr (.inr 1)), (1, .inl a), (2, .inl b), (3, .inl c)]) (st' := [.inl (-101)]) rfl ?_
    refine h_reti (x := (-101)) rfl rfl ?_
    exact ⟨_, rfl, (by omega), hI, (fq_rf _ _ _ _)⟩

/-! told -/
set_option maxRecDepth 100000 in
theorem k_told {d : Nat} (hd : 5 ≤ d) {H : hp} (hI : Inv H) {a : Int} (ha : -2147483648 ≤ a ∧ a ≤ 2147483647) : hG (zs zK) d mt_10 0 (zargs 0 [.inr (.inr 1), .inl a]) [] H (fun r9 H9 => ∃ z : Int, r9 = some (.inl z) ∧ ((-2147483648 ≤ z ∧ z ≤ 2147483647)) ∧ Inv H9 ∧ fq [(363, 3)] [364, 365] false H H9) := by
  refine k_run 0 (pc' := 0) (l' := [(0, .inr (.inr 1)), (1, .inl a)]) (st' := []) rfl ?_
  refine k_run 3 (pc' := 7) (l' := [(0, .inr (.inr 1)), (1, .inl a)]) (st' := [.inl (H.1 372 10)]) rfl ?_
  have g1 : -1 ≤ (H.1 372 10) ∧ (H.1 372 10) ≤ 6 := kn (x := kx_372) hI rfl 10
  refine h_zge (off := 6) (t := 13) rfl rfl (by omega) (fun c2 => ?_) (fun c2 => ?_)
  · refine k_run 0 (pc' := 13) (l' := [(0, .inr (.inr 1)), (1, .inl a)]) (st' := []) rfl ?_
    refine k_run 1 (pc' := 14) (l' := [(0, .inr (.inr 1)), (1, .inl a)]) (st' := [.inl a]) rfl ?_
    refine h_zlt (off := 14) (t := 28) rfl rfl (by omega) (fun c3 => ?_) (fun c3 => ?_)
    · refine k_run 0 (pc' := 28) (l' := [(0, .inr (.inr 1)), (1, .inl a)]) (st' := []) rfl ?_
      refine k_run 1 (pc' := 30) (l' := [(0, .inr (.inr 1)), (1, .inl a)]) (st' := [.inl (-101)]) rfl ?_
      refine h_reti (x := (-101)) rfl rfl ?_
      exact ⟨_, rfl, (by omega), hI, (fq_rf _ _ _ _)⟩
    · refine k_run 0 (pc' := 17) (l' := [(0, .inr (.inr 1)), (1, .inl a)]) (st' := []) rfl ?_
      refine k_run 4 (pc' := 25) (l' := [(0, .inr (.inr 1)), (1, .inl a)]) (st' := [.inl (H.1 372 10), .inl a]) rfl ?_
      refine h_ilt (off := 6) (t := 31) rfl rfl (by omega) (by omega) (fun c4 => ?_) (fun c4 => ?_)
      · refine k_run 0 (pc' := 31) (l' := [(0, .inr (.inr 1)), (1, .inl a)]) (st' := []) rfl ?_
        refine k_run 6 (pc' := 43) (l' := [(0, .inr (.inr 1)), (1, .inl a)]) (st' := [.inl a, .inr (.inr 377), .inr (.inr 363)]) rfl ?_
        refine k_ald (c := 377) (j := (a).toNat) (i := a) (x := kx_377) rfl rfl (by decide) rfl (by decide) (by omega) (by omega) hI (fun h5 => ?_)
        obtain ⟨t6, et8⟩ : ∃ t9, t9 = H.2 377 (a).toNat := ⟨_, rfl⟩
        rw [← et8] at h5 ⊢
        obtain ⟨n9, k7⟩ := (show (∃ n, isT t6 n) ∧ 369 < t6 from h5).1
        have k7b := k7.2.2.2.2
        refine k_run 0 (pc' := 44) (l' := [(0, .inr (.inr 1)), (1, .inl a)]) (st' := [.inr (.inr t6), .inr (.inr 363)]) rfl ?_
        refine k_run 1 (pc' := 45) (l' := [(0, .inr (.inr 1)), (1, .inl a)]) (st' := [.inr (.inl 0), .inr (.inr t6), .inr (.inr 363)]) rfl ?_
        refine h_cv (i := 183) (j := 88) (b := 363) (M' := mt_88) (xs := [.inr (.inl 0), .inr (.inr t6)]) (rest := []) rfl rfl rfl rfl (zs_K (x := kx_363) rfl (by decide)) rfl (Nat.le_of_ble_eq_true rfl) (Nat.le_of_ble_eq_true rfl) (by omega) (k_Printer_print (by omega) hI k7) ?_
        rintro _ H11 ⟨z14, rfl, g10, hI12, hq13⟩
        have hf15 : fq [(363, 3)] [364, 365] false H H11 := fq_t (fq_rf _ _ _ _) hq13 rfl rfl rfl
        refine k_run 0 (pc' := 48) (l' := [(0, .inr (.inr 1)), (1, .inl a)]) (st' := [.inl z14]) rfl ?_
        refine h_reti (x := z14) rfl rfl ?_
        exact ⟨_, rfl, (by omega), hI12, hf15⟩
      · refine k_run 0 (pc' := 28) (l' := [(0, .inr (.inr 1)), (1, .inl a)]) (st' := []) rfl ?_
        refine k_run 1 (pc' := 30) (l' := [(0, .inr (.inr 1)), (1, .inl a)]) (st' := [.inl (-101)]) rfl ?_
        refine h_reti (x := (-101)) rfl rfl ?_
        exact ⟨_, rfl, (by omega), hI, (fq_rf _ _ _ _)⟩
  · refine k_run 0 (pc' := 10) (l' := [(0, .inr (.inr 1)), (1, .inl a)]) (st' := []) rfl ?_
    refine k_run 1 (pc' := 12) (l' := [(0, .inr (.inr 1)), (1, .inl a)]) (st' := [.inl (-103)]) rfl ?_
    refine h_reti (x := (-103)) rfl rfl ?_
    exact ⟨_, rfl, (by omega), hI, (fq_rf _ _ _ _)⟩

/-! begin -/
set_option maxRecDepth 100000 in
theorem k_begin {d : Nat} (hd : 3 ≤ d) {H : hp} (hI : Inv H) {a : Int} {b : Int} (ha : -2147483648 ≤ a ∧ a ≤ 2147483647) (hb : 0 ≤ b ∧ b ≤ 1) : hG (zs zK) d mt_11 0 (zargs 0 [.inr (.inr 1), .inl a, .inl b]) [] H (fun r9 H9 => ∃ z : Int, r9 = some (.inl z) ∧ ((-2147483648 ≤ z ∧ z ≤ 2147483647)) ∧ Inv H9 ∧ fq [(407, 2), (407, 3), (407, 4), (407, 5), (407, 6), (407, 7), (407, 8)] [409] true H H9) := by
  refine k_run 0 (pc' := 0) (l' := [(0, .inr (.inr 1)), (1, .inl a), (2, .inl b)]) (st' := []) rfl ?_
  refine k_run 3 (pc' := 5) (l' := [(0, .inr (.inr 1)), (1, .inl a), (2, .inl b)]) (st' := [.inl a, .inr (.inr 7)]) rfl ?_
  refine h_cv (i := 144) (j := 35) (b := 7) (M' := mt_35) (xs := [.inl a]) (rest := []) rfl rfl rfl rfl (zs_K (x := kx_7) rfl (by decide)) rfl (Nat.le_of_ble_eq_true rfl) (Nat.le_of_ble_eq_true rfl) (by omega) (k_Program_hasLaw (by omega) hI (by omega)) ?_
  rintro _ _ ⟨z5, rfl, g1, rfl⟩
  refine k_run 0 (pc' := 8) (l' := [(0, .inr (.inr 1)), (1, .inl a), (2, .inl b)]) (st' := [.inl z5]) rfl ?_
  refine h_zne (off := 6) (t := 14) rfl rfl (by omega) (fun c6 => ?_) (fun c6 => ?_)
  · refine k_run 0 (pc' := 14) (l' := [(0, .inr (.inr 1)), (1, .inl a), (2, .inl b)]) (st' := []) rfl ?_
    refine k_run 7 (pc' := 29) (l' := [(0, .inr (.inr 1)), (1, .inl a), (2, .inl b)]) (st' := [.inl a, .inr (.inr 24), .inr (.inr 407)]) rfl ?_
    refine k_ald (c := 24) (j := (a).toNat) (i := a) (x := kx_24) rfl rfl (by decide) rfl (by decide) (by omega) (by omega) hI (fun h7 => ?_)
    obtain ⟨t8, et10⟩ : ∃ t9, t9 = H.2 24 (a).toNat := ⟨_, rfl⟩
    rw [← et10] at h7 ⊢
    have k9 : isE t8 := h7
    refine k_run 0 (pc' := 30) (l' := [(0, .inr (.inr 1)), (1, .inl a), (2, .inl b)]) (st' := [.inr (.inr t8), .inr (.inr 407)]) rfl ?_
    refine k_run 2 (pc' := 32) (l' := [(0, .inr (.inr 1)), (1, .inl a), (2, .inl b)]) (st' := [.inl b, .inl a, .inr (.inr t8), .inr (.inr 407)]) rfl ?_
    refine h_cv (i := 198) (j := 145) (b := 407) (M' := mt_145) (xs := [.inl b, .inl a, .inr (.inr t8)]) (rest := []) rfl rfl rfl rfl (zs_K (x := kx_407) rfl (by decide)) rfl (Nat.le_of_ble_eq_true rfl) (Nat.le_of_ble_eq_true rfl) (by omega) (k_Proof_start (by omega) hI k9 (by omega) (by omega)) ?_
    rintro _ H12 ⟨rfl, hI13, hq14⟩
    have hf15 : fq [(407, 2), (407, 3), (407, 4), (407, 5), (407, 6), (407, 7), (407, 8)] [409] true H H12 := fq_t (fq_rf _ _ _ _) hq14 rfl rfl rfl
    refine k_run 0 (pc' := 35) (l' := [(0, .inr (.inr 1)), (1, .inl a), (2, .inl b)]) (st' := []) rfl ?_
    refine k_run 4 (pc' := 45) (l' := [(0, .inr (.inr 1)), (1, .inl a), (2, .inl b)]) (st' := [.inl (H12.1 407 2)]) rfl ?_
    have g16 : 0 ≤ (H12.1 407 2) ∧ (H12.1 407 2) ≤ 12 := kn (x := kx_407) hI13 rfl 2
    refine h_reti (x := (H12.1 407 2)) rfl rfl ?_
    exact ⟨_, rfl, (by omega), hI13, hf15⟩
  · refine k_run 0 (pc' := 11) (l' := [(0, .inr (.inr 1)), (1, .inl a), (2, .inl b)]) (st' := []) rfl ?_
    refine k_run 1 (pc' := 13) (l' := [(0, .inr (.inr 1)), (1, .inl a), (2, .inl b)]) (st' := [.inl (-101)]) rfl ?_
    refine h_reti (x := (-101)) rfl rfl ?_
    exact ⟨_, rfl, (by omega), hI, (fq_rf _ _ _ _)⟩

/-! unfold -/
set_option maxRecDepth 100000 in
theorem k_unfold {d : Nat} (hd : 5 ≤ d) {H : hp} (hI : Inv H) {a : Int} {b : Int} (ha : -2147483648 ≤ a ∧ a ≤ 2147483647) (hb : -2147483648 ≤ b ∧ b ≤ 2147483647) : hG (zs zK) d mt_12 0 (zargs 0 [.inr (.inr 1), .inl a, .inl b]) [] H (fun r9 H9 => ∃ z : Int, r9 = some (.inl z) ∧ ((-2147483648 ≤ z ∧ z ≤ 2147483647)) ∧ Inv H9 ∧ fq [(366, 4), (366, 5), (407, 3)] [367] false H H9) := by
  refine k_run 0 (pc' := 0) (l' := [(0, .inr (.inr 1)), (1, .inl a), (2, .inl b)]) (st' := []) rfl ?_
  refine k_run 3 (pc' := 3) (l' := [(0, .inr (.inr 1)), (1, .inl a), (2, .inl b)]) (st' := [.inl b, .inl a, .inr (.inr 1)]) rfl ?_
  refine h_cv (i := 202) (j := 24) (b := 1) (M' := mt_24) (xs := [.inl b, .inl a]) (rest := []) rfl rfl rfl rfl (zs_K (x := kx_1) rfl (by decide)) rfl (Nat.le_of_ble_eq_true rfl) (Nat.le_of_ble_eq_true rfl) (by omega) (k_refusalAt (by omega) hI (by omega) (by omega)) ?_
  rintro _ _ ⟨z5, rfl, g1, rfl⟩
  refine k_run 0 (pc' := 6) (l' := [(0, .inr (.inr 1)), (1, .inl a), (2, .inl b)]) (st' := [.inl z5]) rfl ?_
  refine k_run 2 (pc' := 8) (l' := [(0, .inr (.inr 1)), (1, .inl a), (2, .inl b), (3, .inl z5)]) (st' := [.inl z5]) rfl ?_
  refine h_zge (off := 7) (t := 15) rfl rfl (by omega) (fun c6 => ?_) (fun c6 => ?_)
  · refine k_run 0 (pc' := 15) (l' := [(0, .inr (.inr 1)), (1, .inl a), (2, .inl b), (3, .inl z5)]) (st' := []) rfl ?_
    refine k_run 7 (pc' := 26) (l' := [(0, .inr (.inr 1)), (1, .inl a), (2, .inl b), (3, .inl z5)]) (st' := [.inl b, .inl a, .inr (.inr 406), .inl a, .inr (.inr 406)]) rfl ?_
    refine h_cv (i := 206) (j := 116) (b := 406) (M' := mt_116) (xs := [.inl b, .inl a]) (rest := [.inl a, .inr (.inr 406)]) rfl rfl rfl rfl (zs_K (x := kx_406) rfl (by decide)) rfl (Nat.le_of_ble_eq_true rfl) (Nat.le_of_ble_eq_true rfl) (by omega) (k_Prover_positionOf (by omega) hI (by omega) (by omega) (by omega)) ?_
    rintro _ _ ⟨z11, rfl, g7, rfl⟩
    refine k_run 0 (pc' := 29) (l' := [(0, .inr (.inr 1)), (1, .inl a), (2, .inl b), (3, .inl z5)]) (st' := [.inl z11, .inl a, .inr (.inr 406)]) rfl ?_
    refine h_cv (i := 209) (j := 117) (b := 406) (M' := mt_117) (xs := [.inl z11, .inl a]) (rest := []) rfl rfl rfl rfl (zs_K (x := kx_406) rfl (by decide)) rfl (Nat.le_of_ble_eq_true rfl) (Nat.le_of_ble_eq_true rfl) (by omega) (k_Prover_unfoldAt (by omega) hI (by omega) (by omega)) ?_
    rintro _ H13 ⟨z16, rfl, g12, hI14, hq15⟩
    have hf17 : fq [(366, 4), (366, 5), (407, 3)] [367] false H H13 := fq_t (fq_rf _ _ _ _) hq15 rfl rfl rfl
    refine k_run 0 (pc' := 32) (l' := [(0, .inr (.inr 1)), (1, .inl a), (2, .inl b), (3, .inl z5)]) (st' := [.inl z16]) rfl ?_
    refine h_reti (x := z16) rfl rfl ?_
    exact ⟨_, rfl, (by omega), hI14, hf17⟩
  · refine k_run 0 (pc' := 11) (l' := [(0, .inr (.inr 1)), (1, .inl a), (2, .inl b), (3, .inl z5)]) (st' := []) rfl ?_
    refine k_run 2 (pc' := 32) (l' := [(0, .inr (.inr 1)), (1, .inl a), (2, .inl b), (3, .inl z5)]) (st' := [.inl z5]) rfl ?_
    refine h_reti (x := z5) rfl rfl ?_
    exact ⟨_, rfl, (by omega), hI, (fq_rf _ _ _ _)⟩

/-! law -/
set_option maxRecDepth 100000 in
theorem k_law {d : Nat} (hd : 5 ≤ d) {H : hp} (hI : Inv H) {a : Int} {b : Int} {c : Int} {e : Int} (ha : -2147483648 ≤ a ∧ a ≤ 2147483647) (hb : 0 ≤ b ∧ b ≤ 1) (hc : -2147483648 ≤ c ∧ c ≤ 2147483647) (he : -2147483648 ≤ e ∧ e ≤ 2147483647) : hG (zs zK) d mt_13 0 (zargs 0 [.inr (.inr 1), .inl a, .inl b, .inl c, .inl e]) [] H (fun r9 H9 => ∃ z : Int, r9 = some (.inl z) ∧ ((-2147483648 ≤ z ∧ z ≤ 2147483647)) ∧ Inv H9 ∧ fq [(406, 6), (406, 7), (406, 8), (406, 9), (406, 10), (407, 3)] [367] false H H9) := by
  refine k_run 0 (pc' := 0) (l' := [(0, .inr (.inr 1)), (1, .inl a), (2, .inl b), (3, .inl c), (4, .inl e)]) (st' := []) rfl ?_
  refine k_run 3 (pc' := 5) (l' := [(0, .inr (.inr 1)), (1, .inl a), (2, .inl b), (3, .inl c), (4, .inl e)]) (st' := [.inl a, .inr (.inr 7)]) rfl ?_
  refine h_cv (i := 144) (j := 35) (b := 7) (M' := mt_35) (xs := [.inl a]) (rest := []) rfl rfl rfl rfl (zs_K (x := kx_7) rfl (by decide)) rfl (Nat.le_of_ble_eq_true rfl) (Nat.le_of_ble_eq_true rfl) (by omega) (k_Program_hasLaw (by omega) hI (by omega)) ?_
  rintro _ _ ⟨z5, rfl, g1, rfl⟩
  refine k_run 0 (pc' := 8) (l' := [(0, .inr (.inr 1)), (1, .inl a), (2, .inl b), (3, .inl c), (4, .inl e)]) (st' := [.inl z5]) rfl ?_
  refine h_zne (off := 6) (t := 14) rfl rfl (by omega) (fun c6 => ?_) (fun c6 => ?_)
  · refine k_run 0 (pc' := 14) (l' := [(0, .inr (.inr 1)), (1, .inl a), (2, .inl b), (3, .inl c), (4, .inl e)]) (st' := []) rfl ?_
    refine k_run 3 (pc' := 18) (l' := [(0, .inr (.inr 1)), (1, .inl a), (2, .inl b), (3, .inl c), (4, .inl e)]) (st' := [.inl e, .inl c, .inr (.inr 1)]) rfl ?_
    refine h_cv (i := 202) (j := 24) (b := 1) (M' := mt_24) (xs := [.inl e, .inl c]) (rest := []) rfl rfl rfl rfl (zs_K (x := kx_1) rfl (by decide)) rfl (Nat.le_of_ble_eq_true rfl) (Nat.le_of_ble_eq_true rfl) (by omega) (k_refusalAt (by omega) hI (by omega) (by omega)) ?_
    rintro _ _ ⟨z11, rfl, g7, rfl⟩
    refine k_run 0 (pc' := 21) (l' := [(0, .inr (.inr 1)), (1, .inl a), (2, .inl b), (3, .inl c), (4, .inl e)]) (st' := [.inl z11]) rfl ?_
    refine k_run 2 (pc' := 25) (l' := [(0, .inr (.inr 1)), (1, .inl a), (2, .inl b), (3, .inl c), (4, .inl e), (5, .inl z11)]) (st' := [.inl z11]) rfl ?_
    refine h_zge (off := 6) (t := 31) rfl rfl (by omega) (fun c12 => ?_) (fun c12 => ?_)
    · refine k_run 0 (pc' := 31) (l' := [(0, .inr (.inr 1)), (1, .inl a), (2, .inl b), (3, .inl c), (4, .inl e), (5, .inl z11)]) (st' := []) rfl ?_
      refine k_run 4 (pc' := 37) (l' := [(0, .inr (.inr 1)), (1, .inl a), (2, .inl b), (3, .inl c), (4, .inl e), (5, .inl z11)]) (st' := [.inl b, .inl a, .inr (.inr 406)]) rfl ?_
      refine h_cv (i := 212) (j := 118) (b := 406) (M' := mt_118) (xs := [.inl b, .inl a]) (rest := []) rfl rfl rfl rfl (zs_K (x := kx_406) rfl (by decide)) rfl (Nat.le_of_ble_eq_true rfl) (Nat.le_of_ble_eq_true rfl) (by omega) (k_Prover_chooseLaw (by omega) hI (by omega) (by omega)) ?_
      rintro _ H14 ⟨z17, rfl, g13, hI15, hq16⟩
      have hf18 : fq [(406, 6), (406, 7), (406, 8), (406, 9), (406, 10), (407, 3)] [367] false H H14 := fq_t (fq_rf _ _ _ _) hq16 rfl rfl rfl
      refine k_run 0 (pc' := 40) (l' := [(0, .inr (.inr 1)), (1, .inl a), (2, .inl b), (3, .inl c), (4, .inl e), (5, .inl z11)]) (st' := [.inl z17]) rfl ?_
      refine h_zne (off := 6) (t := 46) rfl rfl (by omega) (fun c19 => ?_) (fun c19 => ?_)
      · refine k_run 0 (pc' := 46) (l' := [(0, .inr (.inr 1)), (1, .inl a), (2, .inl b), (3, .inl c), (4, .inl e), (5, .inl z11)]) (st' := []) rfl ?_
        refine k_run 7 (pc' := 58) (l' := [(0, .inr (.inr 1)), (1, .inl a), (2, .inl b), (3, .inl c), (4, .inl e), (5, .inl z11)]) (st' := [.inl e, .inl c, .inr (.inr 406), .inl c, .inr (.inr 406)]) rfl ?_
        refine h_cv (i := 206) (j := 116) (b := 406) (M' := mt_116) (xs := [.inl e, .inl c]) (rest := [.inl c, .inr (.inr 406)]) rfl rfl rfl rfl (zs_K (x := kx_406) rfl (by decide)) rfl (Nat.le_of_ble_eq_true rfl) (Nat.le_of_ble_eq_true rfl) (by omega) (k_Prover_positionOf (by omega) hI15 (by omega) (by omega) (by omega)) ?_
        rintro _ _ ⟨z24, rfl, g20, rfl⟩
        refine k_run 0 (pc' := 61) (l' := [(0, .inr (.inr 1)), (1, .inl a), (2, .inl b), (3, .inl c), (4, .inl e), (5, .inl z11)]) (st' := [.inl z24, .inl c, .inr (.inr 406)]) rfl ?_
        refine h_cv (i := 216) (j := 120) (b := 406) (M' := mt_120) (xs := [.inl z24, .inl c]) (rest := []) rfl rfl rfl rfl (zs_K (x := kx_406) rfl (by decide)) rfl (Nat.le_of_ble_eq_true rfl) (Nat.le_of_ble_eq_true rfl) (by omega) (k_Prover_rewriteAt (by omega) hI15 (by omega) (by omega)) ?_
        rintro _ H26 ⟨z29, rfl, g25, hI27, hq28⟩
        have hf30 : fq [(406, 6), (406, 7), (406, 8), (406, 9), (406, 10), (407, 3)] [367] false H H26 := fq_t hf18 hq28 rfl rfl rfl
        refine k_run 0 (pc' := 64) (l' := [(0, .inr (.inr 1)), (1, .inl a), (2, .inl b), (3, .inl c), (4, .inl e), (5, .inl z11)]) (st' := [.inl z29]) rfl ?_
        refine h_reti (x := z29) rfl rfl ?_
        exact ⟨_, rfl, (by omega), hI27, hf30⟩
      · refine k_run 0 (pc' := 43) (l' := [(0, .inr (.inr 1)), (1, .inl a), (2, .inl b), (3, .inl c), (4, .inl e), (5, .inl z11)]) (st' := []) rfl ?_
        refine k_run 1 (pc' := 45) (l' := [(0, .inr (.inr 1)), (1, .inl a), (2, .inl b), (3, .inl c), (4, .inl e), (5, .inl z11)]) (st' := [.inl (-104)]) rfl ?_
        refine h_reti (x := (-104)) rfl rfl ?_
        exact ⟨_, rfl, (by omega), hI15, hf18⟩
    · refine k_run 0 (pc' := 28) (l' := [(0, .inr (.inr 1)), (1, .inl a), (2, .inl b), (3, .inl c), (4, .inl e), (5, .inl z11)]) (st' := []) rfl ?_
      refine k_run 1 (pc' := 30) (l' := [(0, .inr (.inr 1)), (1, .inl a), (2, .inl b), (3, .inl c), (4, .inl e), (5, .inl z11)]) (st' := [.inl z11]) rfl ?_
      refine h_reti (x := z11) rfl rfl ?_
      exact ⟨_, rfl, (by omega), hI, (fq_rf _ _ _ _)⟩
  · refine k_run 0 (pc' := 11) (l' := [(0, .inr (.inr 1)), (1, .inl a), (2, .inl b), (3, .inl c), (4, .inl e)]) (st' := []) rfl ?_
    refine k_run 1 (pc' := 13) (l' := [(0, .inr (.inr 1)), (1, .inl a), (2, .inl b), (3, .inl c), (4, .inl e)]) (st' := [.inl (-101)]) rfl ?_
    refine h_reti (x := (-101)) rfl rfl ?_
    exact ⟨_, rfl, (by omega), hI, (fq_rf _ _ _ _)⟩

/-! hypothesis -/
set_option maxRecDepth 100000 in
theorem k_hypothesis {d : Nat} (hd : 5 ≤ d) {H : hp} (hI : Inv H) {a : Int} {b : Int} {c : Int} {e : Int} (ha : -2147483648 ≤ a ∧ a ≤ 2147483647) (hb : 0 ≤ b ∧ b ≤ 1) (hc : -2147483648 ≤ c ∧ c ≤ 2147483647) (he : -2147483648 ≤ e ∧ e ≤ 2147483647) : hG (zs zK) d mt_14 0 (zargs 0 [.inr (.inr 1), .inl a, .inl b, .inl c, .inl e]) [] H (fun r9 H9 => ∃ z : Int, r9 = some (.inl z) ∧ ((-2147483648 ≤ z ∧ z ≤ 2147483647)) ∧ Inv H9 ∧ fq [(406, 6), (406, 7), (406, 8), (406, 9), (406, 10), (407, 3)] [367] false H H9) := by
  refine k_run 0 (pc' := 0) (l' := [(0, .inr (.inr 1)), (1, .inl a), (2, .inl b), (3, .inl c), (4, .inl e)]) (st' := []) rfl ?_
  refine k_run 3 (pc' := 4) (l' := [(0, .inr (.inr 1)), (1, .inl a), (2, .inl b), (3, .inl c), (4, .inl e)]) (st' := [.inl e, .inl c, .inr (.inr 1)]) rfl ?_
  refine h_cv (i := 202) (j := 24) (b := 1) (M' := mt_24) (xs := [.inl e, .inl c]) (rest := []) rfl rfl rfl rfl (zs_K (x := kx_1) rfl (by decide)) rfl (Nat.le_of_ble_eq_true rfl) (Nat.le_of_ble_eq_true rfl) (by omega) (k_refusalAt (by omega) hI (by omega) (by omega)) ?_
  rintro _ _ ⟨z5, rfl, g1, rfl⟩
  refine k_run 0 (pc' := 7) (l' := [(0, .inr (.inr 1)), (1, .inl a), (2, .inl b), (3, .inl c), (4, .inl e)]) (st' := [.inl z5]) rfl ?_
  refine k_run 2 (pc' := 11) (l' := [(0, .inr (.inr 1)), (1, .inl a), (2, .inl b), (3, .inl c), (4, .inl e), (5, .inl z5)]) (st' := [.inl z5]) rfl ?_
  refine h_zge (off := 6) (t := 17) rfl rfl (by omega) (fun c6 => ?_) (fun c6 => ?_)
  · refine k_run 0 (pc' := 17) (l' := [(0, .inr (.inr 1)), (1, .inl a), (2, .inl b), (3, .inl c), (4, .inl e), (5, .inl z5)]) (st' := []) rfl ?_
    refine k_run 4 (pc' := 23) (l' := [(0, .inr (.inr 1)), (1, .inl a), (2, .inl b), (3, .inl c), (4, .inl e), (5, .inl z5)]) (st' := [.inl b, .inl a, .inr (.inr 406)]) rfl ?_
    refine h_cv (i := 219) (j := 119) (b := 406) (M' := mt_119) (xs := [.inl b, .inl a]) (rest := []) rfl rfl rfl rfl (zs_K (x := kx_406) rfl (by decide)) rfl (Nat.le_of_ble_eq_true rfl) (Nat.le_of_ble_eq_true rfl) (by omega) (k_Prover_chooseHypothesis (by omega) hI (by omega) (by omega)) ?_
    rintro _ H8 ⟨z11, rfl, g7, hI9, hq10⟩
    have hf12 : fq [(406, 6), (406, 7), (406, 8), (406, 9), (406, 10), (407, 3)] [367] false H H8 := fq_t (fq_rf _ _ _ _) hq10 rfl rfl rfl
    refine k_run 0 (pc' := 26) (l' := [(0, .inr (.inr 1)), (1, .inl a), (2, .inl b), (3, .inl c), (4, .inl e), (5, .inl z5)]) (st' := [.inl z11]) rfl ?_
    refine h_zne (off := 6) (t := 32) rfl rfl (by omega) (fun c13 => ?_) (fun c13 => ?_)
    · refine k_run 0 (pc' := 32) (l' := [(0, .inr (.inr 1)), (1, .inl a), (2, .inl b), (3, .inl c), (4, .inl e), (5, .inl z5)]) (st' := []) rfl ?_
      refine k_run 7 (pc' := 44) (l' := [(0, .inr (.inr 1)), (1, .inl a), (2, .inl b), (3, .inl c), (4, .inl e), (5, .inl z5)]) (st' := [.inl e, .inl c, .inr (.inr 406), .inl c, .inr (.inr 406)]) rfl ?_
      refine h_cv (i := 206) (j := 116) (b := 406) (M' := mt_116) (xs := [.inl e, .inl c]) (rest := [.inl c, .inr (.inr 406)]) rfl rfl rfl rfl (zs_K (x := kx_406) rfl (by decide)) rfl (Nat.le_of_ble_eq_true rfl) (Nat.le_of_ble_eq_true rfl) (by omega) (k_Prover_positionOf (by omega) hI9 (by omega) (by omega) (by omega)) ?_
      rintro _ _ ⟨z18, rfl, g14, rfl⟩
      refine k_run 0 (pc' := 47) (l' := [(0, .inr (.inr 1)), (1, .inl a), (2, .inl b), (3, .inl c), (4, .inl e), (5, .inl z5)]) (st' := [.inl z18, .inl c, .inr (.inr 406)]) rfl ?_
      refine h_cv (i := 216) (j := 120) (b := 406) (M' := mt_120) (xs := [.inl z18, .inl c]) (rest := []) rfl rfl rfl rfl (zs_K (x := kx_406) rfl (by decide)) rfl (Nat.le_of_ble_eq_true rfl) (Nat.le_of_ble_eq_true rfl) (by omega) (k_Prover_rewriteAt (by omega) hI9 (by omega) (by omega)) ?_
      rintro _ H20 ⟨z23, rfl, g19, hI21, hq22⟩
      have hf24 : fq [(406, 6), (406, 7), (406, 8), (406, 9), (406, 10), (407, 3)] [367] false H H20 := fq_t hf12 hq22 rfl rfl rfl
      refine k_run 0 (pc' := 50) (l' := [(0, .inr (.inr 1)), (1, .inl a), (2, .inl b), (3, .inl c), (4, .inl e), (5, .inl z5)]) (st' := [.inl z23]) rfl ?_
      refine h_reti (x := z23) rfl rfl ?_
      exact ⟨_, rfl, (by omega), hI21, hf24⟩
    · refine k_run 0 (pc' := 29) (l' := [(0, .inr (.inr 1)), (1, .inl a), (2, .inl b), (3, .inl c), (4, .inl e), (5, .inl z5)]) (st' := []) rfl ?_
      refine k_run 1 (pc' := 31) (l' := [(0, .inr (.inr 1)), (1, .inl a), (2, .inl b), (3, .inl c), (4, .inl e), (5, .inl z5)]) (st' := [.inl (-104)]) rfl ?_
      refine h_reti (x := (-104)) rfl rfl ?_
      exact ⟨_, rfl, (by omega), hI9, hf12⟩
  · refine k_run 0 (pc' := 14) (l' := [(0, .inr (.inr 1)), (1, .inl a), (2, .inl b), (3, .inl c), (4, .inl e), (5, .inl z5)]) (st' := []) rfl ?_
    refine k_run 1 (pc' := 16) (l' := [(0, .inr (.inr 1)), (1, .inl a), (2, .inl b), (3, .inl c), (4, .inl e), (5, .inl z5)]) (st' := [.inl z5]) rfl ?_
    refine h_reti (x := z5) rfl rfl ?_
    exact ⟨_, rfl, (by omega), hI, (fq_rf _ _ _ _)⟩

/-! induction -/
set_option maxRecDepth 100000 in
theorem k_induction {d : Nat} (hd : 6 ≤ d) {H : hp} (hI : Inv H) {a : Int} (ha : -2147483648 ≤ a ∧ a ≤ 2147483647) : hG (zs zK) d mt_15 0 (zargs 0 [.inr (.inr 1), .inl a]) [] H (fun r9 H9 => ∃ z : Int, r9 = some (.inl z) ∧ ((-2147483648 ≤ z ∧ z ≤ 2147483647)) ∧ Inv H9 ∧ fq [(406, 13), (406, 14), (406, 15), (406, 16), (406, 17), (406, 18), (407, 2), (407, 3), (407, 6), (407, 7), (407, 8)] [408, 409, 1349] true H H9) := by
  refine k_run 0 (pc' := 0) (l' := [(0, .inr (.inr 1)), (1, .inl a)]) (st' := []) rfl ?_
  refine k_run 4 (pc' := 10) (l' := [(0, .inr (.inr 1)), (1, .inl a)]) (st' := [.inl (H.1 407 2)]) rfl ?_
  have g1 : 0 ≤ (H.1 407 2) ∧ (H.1 407 2) ≤ 12 := kn (x := kx_407) hI rfl 2
  refine h_zle (off := 14) (t := 24) rfl rfl (by omega) (fun c2 => ?_) (fun c2 => ?_)
  · refine k_run 0 (pc' := 24) (l' := [(0, .inr (.inr 1)), (1, .inl a)]) (st' := []) rfl ?_
    refine k_run 1 (pc' := 26) (l' := [(0, .inr (.inr 1)), (1, .inl a)]) (st' := [.inl (-103)]) rfl ?_
    refine h_reti (x := (-103)) rfl rfl ?_
    exact ⟨_, rfl, (by omega), hI, (fq_rf _ _ _ _)⟩
  · refine k_run 0 (pc' := 13) (l' := [(0, .inr (.inr 1)), (1, .inl a)]) (st' := []) rfl ?_
    refine k_run 3 (pc' := 18) (l' := [(0, .inr (.inr 1)), (1, .inl a)]) (st' := [.inl a, .inr (.inr 406)]) rfl ?_
    refine h_cv (i := 222) (j := 124) (b := 406) (M' := mt_124) (xs := [.inl a]) (rest := []) rfl rfl rfl rfl (zs_K (x := kx_406) rfl (by decide)) rfl (Nat.le_of_ble_eq_true rfl) (Nat.le_of_ble_eq_true rfl) (by omega) (k_Prover_inductOver (by omega) hI (by omega) (by omega)) ?_
    rintro _ H4 ⟨z7, rfl, g3, hI5, hq6⟩
    have hf8 : fq [(406, 13), (406, 14), (406, 15), (406, 16), (406, 17), (406, 18), (407, 2), (407, 3), (407, 6), (407, 7), (407, 8)] [408, 409, 1349] true H H4 := fq_t (fq_rf _ _ _ _) hq6 rfl rfl rfl
    refine k_run 0 (pc' := 21) (l' := [(0, .inr (.inr 1)), (1, .inl a)]) (st' := [.inl z7]) rfl ?_
    refine k_run 1 (pc' := 26) (l' := [(0, .inr (.inr 1)), (1, .inl a)]) (st' := [.inl z7]) rfl ?_
    refine h_reti (x := z7) rfl rfl ?_
    exact ⟨_, rfl, (by omega), hI5, hf8⟩

/-! cases -/
set_option maxRecDepth 100000 in
theorem k_cases {d : Nat} (hd : 6 ≤ d) {H : hp} (hI : Inv H) {a : Int} {b : Int} (ha : -2147483648 ≤ a ∧ a ≤ 2147483647) (hb : -2147483648 ≤ b ∧ b ≤ 2147483647) : hG (zs zK) d mt_16 0 (zargs 0 [.inr (.inr 1), .inl a, .inl b]) [] H (fun r9 H9 => ∃ z : Int, r9 = some (.inl z) ∧ ((-2147483648 ≤ z ∧ z ≤ 2147483647)) ∧ Inv H9 ∧ fq [(406, 13), (406, 14), (406, 16), (406, 17), (406, 18), (407, 2), (407, 3), (407, 6), (407, 7), (407, 8)] [408, 409, 1349] true H H9) := by
  refine k_run 0 (pc' := 0) (l' := [(0, .inr (.inr 1)), (1, .inl a), (2, .inl b)]) (st' := []) rfl ?_
  refine k_run 3 (pc' := 3) (l' := [(0, .inr (.inr 1)), (1, .inl a), (2, .inl b)]) (st' := [.inl b, .inl a, .inr (.inr 1)]) rfl ?_
  refine h_cv (i := 202) (j := 24) (b := 1) (M' := mt_24) (xs := [.inl b, .inl a]) (rest := []) rfl rfl rfl rfl (zs_K (x := kx_1) rfl (by decide)) rfl (Nat.le_of_ble_eq_true rfl) (Nat.le_of_ble_eq_true rfl) (by omega) (k_refusalAt (by omega) hI (by omega) (by omega)) ?_
  rintro _ _ ⟨z5, rfl, g1, rfl⟩
  refine k_run 0 (pc' := 6) (l' := [(0, .inr (.inr 1)), (1, .inl a), (2, .inl b)]) (st' := [.inl z5]) rfl ?_
  refine k_run 2 (pc' := 8) (l' := [(0, .inr (.inr 1)), (1, .inl a), (2, .inl b), (3, .inl z5)]) (st' := [.inl z5]) rfl ?_
  refine h_zge (off := 7) (t := 15) rfl rfl (by omega) (fun c6 => ?_) (fun c6 => ?_)
  · refine k_run 0 (pc' := 15) (l' := [(0, .inr (.inr 1)), (1, .inl a), (2, .inl b), (3, .inl z5)]) (st' := []) rfl ?_
    refine k_run 7 (pc' := 26) (l' := [(0, .inr (.inr 1)), (1, .inl a), (2, .inl b), (3, .inl z5)]) (st' := [.inl b, .inl a, .inr (.inr 406), .inl a, .inr (.inr 406)]) rfl ?_
    refine h_cv (i := 206) (j := 116) (b := 406) (M' := mt_116) (xs := [.inl b, .inl a]) (rest := [.inl a, .inr (.inr 406)]) rfl rfl rfl rfl (zs_K (x := kx_406) rfl (by decide)) rfl (Nat.le_of_ble_eq_true rfl) (Nat.le_of_ble_eq_true rfl) (by omega) (k_Prover_positionOf (by omega) hI (by omega) (by omega) (by omega)) ?_
    rintro _ _ ⟨z11, rfl, g7, rfl⟩
    refine k_run 0 (pc' := 29) (l' := [(0, .inr (.inr 1)), (1, .inl a), (2, .inl b), (3, .inl z5)]) (st' := [.inl z11, .inl a, .inr (.inr 406)]) rfl ?_
    have g12 : 0 ≤ (H.1 407 2) ∧ (H.1 407 2) ≤ 12 := kn (x := kx_407) hI rfl 2
    refine h_cv (i := 226) (j := 125) (b := 406) (M' := mt_125) (xs := [.inl z11, .inl a]) (rest := []) rfl rfl rfl rfl (zs_K (x := kx_406) rfl (by decide)) rfl (Nat.le_of_ble_eq_true rfl) (Nat.le_of_ble_eq_true rfl) (by omega) (k_Prover_splitAt (by omega) hI (by omega) (by omega) (by omega)) ?_
    rintro _ H14 ⟨z17, rfl, g13, hI15, hq16⟩
    have hf18 : fq [(406, 13), (406, 14), (406, 16), (406, 17), (406, 18), (407, 2), (407, 3), (407, 6), (407, 7), (407, 8)] [408, 409, 1349] true H H14 := fq_t (fq_rf _ _ _ _) hq16 rfl rfl rfl
    refine k_run 0 (pc' := 32) (l' := [(0, .inr (.inr 1)), (1, .inl a), (2, .inl b), (3, .inl z5)]) (st' := [.inl z17]) rfl ?_
    refine h_reti (x := z17) rfl rfl ?_
    exact ⟨_, rfl, (by omega), hI15, hf18⟩
  · refine k_run 0 (pc' := 11) (l' := [(0, .inr (.inr 1)), (1, .inl a), (2, .inl b), (3, .inl z5)]) (st' := []) rfl ?_
    refine k_run 2 (pc' := 32) (l' := [(0, .inr (.inr 1)), (1, .inl a), (2, .inl b), (3, .inl z5)]) (st' := [.inl z5]) rfl ?_
    refine h_reti (x := z5) rfl rfl ?_
    exact ⟨_, rfl, (by omega), hI, (fq_rf _ _ _ _)⟩

/-! same -/
set_option maxRecDepth 100000 in
theorem k_same {d : Nat} (hd : 4 ≤ d) {H : hp} (hI : Inv H)   : hG (zs zK) d mt_17 0 (zargs 0 [.inr (.inr 1)]) [] H (fun r9 H9 => ∃ z : Int, r9 = some (.inl z) ∧ ((-2147483648 ≤ z ∧ z ≤ 2147483647)) ∧ Inv H9 ∧ fq [(407, 2), (407, 3)] [408, 1349] true H H9) := by
  refine k_run 0 (pc' := 0) (l' := [(0, .inr (.inr 1))]) (st' := []) rfl ?_
  refine k_run 4 (pc' := 10) (l' := [(0, .inr (.inr 1))]) (st' := [.inl (H.1 407 2)]) rfl ?_
  have g1 : 0 ≤ (H.1 407 2) ∧ (H.1 407 2) ≤ 12 := kn (x := kx_407) hI rfl 2
  refine h_zle (off := 13) (t := 23) rfl rfl (by omega) (fun c2 => ?_) (fun c2 => ?_)
  · refine k_run 0 (pc' := 23) (l' := [(0, .inr (.inr 1))]) (st' := []) rfl ?_
    refine k_run 1 (pc' := 25) (l' := [(0, .inr (.inr 1))]) (st' := [.inl (-103)]) rfl ?_
    refine h_reti (x := (-103)) rfl rfl ?_
    exact ⟨_, rfl, (by omega), hI, (fq_rf _ _ _ _)⟩
  · refine k_run 0 (pc' := 13) (l' := [(0, .inr (.inr 1))]) (st' := []) rfl ?_
    refine k_run 2 (pc' := 17) (l' := [(0, .inr (.inr 1))]) (st' := [.inr (.inr 406)]) rfl ?_
    refine h_cv (i := 229) (j := 134) (b := 406) (M' := mt_134) (xs := []) (rest := []) rfl rfl rfl rfl (zs_K (x := kx_406) rfl (by decide)) rfl (Nat.le_of_ble_eq_true rfl) (Nat.le_of_ble_eq_true rfl) (by omega) (k_Prover_dropSame (by omega) hI (by omega)) ?_
    rintro _ H4 ⟨z7, rfl, g3, hI5, hq6⟩
    have hf8 : fq [(407, 2), (407, 3)] [408, 1349] true H H4 := fq_t (fq_rf _ _ _ _) hq6 rfl rfl rfl
    refine k_run 0 (pc' := 20) (l' := [(0, .inr (.inr 1))]) (st' := [.inl z7]) rfl ?_
    refine k_run 1 (pc' := 25) (l' := [(0, .inr (.inr 1))]) (st' := [.inl z7]) rfl ?_
    refine h_reti (x := z7) rfl rfl ?_
    exact ⟨_, rfl, (by omega), hI5, hf8⟩

/-! parts -/
set_option maxRecDepth 100000 in
theorem k_parts {d : Nat} (hd : 4 ≤ d) {H : hp} (hI : Inv H)   : hG (zs zK) d mt_18 0 (zargs 0 [.inr (.inr 1)]) [] H (fun r9 H9 => ∃ z : Int, r9 = some (.inl z) ∧ ((-2147483648 ≤ z ∧ z ≤ 2147483647)) ∧ Inv H9 ∧ fq [(407, 2), (407, 3)] [408, 1349] true H H9) := by
  refine k_run 0 (pc' := 0) (l' := [(0, .inr (.inr 1))]) (st' := []) rfl ?_
  refine k_run 4 (pc' := 10) (l' := [(0, .inr (.inr 1))]) (st' := [.inl (H.1 407 2)]) rfl ?_
  have g1 : 0 ≤ (H.1 407 2) ∧ (H.1 407 2) ≤ 12 := kn (x := kx_407) hI rfl 2
  refine h_zle (off := 13) (t := 23) rfl rfl (by omega) (fun c2 => ?_) (fun c2 => ?_)
  · refine k_run 0 (pc' := 23) (l' := [(0, .inr (.inr 1))]) (st' := []) rfl ?_
    refine k_run 1 (pc' := 25) (l' := [(0, .inr (.inr 1))]) (st' := [.inl (-103)]) rfl ?_
    refine h_reti (x := (-103)) rfl rfl ?_
    exact ⟨_, rfl, (by omega), hI, (fq_rf _ _ _ _)⟩
  · refine k_run 0 (pc' := 13) (l' := [(0, .inr (.inr 1))]) (st' := []) rfl ?_
    refine k_run 2 (pc' := 17) (l' := [(0, .inr (.inr 1))]) (st' := [.inr (.inr 406)]) rfl ?_
    refine h_cv (i := 232) (j := 135) (b := 406) (M' := mt_135) (xs := []) (rest := []) rfl rfl rfl rfl (zs_K (x := kx_406) rfl (by decide)) rfl (Nat.le_of_ble_eq_true rfl) (Nat.le_of_ble_eq_true rfl) (by omega) (k_Prover_takeApart (by omega) hI (by omega)) ?_
    rintro _ H4 ⟨z7, rfl, g3, hI5, hq6⟩
    have hf8 : fq [(407, 2), (407, 3)] [408, 1349] true H H4 := fq_t (fq_rf _ _ _ _) hq6 rfl rfl rfl
    refine k_run 0 (pc' := 20) (l' := [(0, .inr (.inr 1))]) (st' := [.inl z7]) rfl ?_
    refine k_run 1 (pc' := 25) (l' := [(0, .inr (.inr 1))]) (st' := [.inl z7]) rfl ?_
    refine h_reti (x := z7) rfl rfl ?_
    exact ⟨_, rfl, (by omega), hI5, hf8⟩

/-! search -/
set_option maxRecDepth 100000 in
theorem k_search_cut {d : Nat} (hd : 8 ≤ d) {H : hp} (hI : Inv H) {a : Int} (ha : -2147483648 ≤ a ∧ a ≤ 2147483647) : ∀ w : Nat, (∀ (H1 : hp), Inv H1 → fq [(366, 4), (366, 5), (406, 6), (406, 7), (406, 8), (406, 9), (406, 10), (406, 13), (406, 14), (406, 15), (406, 16), (406, 17), (406, 18), (407, 2), (407, 3), (407, 4), (407, 5), (407, 6), (407, 7), (407, 8), (878, 2), (878, 3), (878, 4), (878, 5), (878, 6), (878, 7), (878, 8)] [367, 408, 409, 880, 1349] true H H1 → ∀ (x2 : Int) , (-2147483648 ≤ x2 ∧ x2 ≤ 2147483647) → (0 ≤ x2) → (a ≤ 500) → (((1000 - x2).toNat) < w) → hG (zs zK) d mt_19 50 [(0, .inr (.inr 1)), (1, .inl a), (2, .inl x2)] [] H1 (fun r9 H9 => ∃ z : Int, r9 = some (.inl z) ∧ ((-2147483648 ≤ z ∧ z ≤ 2147483647)) ∧ Inv H9 ∧ fq [(366, 4), (366, 5), (406, 6), (406, 7), (406, 8), (406, 9), (406, 10), (406, 13), (406, 14), (406, 15), (406, 16), (406, 17), (406, 18), (407, 2), (407, 3), (407, 4), (407, 5), (407, 6), (407, 7), (407, 8), (878, 2), (878, 3), (878, 4), (878, 5), (878, 6), (878, 7), (878, 8)] [367, 408, 409, 880, 1349] true H H9)) := by
  intro w
  induction w with
  | zero => exact fun _ _ _ _ _ _ _ h => absurd h (Nat.not_lt_zero _)
  | succ w ih =>
    intro H1 hI1 hf1 x2 hx2 hi0 hi1 hw
    refine k_run 2 (pc' := 52) (l' := [(0, .inr (.inr 1)), (1, .inl a), (2, .inl x2)]) (st' := [.inl a, .inl x2]) rfl ?_
    refine h_ige (off := 32) (t := 84) rfl rfl (by omega) (by omega) (fun c10 => ?_) (fun c10 => ?_)
    · refine k_run 0 (pc' := 84) (l' := [(0, .inr (.inr 1)), (1, .inl a), (2, .inl x2)]) (st' := []) rfl ?_
      refine k_run 4 (pc' := 94) (l' := [(0, .inr (.inr 1)), (1, .inl a), (2, .inl x2)]) (st' := [.inl (H1.1 407 2)]) rfl ?_
      have g11 : 0 ≤ (H1.1 407 2) ∧ (H1.1 407 2) ≤ 12 := kn (x := kx_407) hI1 rfl 2
      refine h_zle (off := 22) (t := 116) rfl rfl (by omega) (fun c12 => ?_) (fun c12 => ?_)
      · refine k_run 0 (pc' := 116) (l' := [(0, .inr (.inr 1)), (1, .inl a), (2, .inl x2)]) (st' := []) rfl ?_
        refine k_run 1 (pc' := 117) (l' := [(0, .inr (.inr 1)), (1, .inl a), (2, .inl x2)]) (st' := [.inl x2]) rfl ?_
        refine h_reti (x := x2) rfl rfl ?_
        exact ⟨_, rfl, (by omega), hI1, hf1⟩
      · refine k_run 0 (pc' := 97) (l' := [(0, .inr (.inr 1)), (1, .inl a), (2, .inl x2)]) (st' := []) rfl ?_
        refine k_run 6 (pc' := 111) (l' := [(0, .inr (.inr 1)), (1, .inl a), (2, .inl x2)]) (st' := [.inr (.inr 878), .inr (.inr 407)]) rfl ?_
        refine h_cv (i := 238) (j := 147) (b := 407) (M' := mt_147) (xs := [.inr (.inr 878)]) (rest := []) rfl rfl rfl rfl (zs_K (x := kx_407) rfl (by decide)) rfl (Nat.le_of_ble_eq_true rfl) (Nat.le_of_ble_eq_true rfl) (by omega) (k_Proof_copy_407 (by omega) hI1 ) ?_
        rintro _ H14 ⟨rfl, hI15, hq16⟩
        have hf17 : fq [(366, 4), (366, 5), (406, 6), (406, 7), (406, 8), (406, 9), (406, 10), (406, 13), (406, 14), (406, 15), (406, 16), (406, 17), (406, 18), (407, 2), (407, 3), (407, 4), (407, 5), (407, 6), (407, 7), (407, 8), (878, 2), (878, 3), (878, 4), (878, 5), (878, 6), (878, 7), (878, 8)] [367, 408, 409, 880, 1349] true H H14 := fq_t hf1 hq16 rfl rfl rfl
        refine k_run 0 (pc' := 114) (l' := [(0, .inr (.inr 1)), (1, .inl a), (2, .inl x2)]) (st' := []) rfl ?_
        refine k_run 1 (pc' := 115) (l' := [(0, .inr (.inr 1)), (1, .inl a), (2, .inl x2)]) (st' := [.inl 0]) rfl ?_
        refine h_reti (x := 0) rfl rfl ?_
        exact ⟨_, rfl, (by omega), hI15, hf17⟩
    · refine k_run 0 (pc' := 55) (l' := [(0, .inr (.inr 1)), (1, .inl a), (2, .inl x2)]) (st' := []) rfl ?_
      refine k_run 4 (pc' := 65) (l' := [(0, .inr (.inr 1)), (1, .inl a), (2, .inl x2)]) (st' := [.inl (H1.1 407 2)]) rfl ?_
      have g18 : 0 ≤ (H1.1 407 2) ∧ (H1.1 407 2) ≤ 12 := kn (x := kx_407) hI1 rfl 2
      refine h_zle (off := 19) (t := 84) rfl rfl (by omega) (fun c19 => ?_) (fun c19 => ?_)
      · refine k_run 0 (pc' := 84) (l' := [(0, .inr (.inr 1)), (1, .inl a), (2, .inl x2)]) (st' := []) rfl ?_
        refine k_run 4 (pc' := 94) (l' := [(0, .inr (.inr 1)), (1, .inl a), (2, .inl x2)]) (st' := [.inl (H1.1 407 2)]) rfl ?_
        refine h_zle (off := 22) (t := 116) rfl rfl (by omega) (fun c20 => ?_) (fun c20 => ?_)
        · refine k_run 0 (pc' := 116) (l' := [(0, .inr (.inr 1)), (1, .inl a), (2, .inl x2)]) (st' := []) rfl ?_
          refine k_run 1 (pc' := 117) (l' := [(0, .inr (.inr 1)), (1, .inl a), (2, .inl x2)]) (st' := [.inl x2]) rfl ?_
          refine h_reti (x := x2) rfl rfl ?_
          exact ⟨_, rfl, (by omega), hI1, hf1⟩
        · exfalso
          omega
      · refine k_run 0 (pc' := 68) (l' := [(0, .inr (.inr 1)), (1, .inl a), (2, .inl x2)]) (st' := []) rfl ?_
        refine k_run 2 (pc' := 72) (l' := [(0, .inr (.inr 1)), (1, .inl a), (2, .inl x2)]) (st' := [.inr (.inr 406)]) rfl ?_
        refine h_cv (i := 242) (j := 138) (b := 406) (M' := mt_138) (xs := []) (rest := []) rfl rfl rfl rfl (zs_K (x := kx_406) rfl (by decide)) rfl (Nat.le_of_ble_eq_true rfl) (Nat.le_of_ble_eq_true rfl) (by omega) (k_Prover_nextRow (by omega) hI1 (by omega)) ?_
        rintro _ H22 ⟨z25, rfl, g21, hI23, hq24⟩
        have hf26 : fq [(366, 4), (366, 5), (406, 6), (406, 7), (406, 8), (406, 9), (406, 10), (406, 13), (406, 14), (406, 15), (406, 16), (406, 17), (406, 18), (407, 2), (407, 3), (407, 4), (407, 5), (407, 6), (407, 7), (407, 8), (878, 2), (878, 3), (878, 4), (878, 5), (878, 6), (878, 7), (878, 8)] [367, 408, 409, 880, 1349] true H H22 := fq_t hf1 hq24 rfl rfl rfl
        refine k_run 0 (pc' := 75) (l' := [(0, .inr (.inr 1)), (1, .inl a), (2, .inl x2)]) (st' := [.inl z25]) rfl ?_
        refine h_zeq (off := 9) (t := 84) rfl rfl (by omega) (fun c27 => ?_) (fun c27 => ?_)
        · refine k_run 0 (pc' := 84) (l' := [(0, .inr (.inr 1)), (1, .inl a), (2, .inl x2)]) (st' := []) rfl ?_
          refine k_run 4 (pc' := 94) (l' := [(0, .inr (.inr 1)), (1, .inl a), (2, .inl x2)]) (st' := [.inl (H22.1 407 2)]) rfl ?_
          have g28 : 0 ≤ (H22.1 407 2) ∧ (H22.1 407 2) ≤ 12 := kn (x := kx_407) hI23 rfl 2
          refine h_zle (off := 22) (t := 116) rfl rfl (by omega) (fun c29 => ?_) (fun c29 => ?_)
          · refine k_run 0 (pc' := 116) (l' := [(0, .inr (.inr 1)), (1, .inl a), (2, .inl x2)]) (st' := []) rfl ?_
            refine k_run 1 (pc' := 117) (l' := [(0, .inr (.inr 1)), (1, .inl a), (2, .inl x2)]) (st' := [.inl x2]) rfl ?_
            refine h_reti (x := x2) rfl rfl ?_
            exact ⟨_, rfl, (by omega), hI23, hf26⟩
          · refine k_run 0 (pc' := 97) (l' := [(0, .inr (.inr 1)), (1, .inl a), (2, .inl x2)]) (st' := []) rfl ?_
            refine k_run 6 (pc' := 111) (l' := [(0, .inr (.inr 1)), (1, .inl a), (2, .inl x2)]) (st' := [.inr (.inr 878), .inr (.inr 407)]) rfl ?_
            refine h_cv (i := 238) (j := 147) (b := 407) (M' := mt_147) (xs := [.inr (.inr 878)]) (rest := []) rfl rfl rfl rfl (zs_K (x := kx_407) rfl (by decide)) rfl (Nat.le_of_ble_eq_true rfl) (Nat.le_of_ble_eq_true rfl) (by omega) (k_Proof_copy_407 (by omega) hI23 ) ?_
            rintro _ H31 ⟨rfl, hI32, hq33⟩
            have hf34 : fq [(366, 4), (366, 5), (406, 6), (406, 7), (406, 8), (406, 9), (406, 10), (406, 13), (406, 14), (406, 15), (406, 16), (406, 17), (406, 18), (407, 2), (407, 3), (407, 4), (407, 5), (407, 6), (407, 7), (407, 8), (878, 2), (878, 3), (878, 4), (878, 5), (878, 6), (878, 7), (878, 8)] [367, 408, 409, 880, 1349] true H H31 := fq_t hf26 hq33 rfl rfl rfl
            refine k_run 0 (pc' := 114) (l' := [(0, .inr (.inr 1)), (1, .inl a), (2, .inl x2)]) (st' := []) rfl ?_
            refine k_run 1 (pc' := 115) (l' := [(0, .inr (.inr 1)), (1, .inl a), (2, .inl x2)]) (st' := [.inl 0]) rfl ?_
            refine h_reti (x := 0) rfl rfl ?_
            exact ⟨_, rfl, (by omega), hI32, hf34⟩
        · refine k_run 0 (pc' := 78) (l' := [(0, .inr (.inr 1)), (1, .inl a), (2, .inl x2)]) (st' := []) rfl ?_
          refine k_run 2 (pc' := 50) (l' := [(0, .inr (.inr 1)), (1, .inl a), (2, .inl (x2 + 1))]) (st' := []) rfl ?_
          exact ih H22 hI23 hf26 (x2 + 1) (by omega) (by omega) (by omega) (by omega)
set_option maxRecDepth 100000 in
theorem k_search {d : Nat} (hd : 8 ≤ d) {H : hp} (hI : Inv H) {a : Int} (ha : -2147483648 ≤ a ∧ a ≤ 2147483647) : hG (zs zK) d mt_19 0 (zargs 0 [.inr (.inr 1), .inl a]) [] H (fun r9 H9 => ∃ z : Int, r9 = some (.inl z) ∧ ((-2147483648 ≤ z ∧ z ≤ 2147483647)) ∧ Inv H9 ∧ fq [(366, 4), (366, 5), (406, 6), (406, 7), (406, 8), (406, 9), (406, 10), (406, 13), (406, 14), (406, 15), (406, 16), (406, 17), (406, 18), (407, 2), (407, 3), (407, 4), (407, 5), (407, 6), (407, 7), (407, 8), (878, 2), (878, 3), (878, 4), (878, 5), (878, 6), (878, 7), (878, 8)] [367, 408, 409, 880, 1349] true H H9) := by
  refine k_run 0 (pc' := 0) (l' := [(0, .inr (.inr 1)), (1, .inl a)]) (st' := []) rfl ?_
  refine k_run 2 (pc' := 2) (l' := [(0, .inr (.inr 1)), (1, .inl a)]) (st' := [.inl 1, .inl a]) rfl ?_
  refine h_ilt (off := 10) (t := 12) rfl rfl (by omega) (by decide) (fun c1 => ?_) (fun c1 => ?_)
  · refine k_run 0 (pc' := 12) (l' := [(0, .inr (.inr 1)), (1, .inl a)]) (st' := []) rfl ?_
    refine k_run 1 (pc' := 14) (l' := [(0, .inr (.inr 1)), (1, .inl a)]) (st' := [.inl (-102)]) rfl ?_
    refine h_reti (x := (-102)) rfl rfl ?_
    exact ⟨_, rfl, (by omega), hI, (fq_rf _ _ _ _)⟩
  · refine k_run 0 (pc' := 5) (l' := [(0, .inr (.inr 1)), (1, .inl a)]) (st' := []) rfl ?_
    refine k_run 2 (pc' := 9) (l' := [(0, .inr (.inr 1)), (1, .inl a)]) (st' := [.inl 500, .inl a]) rfl ?_
    refine h_ile (off := 6) (t := 15) rfl rfl (by omega) (by decide) (fun c2 => ?_) (fun c2 => ?_)
    · refine k_run 0 (pc' := 15) (l' := [(0, .inr (.inr 1)), (1, .inl a)]) (st' := []) rfl ?_
      refine k_run 4 (pc' := 25) (l' := [(0, .inr (.inr 1)), (1, .inl a)]) (st' := [.inl (H.1 407 2)]) rfl ?_
      have g3 : 0 ≤ (H.1 407 2) ∧ (H.1 407 2) ≤ 12 := kn (x := kx_407) hI rfl 2
      refine h_zne (off := 6) (t := 31) rfl rfl (by omega) (fun c4 => ?_) (fun c4 => ?_)
      · refine k_run 0 (pc' := 31) (l' := [(0, .inr (.inr 1)), (1, .inl a)]) (st' := []) rfl ?_
        refine k_run 6 (pc' := 45) (l' := [(0, .inr (.inr 1)), (1, .inl a)]) (st' := [.inr (.inr 407), .inr (.inr 878)]) rfl ?_
        refine h_cv (i := 238) (j := 147) (b := 878) (M' := mt_147) (xs := [.inr (.inr 407)]) (rest := []) rfl rfl rfl rfl (zs_K (x := kx_878) rfl (by decide)) rfl (Nat.le_of_ble_eq_true rfl) (Nat.le_of_ble_eq_true rfl) (by omega) (k_Proof_copy_878 (by omega) hI ) ?_
        rintro _ H6 ⟨rfl, hI7, hq8⟩
        have hf9 : fq [(366, 4), (366, 5), (406, 6), (406, 7), (406, 8), (406, 9), (406, 10), (406, 13), (406, 14), (406, 15), (406, 16), (406, 17), (406, 18), (407, 2), (407, 3), (407, 4), (407, 5), (407, 6), (407, 7), (407, 8), (878, 2), (878, 3), (878, 4), (878, 5), (878, 6), (878, 7), (878, 8)] [367, 408, 409, 880, 1349] true H H6 := fq_t (fq_rf _ _ _ _) hq8 rfl rfl rfl
        refine k_run 0 (pc' := 48) (l' := [(0, .inr (.inr 1)), (1, .inl a)]) (st' := []) rfl ?_
        refine k_run 2 (pc' := 50) (l' := [(0, .inr (.inr 1)), (1, .inl a), (2, .inl 0)]) (st' := []) rfl ?_
        exact (k_search_cut hd hI ha _) H6 hI7 hf9 (0 : Int) (by decide) (by omega) (by omega) (Nat.lt_succ_self _)
      · refine k_run 0 (pc' := 28) (l' := [(0, .inr (.inr 1)), (1, .inl a)]) (st' := []) rfl ?_
        refine k_run 1 (pc' := 30) (l' := [(0, .inr (.inr 1)), (1, .inl a)]) (st' := [.inl (-103)]) rfl ?_
        refine h_reti (x := (-103)) rfl rfl ?_
        exact ⟨_, rfl, (by omega), hI, (fq_rf _ _ _ _)⟩
    · refine k_run 0 (pc' := 12) (l' := [(0, .inr (.inr 1)), (1, .inl a)]) (st' := []) rfl ?_
      refine k_run 1 (pc' := 14) (l' := [(0, .inr (.inr 1)), (1, .inl a)]) (st' := [.inl (-102)]) rfl ?_
      refine h_reti (x := (-102)) rfl rfl ?_
      exact ⟨_, rfl, (by omega), hI, (fq_rf _ _ _ _)⟩

/-! show -/
set_option maxRecDepth 100000 in
theorem k_show {d : Nat} (hd : 5 ≤ d) {H : hp} (hI : Inv H) {a : Int} {b : Int} (ha : -2147483648 ≤ a ∧ a ≤ 2147483647) (hb : -2147483648 ≤ b ∧ b ≤ 2147483647) : hG (zs zK) d mt_20 0 (zargs 0 [.inr (.inr 1), .inl a, .inl b]) [] H (fun r9 H9 => ∃ z : Int, r9 = some (.inl z) ∧ ((-2147483648 ≤ z ∧ z ≤ 2147483647)) ∧ Inv H9 ∧ fq [(363, 3)] [364, 365] false H H9) := by
  refine k_run 0 (pc' := 0) (l' := [(0, .inr (.inr 1)), (1, .inl a), (2, .inl b)]) (st' := []) rfl ?_
  refine k_run 6 (pc' := 12) (l' := [(0, .inr (.inr 1)), (1, .inl a), (2, .inl b), (3, .inr (.inr 407))]) (st' := [.inl (H.1 407 2)]) rfl ?_
  have g1 : 0 ≤ (H.1 407 2) ∧ (H.1 407 2) ≤ 12 := kn (x := kx_407) hI rfl 2
  refine h_zne (off := 6) (t := 18) rfl rfl (by omega) (fun c2 => ?_) (fun c2 => ?_)
  · refine k_run 0 (pc' := 18) (l' := [(0, .inr (.inr 1)), (1, .inl a), (2, .inl b), (3, .inr (.inr 407))]) (st' := []) rfl ?_
    refine k_run 1 (pc' := 19) (l' := [(0, .inr (.inr 1)), (1, .inl a), (2, .inl b), (3, .inr (.inr 407))]) (st' := [.inl a]) rfl ?_
    refine h_zlt (off := 20) (t := 39) rfl rfl (by omega) (fun c3 => ?_) (fun c3 => ?_)
    · refine k_run 0 (pc' := 39) (l' := [(0, .inr (.inr 1)), (1, .inl a), (2, .inl b), (3, .inr (.inr 407))]) (st' := []) rfl ?_
      refine k_run 1 (pc' := 41) (l' := [(0, .inr (.inr 1)), (1, .inl a), (2, .inl b), (3, .inr (.inr 407))]) (st' := [.inl (-102)]) rfl ?_
      refine h_reti (x := (-102)) rfl rfl ?_
      exact ⟨_, rfl, (by omega), hI, (fq_rf _ _ _ _)⟩
    · refine k_run 0 (pc' := 22) (l' := [(0, .inr (.inr 1)), (1, .inl a), (2, .inl b), (3, .inr (.inr 407))]) (st' := []) rfl ?_
      refine k_run 3 (pc' := 27) (l' := [(0, .inr (.inr 1)), (1, .inl a), (2, .inl b), (3, .inr (.inr 407))]) (st' := [.inl (H.1 407 2), .inl a]) rfl ?_
      refine h_ige (off := 12) (t := 39) rfl rfl (by omega) (by omega) (fun c4 => ?_) (fun c4 => ?_)
      · refine k_run 0 (pc' := 39) (l' := [(0, .inr (.inr 1)), (1, .inl a), (2, .inl b), (3, .inr (.inr 407))]) (st' := []) rfl ?_
        refine k_run 1 (pc' := 41) (l' := [(0, .inr (.inr 1)), (1, .inl a), (2, .inl b), (3, .inr (.inr 407))]) (st' := [.inl (-102)]) rfl ?_
        refine h_reti (x := (-102)) rfl rfl ?_
        exact ⟨_, rfl, (by omega), hI, (fq_rf _ _ _ _)⟩
      · refine k_run 0 (pc' := 30) (l' := [(0, .inr (.inr 1)), (1, .inl a), (2, .inl b), (3, .inr (.inr 407))]) (st' := []) rfl ?_
        refine k_run 1 (pc' := 31) (l' := [(0, .inr (.inr 1)), (1, .inl a), (2, .inl b), (3, .inr (.inr 407))]) (st' := [.inl b]) rfl ?_
        refine h_zlt (off := 8) (t := 39) rfl rfl (by omega) (fun c5 => ?_) (fun c5 => ?_)
        · refine k_run 0 (pc' := 39) (l' := [(0, .inr (.inr 1)), (1, .inl a), (2, .inl b), (3, .inr (.inr 407))]) (st' := []) rfl ?_
          refine k_run 1 (pc' := 41) (l' := [(0, .inr (.inr 1)), (1, .inl a), (2, .inl b), (3, .inr (.inr 407))]) (st' := [.inl (-102)]) rfl ?_
          refine h_reti (x := (-102)) rfl rfl ?_
          exact ⟨_, rfl, (by omega), hI, (fq_rf _ _ _ _)⟩
        · refine k_run 0 (pc' := 34) (l' := [(0, .inr (.inr 1)), (1, .inl a), (2, .inl b), (3, .inr (.inr 407))]) (st' := []) rfl ?_
          refine k_run 2 (pc' := 36) (l' := [(0, .inr (.inr 1)), (1, .inl a), (2, .inl b), (3, .inr (.inr 407))]) (st' := [.inl 1, .inl b]) rfl ?_
          refine h_ile (off := 6) (t := 42) rfl rfl (by omega) (by decide) (fun c6 => ?_) (fun c6 => ?_)
          · refine k_run 0 (pc' := 42) (l' := [(0, .inr (.inr 1)), (1, .inl a), (2, .inl b), (3, .inr (.inr 407))]) (st' := []) rfl ?_
            refine k_run 5 (pc' := 51) (l' := [(0, .inr (.inr 1)), (1, .inl a), (2, .inl b), (3, .inr (.inr 407))]) (st' := [.inl a, .inr (.inr 408), .inr (.inr 363)]) rfl ?_
            refine k_ald (c := 408) (j := (a).toNat) (i := a) (x := kx_408) rfl rfl (by decide) rfl (by decide) (by omega) (by omega) hI (fun h7 => ?_)
            obtain ⟨t8, et10⟩ : ∃ t9, t9 = H.2 408 (a).toNat := ⟨_, rfl⟩
            rw [← et10] at h7 ⊢
            have k9 : isG t8 := h7
            refine k_run 0 (pc' := 52) (l' := [(0, .inr (.inr 1)), (1, .inl a), (2, .inl b), (3, .inr (.inr 407))]) (st' := [.inr (.inr t8), .inr (.inr 363)]) rfl ?_
            refine k_get (a := t8) (x := (kGo t8)) (v := .inr (.inr (t8 + 1))) rfl rfl k9.1 (iG0 k9) rfl rfl rfl ?_
            refine k_run 0 (pc' := 55) (l' := [(0, .inr (.inr 1)), (1, .inl a), (2, .inl b), (3, .inr (.inr 407))]) (st' := [.inr (.inr (t8 + 1)), .inr (.inr 363)]) rfl ?_
            refine k_run 1 (pc' := 56) (l' := [(0, .inr (.inr 1)), (1, .inl a), (2, .inl b), (3, .inr (.inr 407))]) (st' := [.inl b, .inr (.inr (t8 + 1)), .inr (.inr 363)]) rfl ?_
            refine k_ald (c := (t8 + 1)) (j := (b).toNat) (i := b) (x := kGt) rfl k9.2.1 (iG1 k9) rfl (by decide) (by omega) (by omega) hI (fun h11 => ?_)
            obtain ⟨t12, et14⟩ : ∃ t9, t9 = H.2 (t8 + 1) (b).toNat := ⟨_, rfl⟩
            rw [← et14] at h11 ⊢
            obtain ⟨n15, k13⟩ := (show (∃ n, isT t12 n) ∧ 369 < t12 from h11).1
            have k13b := k13.2.2.2.2
            refine k_run 0 (pc' := 57) (l' := [(0, .inr (.inr 1)), (1, .inl a), (2, .inl b), (3, .inr (.inr 407))]) (st' := [.inr (.inr t12), .inr (.inr 363)]) rfl ?_
            refine k_run 1 (pc' := 58) (l' := [(0, .inr (.inr 1)), (1, .inl a), (2, .inl b), (3, .inr (.inr 407))]) (st' := [.inr (.inl 0), .inr (.inr t12), .inr (.inr 363)]) rfl ?_
            refine h_cv (i := 183) (j := 88) (b := 363) (M' := mt_88) (xs := [.inr (.inl 0), .inr (.inr t12)]) (rest := []) rfl rfl rfl rfl (zs_K (x := kx_363) rfl (by decide)) rfl (Nat.le_of_ble_eq_true rfl) (Nat.le_of_ble_eq_true rfl) (by omega) (k_Printer_print (by omega) hI k13) ?_
            rintro _ H17 ⟨z20, rfl, g16, hI18, hq19⟩
            have hf21 : fq [(363, 3)] [364, 365] false H H17 := fq_t (fq_rf _ _ _ _) hq19 rfl rfl rfl
            refine k_run 0 (pc' := 61) (l' := [(0, .inr (.inr 1)), (1, .inl a), (2, .inl b), (3, .inr (.inr 407))]) (st' := [.inl z20]) rfl ?_
            refine h_reti (x := z20) rfl rfl ?_
            exact ⟨_, rfl, (by omega), hI18, hf21⟩
          · refine k_run 0 (pc' := 39) (l' := [(0, .inr (.inr 1)), (1, .inl a), (2, .inl b), (3, .inr (.inr 407))]) (st' := []) rfl ?_
            refine k_run 1 (pc' := 41) (l' := [(0, .inr (.inr 1)), (1, .inl a), (2, .inl b), (3, .inr (.inr 407))]) (st' := [.inl (-102)]) rfl ?_
            refine h_reti (x := (-102)) rfl rfl ?_
            exact ⟨_, rfl, (by omega), hI, (fq_rf _ _ _ _)⟩
  · refine k_run 0 (pc' := 15) (l' := [(0, .inr (.inr 1)), (1, .inl a), (2, .inl b), (3, .inr (.inr 407))]) (st' := []) rfl ?_
    refine k_run 1 (pc' := 17) (l' := [(0, .inr (.inr 1)), (1, .inl a), (2, .inl b), (3, .inr (.inr 407))]) (st' := [.inl (-103)]) rfl ?_
    refine h_reti (x := (-103)) rfl rfl ?_
    exact ⟨_, rfl, (by omega), hI, (fq_rf _ _ _ _)⟩

/-! showHypothesis -/
set_option maxRecDepth 100000 in
theorem k_showHypothesis {d : Nat} (hd : 5 ≤ d) {H : hp} (hI : Inv H) {a : Int} {b : Int} (ha : -2147483648 ≤ a ∧ a ≤ 2147483647) (hb : -2147483648 ≤ b ∧ b ≤ 2147483647) : hG (zs zK) d mt_21 0 (zargs 0 [.inr (.inr 1), .inl a, .inl b]) [] H (fun r9 H9 => ∃ z : Int, r9 = some (.inl z) ∧ ((-2147483648 ≤ z ∧ z ≤ 2147483647)) ∧ Inv H9 ∧ fq [(363, 3)] [364, 365] false H H9) := by
  refine k_run 0 (pc' := 0) (l' := [(0, .inr (.inr 1)), (1, .inl a), (2, .inl b)]) (st' := []) rfl ?_
  refine k_run 4 (pc' := 10) (l' := [(0, .inr (.inr 1)), (1, .inl a), (2, .inl b)]) (st' := [.inl (H.1 407 2)]) rfl ?_
  have g1 : 0 ≤ (H.1 407 2) ∧ (H.1 407 2) ≤ 12 := kn (x := kx_407) hI rfl 2
  refine h_zne (off := 6) (t := 16) rfl rfl (by omega) (fun c2 => ?_) (fun c2 => ?_)
  · refine k_run 0 (pc' := 16) (l' := [(0, .inr (.inr 1)), (1, .inl a), (2, .inl b)]) (st' := []) rfl ?_
    refine k_run 5 (pc' := 27) (l' := [(0, .inr (.inr 1)), (1, .inl a), (2, .inl b)]) (st' := [.inl 0, .inr (.inr 408)]) rfl ?_
    refine k_ald (c := 408) (j := 0) (i := 0) (x := kx_408) rfl rfl (by decide) rfl (by decide) rfl (by decide) hI (fun h3 => ?_)
    obtain ⟨t4, et6⟩ : ∃ t9, t9 = H.2 408 0 := ⟨_, rfl⟩
    rw [← et6] at h3 ⊢
    have k5 : isG t4 := h3
    refine k_run 0 (pc' := 28) (l' := [(0, .inr (.inr 1)), (1, .inl a), (2, .inl b)]) (st' := [.inr (.inr t4)]) rfl ?_
    refine k_run 2 (pc' := 30) (l' := [(0, .inr (.inr 1)), (1, .inl a), (2, .inl b), (3, .inr (.inr t4))]) (st' := [.inl a]) rfl ?_
    refine h_zlt (off := 20) (t := 50) rfl rfl (by omega) (fun c7 => ?_) (fun c7 => ?_)
    · refine k_run 0 (pc' := 50) (l' := [(0, .inr (.inr 1)), (1, .inl a), (2, .inl b), (3, .inr (.inr t4))]) (st' := []) rfl ?_
      refine k_run 1 (pc' := 52) (l' := [(0, .inr (.inr 1)), (1, .inl a), (2, .inl b), (3, .inr (.inr t4))]) (st' := [.inl (-102)]) rfl ?_
      refine h_reti (x := (-102)) rfl rfl ?_
      exact ⟨_, rfl, (by omega), hI, (fq_rf _ _ _ _)⟩
    · refine k_run 0 (pc' := 33) (l' := [(0, .inr (.inr 1)), (1, .inl a), (2, .inl b), (3, .inr (.inr t4))]) (st' := []) rfl ?_
      refine k_run 2 (pc' := 35) (l' := [(0, .inr (.inr 1)), (1, .inl a), (2, .inl b), (3, .inr (.inr t4))]) (st' := [.inr (.inr t4), .inl a]) rfl ?_
      refine k_get (a := t4) (x := (kGo t4)) (v := .inl (H.1 t4 2)) rfl rfl k5.1 (iG0 k5) rfl rfl rfl ?_
      have g8 : 0 ≤ (H.1 t4 2) ∧ (H.1 t4 2) ≤ 8 := kn hI k5.1 2
      refine k_run 0 (pc' := 38) (l' := [(0, .inr (.inr 1)), (1, .inl a), (2, .inl b), (3, .inr (.inr t4))]) (st' := [.inl (H.1 t4 2), .inl a]) rfl ?_
      refine h_ige (off := 12) (t := 50) rfl rfl (by omega) (by omega) (fun c9 => ?_) (fun c9 => ?_)
      · refine k_run 0 (pc' := 50) (l' := [(0, .inr (.inr 1)), (1, .inl a), (2, .inl b), (3, .inr (.inr t4))]) (st' := []) rfl ?_
        refine k_run 1 (pc' := 52) (l' := [(0, .inr (.inr 1)), (1, .inl a), (2, .inl b), (3, .inr (.inr t4))]) (st' := [.inl (-102)]) rfl ?_
        refine h_reti (x := (-102)) rfl rfl ?_
        exact ⟨_, rfl, (by omega), hI, (fq_rf _ _ _ _)⟩
      · refine k_run 0 (pc' := 41) (l' := [(0, .inr (.inr 1)), (1, .inl a), (2, .inl b), (3, .inr (.inr t4))]) (st' := []) rfl ?_
        refine k_run 1 (pc' := 42) (l' := [(0, .inr (.inr 1)), (1, .inl a), (2, .inl b), (3, .inr (.inr t4))]) (st' := [.inl b]) rfl ?_
        refine h_zlt (off := 8) (t := 50) rfl rfl (by omega) (fun c10 => ?_) (fun c10 => ?_)
        · refine k_run 0 (pc' := 50) (l' := [(0, .inr (.inr 1)), (1, .inl a), (2, .inl b), (3, .inr (.inr t4))]) (st' := []) rfl ?_
          refine k_run 1 (pc' := 52) (l' := [(0, .inr (.inr 1)), (1, .inl a), (2, .inl b), (3, .inr (.inr t4))]) (st' := [.inl (-102)]) rfl ?_
          refine h_reti (x := (-102)) rfl rfl ?_
          exact ⟨_, rfl, (by omega), hI, (fq_rf _ _ _ _)⟩
        · refine k_run 0 (pc' := 45) (l' := [(0, .inr (.inr 1)), (1, .inl a), (2, .inl b), (3, .inr (.inr t4))]) (st' := []) rfl ?_
          refine k_run 2 (pc' := 47) (l' := [(0, .inr (.inr 1)), (1, .inl a), (2, .inl b), (3, .inr (.inr t4))]) (st' := [.inl 1, .inl b]) rfl ?_
          refine h_ile (off := 6) (t := 53) rfl rfl (by omega) (by decide) (fun c11 => ?_) (fun c11 => ?_)
          · refine k_run 0 (pc' := 53) (l' := [(0, .inr (.inr 1)), (1, .inl a), (2, .inl b), (3, .inr (.inr t4))]) (st' := []) rfl ?_
            refine k_run 3 (pc' := 58) (l' := [(0, .inr (.inr 1)), (1, .inl a), (2, .inl b), (3, .inr (.inr t4))]) (st' := [.inr (.inr t4), .inr (.inr 363)]) rfl ?_
            refine k_get (a := t4) (x := (kGo t4)) (v := .inr (.inr (t4 + 1))) rfl rfl k5.1 (iG0 k5) rfl rfl rfl ?_
            refine k_run 0 (pc' := 61) (l' := [(0, .inr (.inr 1)), (1, .inl a), (2, .inl b), (3, .inr (.inr t4))]) (st' := [.inr (.inr (t4 + 1)), .inr (.inr 363)]) rfl ?_
            refine k_run 7 (pc' := 68) (l' := [(0, .inr (.inr 1)), (1, .inl a), (2, .inl b), (3, .inr (.inr t4))]) (st' := [.inl ((2 + (2 * a)) + b), .inr (.inr (t4 + 1)), .inr (.inr 363)]) rfl ?_
            refine k_ald (c := (t4 + 1)) (j := (((2 + (2 * a)) + b)).toNat) (i := ((2 + (2 * a)) + b)) (x := kGt) rfl k5.2.1 (iG1 k5) rfl (by decide) (by omega) (by omega) hI (fun h12 => ?_)
            obtain ⟨t13, et15⟩ : ∃ t9, t9 = H.2 (t4 + 1) (((2 + (2 * a)) + b)).toNat := ⟨_, rfl⟩
            rw [← et15] at h12 ⊢
            obtain ⟨n16, k14⟩ := (show (∃ n, isT t13 n) ∧ 369 < t13 from h12).1
            have k14b := k14.2.2.2.2
            refine k_run 0 (pc' := 69) (l' := [(0, .inr (.inr 1)), (1, .inl a), (2, .inl b), (3, .inr (.inr t4))]) (st' := [.inr (.inr t13), .inr (.inr 363)]) rfl ?_
            refine k_run 1 (pc' := 70) (l' := [(0, .inr (.inr 1)), (1, .inl a), (2, .inl b), (3, .inr (.inr t4))]) (st' := [.inr (.inr t4), .inr (.inr t13), .inr (.inr 363)]) rfl ?_
            refine k_get (a := t4) (x := (kGo t4)) (v := .inr (.inr (t4 + 2))) rfl rfl k5.1 (iG0 k5) rfl rfl rfl ?_
            refine k_run 0 (pc' := 73) (l' := [(0, .inr (.inr 1)), (1, .inl a), (2, .inl b), (3, .inr (.inr t4))]) (st' := [.inr (.inr (t4 + 2)), .inr (.inr t13), .inr (.inr 363)]) rfl ?_
            refine k_run 1 (pc' := 74) (l' := [(0, .inr (.inr 1)), (1, .inl a), (2, .inl b), (3, .inr (.inr t4))]) (st' := [.inl a, .inr (.inr (t4 + 2)), .inr (.inr t13), .inr (.inr 363)]) rfl ?_
            refine k_lld (c := (t4 + 2)) (j := (a).toNat) (i := a) (x := kGf) rfl k5.2.2.1 (iG2 k5) rfl (by decide) (by omega) (by omega) ?_
            have g17 : -9223372036854775808 ≤ (H.1 (t4 + 2) (a).toNat) ∧ (H.1 (t4 + 2) (a).toNat) ≤ 9223372036854775807 := kn hI k5.2.2.1 (a).toNat
            refine k_run 0 (pc' := 75) (l' := [(0, .inr (.inr 1)), (1, .inl a), (2, .inl b), (3, .inr (.inr t4))]) (st' := [.inr (.inl (H.1 (t4 + 2) (a).toNat)), .inr (.inr t13), .inr (.inr 363)]) rfl ?_
            refine h_cv (i := 183) (j := 88) (b := 363) (M' := mt_88) (xs := [.inr (.inl (H.1 (t4 + 2) (a).toNat)), .inr (.inr t13)]) (rest := []) rfl rfl rfl rfl (zs_K (x := kx_363) rfl (by decide)) rfl (Nat.le_of_ble_eq_true rfl) (Nat.le_of_ble_eq_true rfl) (by omega) (k_Printer_print (by omega) hI k14) ?_
            rintro _ H19 ⟨z22, rfl, g18, hI20, hq21⟩
            have hf23 : fq [(363, 3)] [364, 365] false H H19 := fq_t (fq_rf _ _ _ _) hq21 rfl rfl rfl
            refine k_run 0 (pc' := 78) (l' := [(0, .inr (.inr 1)), (1, .inl a), (2, .inl b), (3, .inr (.inr t4))]) (st' := [.inl z22]) rfl ?_
            refine h_reti (x := z22) rfl rfl ?_
            exact ⟨_, rfl, (by omega), hI20, hf23⟩
          · refine k_run 0 (pc' := 50) (l' := [(0, .inr (.inr 1)), (1, .inl a), (2, .inl b), (3, .inr (.inr t4))]) (st' := []) rfl ?_
            refine k_run 1 (pc' := 52) (l' := [(0, .inr (.inr 1)), (1, .inl a), (2, .inl b), (3, .inr (.inr t4))]) (st' := [.inl (-102)]) rfl ?_
            refine h_reti (x := (-102)) rfl rfl ?_
            exact ⟨_, rfl, (by omega), hI, (fq_rf _ _ _ _)⟩
  · refine k_run 0 (pc' := 13) (l' := [(0, .inr (.inr 1)), (1, .inl a), (2, .inl b)]) (st' := []) rfl ?_
    refine k_run 1 (pc' := 15) (l' := [(0, .inr (.inr 1)), (1, .inl a), (2, .inl b)]) (st' := [.inl (-103)]) rfl ?_
    refine h_reti (x := (-103)) rfl rfl ?_
    exact ⟨_, rfl, (by omega), hI, (fq_rf _ _ _ _)⟩

/-! showLaw -/
set_option maxRecDepth 100000 in
theorem k_showLaw {d : Nat} (hd : 5 ≤ d) {H : hp} (hI : Inv H) {a : Int} {b : Int} (ha : -2147483648 ≤ a ∧ a ≤ 2147483647) (hb : -2147483648 ≤ b ∧ b ≤ 2147483647) : hG (zs zK) d mt_22 0 (zargs 0 [.inr (.inr 1), .inl a, .inl b]) [] H (fun r9 H9 => ∃ z : Int, r9 = some (.inl z) ∧ ((-2147483648 ≤ z ∧ z ≤ 2147483647)) ∧ Inv H9 ∧ fq [(363, 3)] [364, 365] false H H9) := by
  refine k_run 0 (pc' := 0) (l' := [(0, .inr (.inr 1)), (1, .inl a), (2, .inl b)]) (st' := []) rfl ?_
  refine k_run 3 (pc' := 5) (l' := [(0, .inr (.inr 1)), (1, .inl a), (2, .inl b)]) (st' := [.inl a, .inr (.inr 7)]) rfl ?_
  refine h_cv (i := 144) (j := 35) (b := 7) (M' := mt_35) (xs := [.inl a]) (rest := []) rfl rfl rfl rfl (zs_K (x := kx_7) rfl (by decide)) rfl (Nat.le_of_ble_eq_true rfl) (Nat.le_of_ble_eq_true rfl) (by omega) (k_Program_hasLaw (by omega) hI (by omega)) ?_
  rintro _ _ ⟨z5, rfl, g1, rfl⟩
  refine k_run 0 (pc' := 8) (l' := [(0, .inr (.inr 1)), (1, .inl a), (2, .inl b)]) (st' := [.inl z5]) rfl ?_
  refine h_zne (off := 6) (t := 14) rfl rfl (by omega) (fun c6 => ?_) (fun c6 => ?_)
  · refine k_run 0 (pc' := 14) (l' := [(0, .inr (.inr 1)), (1, .inl a), (2, .inl b)]) (st' := []) rfl ?_
    refine k_run 1 (pc' := 15) (l' := [(0, .inr (.inr 1)), (1, .inl a), (2, .inl b)]) (st' := [.inl b]) rfl ?_
    refine h_zlt (off := 8) (t := 23) rfl rfl (by omega) (fun c7 => ?_) (fun c7 => ?_)
    · refine k_run 0 (pc' := 23) (l' := [(0, .inr (.inr 1)), (1, .inl a), (2, .inl b)]) (st' := []) rfl ?_
      refine k_run 1 (pc' := 25) (l' := [(0, .inr (.inr 1)), (1, .inl a), (2, .inl b)]) (st' := [.inl (-102)]) rfl ?_
      refine h_reti (x := (-102)) rfl rfl ?_
      exact ⟨_, rfl, (by omega), hI, (fq_rf _ _ _ _)⟩
    · refine k_run 0 (pc' := 18) (l' := [(0, .inr (.inr 1)), (1, .inl a), (2, .inl b)]) (st' := []) rfl ?_
      refine k_run 2 (pc' := 20) (l' := [(0, .inr (.inr 1)), (1, .inl a), (2, .inl b)]) (st' := [.inl 1, .inl b]) rfl ?_
      refine h_ile (off := 6) (t := 26) rfl rfl (by omega) (by decide) (fun c8 => ?_) (fun c8 => ?_)
      · refine k_run 0 (pc' := 26) (l' := [(0, .inr (.inr 1)), (1, .inl a), (2, .inl b)]) (st' := []) rfl ?_
        refine k_run 4 (pc' := 34) (l' := [(0, .inr (.inr 1)), (1, .inl a), (2, .inl b)]) (st' := [.inl a, .inr (.inr 24)]) rfl ?_
        refine k_ald (c := 24) (j := (a).toNat) (i := a) (x := kx_24) rfl rfl (by decide) rfl (by decide) (by omega) (by omega) hI (fun h9 => ?_)
        obtain ⟨t10, et12⟩ : ∃ t9, t9 = H.2 24 (a).toNat := ⟨_, rfl⟩
        rw [← et12] at h9 ⊢
        have k11 : isE t10 := h9
        refine k_run 0 (pc' := 35) (l' := [(0, .inr (.inr 1)), (1, .inl a), (2, .inl b)]) (st' := [.inr (.inr t10)]) rfl ?_
        refine k_run 4 (pc' := 41) (l' := [(0, .inr (.inr 1)), (1, .inl a), (2, .inl b), (3, .inr (.inr t10))]) (st' := [.inl b, .inr (.inr 363)]) rfl ?_
        refine h_zne (off := 10) (t := 51) rfl rfl (by omega) (fun c13 => ?_) (fun c13 => ?_)
        · refine k_run 0 (pc' := 51) (l' := [(0, .inr (.inr 1)), (1, .inl a), (2, .inl b), (3, .inr (.inr t10))]) (st' := [.inr (.inr 363)]) rfl ?_
          refine k_run 1 (pc' := 52) (l' := [(0, .inr (.inr 1)), (1, .inl a), (2, .inl b), (3, .inr (.inr t10))]) (st' := [.inr (.inr t10), .inr (.inr 363)]) rfl ?_
          refine k_get (a := t10) (x := (kEo t10)) (v := .inr (.inr (t10 + 3))) rfl rfl k11.1 (iE0 k11) rfl rfl rfl ?_
          refine k_run 0 (pc' := 55) (l' := [(0, .inr (.inr 1)), (1, .inl a), (2, .inl b), (3, .inr (.inr t10))]) (st' := [.inr (.inr (t10 + 3)), .inr (.inr 363)]) rfl ?_
          refine k_run 1 (pc' := 56) (l' := [(0, .inr (.inr 1)), (1, .inl a), (2, .inl b), (3, .inr (.inr t10))]) (st' := [.inr (.inl 0), .inr (.inr (t10 + 3)), .inr (.inr 363)]) rfl ?_
          refine h_cv (i := 183) (j := 88) (b := 363) (M' := mt_88) (xs := [.inr (.inl 0), .inr (.inr (t10 + 3))]) (rest := []) rfl rfl rfl rfl (zs_K (x := kx_363) rfl (by decide)) rfl (Nat.le_of_ble_eq_true rfl) (Nat.le_of_ble_eq_true rfl) (by omega) (k_Printer_print (by omega) hI (iEr k11)) ?_
          rintro _ H15 ⟨z18, rfl, g14, hI16, hq17⟩
          have hf19 : fq [(363, 3)] [364, 365] false H H15 := fq_t (fq_rf _ _ _ _) hq17 rfl rfl rfl
          refine k_run 0 (pc' := 59) (l' := [(0, .inr (.inr 1)), (1, .inl a), (2, .inl b), (3, .inr (.inr t10))]) (st' := [.inl z18]) rfl ?_
          refine h_reti (x := z18) rfl rfl ?_
          exact ⟨_, rfl, (by omega), hI16, hf19⟩
        · refine k_run 0 (pc' := 44) (l' := [(0, .inr (.inr 1)), (1, .inl a), (2, .inl b), (3, .inr (.inr t10))]) (st' := [.inr (.inr 363)]) rfl ?_
          refine k_run 1 (pc' := 45) (l' := [(0, .inr (.inr 1)), (1, .inl a), (2, .inl b), (3, .inr (.inr t10))]) (st' := [.inr (.inr t10), .inr (.inr 363)]) rfl ?_
          refine k_get (a := t10) (x := (kEo t10)) (v := .inr (.inr (t10 + 1))) rfl rfl k11.1 (iE0 k11) rfl rfl rfl ?_
          refine k_run 0 (pc' := 48) (l' := [(0, .inr (.inr 1)), (1, .inl a), (2, .inl b), (3, .inr (.inr t10))]) (st' := [.inr (.inr (t10 + 1)), .inr (.inr 363)]) rfl ?_
          refine k_run 2 (pc' := 56) (l' := [(0, .inr (.inr 1)), (1, .inl a), (2, .inl b), (3, .inr (.inr t10))]) (st' := [.inr (.inl 0), .inr (.inr (t10 + 1)), .inr (.inr 363)]) rfl ?_
          refine h_cv (i := 183) (j := 88) (b := 363) (M' := mt_88) (xs := [.inr (.inl 0), .inr (.inr (t10 + 1))]) (rest := []) rfl rfl rfl rfl (zs_K (x := kx_363) rfl (by decide)) rfl (Nat.le_of_ble_eq_true rfl) (Nat.le_of_ble_eq_true rfl) (by omega) (k_Printer_print (by omega) hI (iEl k11)) ?_
          rintro _ H21 ⟨z24, rfl, g20, hI22, hq23⟩
          have hf25 : fq [(363, 3)] [364, 365] false H H21 := fq_t (fq_rf _ _ _ _) hq23 rfl rfl rfl
          refine k_run 0 (pc' := 59) (l' := [(0, .inr (.inr 1)), (1, .inl a), (2, .inl b), (3, .inr (.inr t10))]) (st' := [.inl z24]) rfl ?_
          refine h_reti (x := z24) rfl rfl ?_
          exact ⟨_, rfl, (by omega), hI22, hf25⟩
      · refine k_run 0 (pc' := 23) (l' := [(0, .inr (.inr 1)), (1, .inl a), (2, .inl b)]) (st' := []) rfl ?_
        refine k_run 1 (pc' := 25) (l' := [(0, .inr (.inr 1)), (1, .inl a), (2, .inl b)]) (st' := [.inl (-102)]) rfl ?_
        refine h_reti (x := (-102)) rfl rfl ?_
        exact ⟨_, rfl, (by omega), hI, (fq_rf _ _ _ _)⟩
  · refine k_run 0 (pc' := 11) (l' := [(0, .inr (.inr 1)), (1, .inl a), (2, .inl b)]) (st' := []) rfl ?_
    refine k_run 1 (pc' := 13) (l' := [(0, .inr (.inr 1)), (1, .inl a), (2, .inl b)]) (st' := [.inl (-101)]) rfl ?_
    refine h_reti (x := (-101)) rfl rfl ?_
    exact ⟨_, rfl, (by omega), hI, (fq_rf _ _ _ _)⟩

/-! printed -/
set_option maxRecDepth 100000 in
theorem k_printed {d : Nat} (hd : 1 ≤ d) {H : hp} (hI : Inv H) {a : Int} (ha : -2147483648 ≤ a ∧ a ≤ 2147483647) : hG (zs zK) d mt_23 0 (zargs 0 [.inr (.inr 1), .inl a]) [] H (fun r9 H9 => ∃ z : Int, r9 = some (.inl z) ∧ ((-2147483648 ≤ z ∧ z ≤ 2147483647)) ∧ H = H9) := by
  refine k_run 0 (pc' := 0) (l' := [(0, .inr (.inr 1)), (1, .inl a)]) (st' := []) rfl ?_
  refine k_run 1 (pc' := 1) (l' := [(0, .inr (.inr 1)), (1, .inl a)]) (st' := [.inl a]) rfl ?_
  refine h_zlt (off := 26) (t := 27) rfl rfl (by omega) (fun c1 => ?_) (fun c1 => ?_)
  · refine k_run 0 (pc' := 27) (l' := [(0, .inr (.inr 1)), (1, .inl a)]) (st' := []) rfl ?_
    refine k_run 1 (pc' := 28) (l' := [(0, .inr (.inr 1)), (1, .inl a)]) (st' := [.inl (-1)]) rfl ?_
    refine h_reti (x := (-1)) rfl rfl ?_
    exact ⟨_, rfl, (by omega), rfl⟩
  · refine k_run 0 (pc' := 4) (l' := [(0, .inr (.inr 1)), (1, .inl a)]) (st' := []) rfl ?_
    refine k_run 4 (pc' := 12) (l' := [(0, .inr (.inr 1)), (1, .inl a)]) (st' := [.inl (H.1 363 3), .inl a]) rfl ?_
    have g2 : 0 ≤ (H.1 363 3) ∧ (H.1 363 3) ≤ 1080 := kn (x := kx_363) hI rfl 3
    refine h_ige (off := 15) (t := 27) rfl rfl (by omega) (by omega) (fun c3 => ?_) (fun c3 => ?_)
    · refine k_run 0 (pc' := 27) (l' := [(0, .inr (.inr 1)), (1, .inl a)]) (st' := []) rfl ?_
      refine k_run 1 (pc' := 28) (l' := [(0, .inr (.inr 1)), (1, .inl a)]) (st' := [.inl (-1)]) rfl ?_
      refine h_reti (x := (-1)) rfl rfl ?_
      exact ⟨_, rfl, (by omega), rfl⟩
    · refine k_run 0 (pc' := 15) (l' := [(0, .inr (.inr 1)), (1, .inl a)]) (st' := []) rfl ?_
      refine k_run 4 (pc' := 23) (l' := [(0, .inr (.inr 1)), (1, .inl a)]) (st' := [.inl a, .inr (.inr 364)]) rfl ?_
      refine k_ild (c := 364) (j := (a).toNat) (i := a) (x := kx_364) rfl rfl (by decide) rfl (by decide) (by omega) (by omega) ?_
      have g4 : -2147483648 ≤ (H.1 364 (a).toNat) ∧ (H.1 364 (a).toNat) ≤ 2147483647 := kn (x := kx_364) hI rfl (a).toNat
      refine k_run 0 (pc' := 24) (l' := [(0, .inr (.inr 1)), (1, .inl a)]) (st' := [.inl (H.1 364 (a).toNat)]) rfl ?_
      refine k_run 1 (pc' := 28) (l' := [(0, .inr (.inr 1)), (1, .inl a)]) (st' := [.inl (H.1 364 (a).toNat)]) rfl ?_
      refine h_reti (x := (H.1 364 (a).toNat)) rfl rfl ?_
      exact ⟨_, rfl, (by omega), rfl⟩
