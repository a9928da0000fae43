/-! the class: matching, replacing, working out -/
/-! Rewriter.matchRule -/
set_option maxRecDepth 100000 in
theorem k_Rewriter_matchRule_cut {d : Nat} (hd : 2 ≤ d) {H : hp} (hI : Inv H) {t n : Nat} {u m : Nat} {a : Int} (ht : isT t n) (hu : isT u m) (ha : -2147483648 ≤ a ∧ a ≤ 2147483647) : ∀ w : Nat, (∀ (H1 : hp), Inv H1 → fq [(366, 5)] [367] false H H1 → ∀ (x4 : Int) (x5 : Int) , (-2147483648 ≤ x4 ∧ x4 ≤ 2147483647) → (-2147483648 ≤ x5 ∧ x5 ≤ 2147483647) → (1 ≤ x5) → (((1000 - x5).toNat) < w) → hG (zs zK) d mt_95 8 [(0, .inr (.inr 366)), (1, .inr (.inr t)), (2, .inr (.inr u)), (3, .inl a), (4, .inl x4), (5, .inl x5)] [] H1 (fun r9 H9 => ∃ z : Int, r9 = some (.inl z) ∧ ((-2147483648 ≤ z ∧ z ≤ 2147483647)) ∧ Inv H9 ∧ fq [(366, 5)] [367] false H H9)) := by
  intro w
  induction w with
  | zero => exact fun _ _ _ _ _ _ _ _ h => absurd h (Nat.not_lt_zero _)
  | succ w ih =>
    intro H1 hI1 hf1 x4 x5 hx4 hx5 hi0 hw
    have htb := ht.2.2.2.2
    have hub := hu.2.2.2.2
    refine k_run 2 (pc' := 11) (l' := [(0, .inr (.inr 366)), (1, .inr (.inr t)), (2, .inr (.inr u)), (3, .inl a), (4, .inl x4), (5, .inl x5)]) (st' := [.inr (.inr t), .inl x5]) rfl ?_
    refine k_get (a := t) (x := (kTo t n)) (v := .inl (H1.1 t 1)) rfl rfl ht.1 (iT0 ht) rfl rfl rfl ?_
    have g2 : 0 ≤ (H1.1 t 1) ∧ (H1.1 t 1) ≤ n := kn hI1 ht.1 1
    refine k_run 0 (pc' := 14) (l' := [(0, .inr (.inr 366)), (1, .inr (.inr t)), (2, .inr (.inr u)), (3, .inl a), (4, .inl x4), (5, .inl x5)]) (st' := [.inl (H1.1 t 1), .inl x5]) rfl ?_
    refine h_ige (off := 111) (t := 125) rfl rfl (by omega) (by omega) (fun c3 => ?_) (fun c3 => ?_)
    · refine k_run 0 (pc' := 125) (l' := [(0, .inr (.inr 366)), (1, .inr (.inr t)), (2, .inr (.inr u)), (3, .inl a), (4, .inl x4), (5, .inl x5)]) (st' := []) rfl ?_
      refine k_run 1 (pc' := 126) (l' := [(0, .inr (.inr 366)), (1, .inr (.inr t)), (2, .inr (.inr u)), (3, .inl a), (4, .inl x4), (5, .inl x5)]) (st' := [.inl 0]) rfl ?_
      refine h_reti (x := 0) rfl rfl ?_
      exact ⟨_, rfl, (by omega), hI1, hf1⟩
    · refine k_run 0 (pc' := 17) (l' := [(0, .inr (.inr 366)), (1, .inr (.inr t)), (2, .inr (.inr u)), (3, .inl a), (4, .inl x4), (5, .inl x5)]) (st' := []) rfl ?_
      refine k_run 1 (pc' := 18) (l' := [(0, .inr (.inr 366)), (1, .inr (.inr t)), (2, .inr (.inr u)), (3, .inl a), (4, .inl x4), (5, .inl x5)]) (st' := [.inr (.inr t)]) rfl ?_
      refine k_get (a := t) (x := (kTo t n)) (v := .inr (.inr (t + 1))) rfl rfl ht.1 (iT0 ht) rfl rfl rfl ?_
      refine k_run 0 (pc' := 21) (l' := [(0, .inr (.inr 366)), (1, .inr (.inr t)), (2, .inr (.inr u)), (3, .inl a), (4, .inl x4), (5, .inl x5)]) (st' := [.inr (.inr (t + 1))]) rfl ?_
      refine k_run 1 (pc' := 23) (l' := [(0, .inr (.inr 366)), (1, .inr (.inr t)), (2, .inr (.inr u)), (3, .inl a), (4, .inl x4), (5, .inl x5)]) (st' := [.inl x5, .inr (.inr (t + 1))]) rfl ?_
      refine k_ild (c := (t + 1)) (j := (x5).toNat) (i := x5) (x := (kTc n)) rfl ht.2.1 (iT1 ht) rfl (by omega) (by omega) (by omega) ?_
      have g4 : -2147483648 ≤ (H1.1 (t + 1) (x5).toNat) ∧ (H1.1 (t + 1) (x5).toNat) ≤ 2147483647 := kn hI1 ht.2.1 (x5).toNat
      refine k_run 0 (pc' := 24) (l' := [(0, .inr (.inr 366)), (1, .inr (.inr t)), (2, .inr (.inr u)), (3, .inl a), (4, .inl x4), (5, .inl x5)]) (st' := [.inl (H1.1 (t + 1) (x5).toNat)]) rfl ?_
      refine k_run 3 (pc' := 29) (l' := [(0, .inr (.inr 366)), (1, .inr (.inr t)), (2, .inr (.inr u)), (3, .inl a), (4, .inl x4), (5, .inl x5), (6, .inl (H1.1 (t + 1) (x5).toNat))]) (st' := [.inl x4, .inr (.inr u)]) rfl ?_
      refine h_cv (i := 41) (j := 51) (b := u) (M' := mt_51) (xs := [.inl x4]) (rest := []) rfl rfl rfl rfl (by rw [zs_K hu.1 (iT0 hu)]; rfl) rfl (Nat.le_of_ble_eq_true rfl) (Nat.le_of_ble_eq_true rfl) (by omega) (k_Term_codeAt (by omega) hI1 hu (by omega)) ?_
      rintro _ _ ⟨z9, rfl, g5, rfl⟩
      refine k_run 0 (pc' := 32) (l' := [(0, .inr (.inr 366)), (1, .inr (.inr t)), (2, .inr (.inr u)), (3, .inl a), (4, .inl x4), (5, .inl x5), (6, .inl (H1.1 (t + 1) (x5).toNat))]) (st' := [.inl z9]) rfl ?_
      refine k_run 2 (pc' := 36) (l' := [(0, .inr (.inr 366)), (1, .inr (.inr t)), (2, .inr (.inr u)), (3, .inl a), (4, .inl x4), (5, .inl x5), (6, .inl (H1.1 (t + 1) (x5).toNat)), (7, .inl z9)]) (st' := [.inl (H1.1 (t + 1) (x5).toNat)]) rfl ?_
      refine h_cs (i := 48) (j := 50) (M' := mt_50) (xs := [.inl (H1.1 (t + 1) (x5).toNat)]) (rest := []) rfl rfl rfl rfl rfl (Nat.le_of_ble_eq_true rfl) (Nat.le_of_ble_eq_true rfl) (by omega) (k_Term_indexOf (by omega)  (by omega)) ?_
      rintro _ _ ⟨z14, rfl, g10, rfl⟩
      refine k_run 0 (pc' := 39) (l' := [(0, .inr (.inr 366)), (1, .inr (.inr t)), (2, .inr (.inr u)), (3, .inl a), (4, .inl x4), (5, .inl x5), (6, .inl (H1.1 (t + 1) (x5).toNat)), (7, .inl z9)]) (st' := [.inl z14]) rfl ?_
      refine k_run 2 (pc' := 43) (l' := [(0, .inr (.inr 366)), (1, .inr (.inr t)), (2, .inr (.inr u)), (3, .inl a), (4, .inl x4), (5, .inl x5), (6, .inl (H1.1 (t + 1) (x5).toNat)), (7, .inl z9), (8, .inl z14)]) (st' := [.inl (H1.1 (t + 1) (x5).toNat)]) rfl ?_
      refine h_cs (i := 45) (j := 49) (M' := mt_49) (xs := [.inl (H1.1 (t + 1) (x5).toNat)]) (rest := []) rfl rfl rfl rfl rfl (Nat.le_of_ble_eq_true rfl) (Nat.le_of_ble_eq_true rfl) (by omega) (k_Term_kindOf (by omega)  (by omega)) ?_
      rintro _ _ ⟨z19, rfl, g15, rfl⟩
      refine k_run 0 (pc' := 46) (l' := [(0, .inr (.inr 366)), (1, .inr (.inr t)), (2, .inr (.inr u)), (3, .inl a), (4, .inl x4), (5, .inl x5), (6, .inl (H1.1 (t + 1) (x5).toNat)), (7, .inl z9), (8, .inl z14)]) (st' := [.inl z19]) rfl ?_
      refine k_run 1 (pc' := 47) (l' := [(0, .inr (.inr 366)), (1, .inr (.inr t)), (2, .inr (.inr u)), (3, .inl a), (4, .inl x4), (5, .inl x5), (6, .inl (H1.1 (t + 1) (x5).toNat)), (7, .inl z9), (8, .inl z14)]) (st' := [.inl 3, .inl z19]) rfl ?_
      refine h_ine (off := 33) (t := 80) rfl rfl (by omega) (by decide) (fun c20 => ?_) (fun c20 => ?_)
      · refine k_run 0 (pc' := 80) (l' := [(0, .inr (.inr 366)), (1, .inr (.inr t)), (2, .inr (.inr u)), (3, .inl a), (4, .inl x4), (5, .inl x5), (6, .inl (H1.1 (t + 1) (x5).toNat)), (7, .inl z9), (8, .inl z14)]) (st' := []) rfl ?_
        refine k_run 2 (pc' := 84) (l' := [(0, .inr (.inr 366)), (1, .inr (.inr t)), (2, .inr (.inr u)), (3, .inl a), (4, .inl x4), (5, .inl x5), (6, .inl (H1.1 (t + 1) (x5).toNat)), (7, .inl z9), (8, .inl z14)]) (st' := [.inl (H1.1 (t + 1) (x5).toNat), .inl z9]) rfl ?_
        refine h_ine (off := 9) (t := 93) rfl rfl (by omega) (by omega) (fun c21 => ?_) (fun c21 => ?_)
        · refine k_run 0 (pc' := 93) (l' := [(0, .inr (.inr 366)), (1, .inr (.inr t)), (2, .inr (.inr u)), (3, .inl a), (4, .inl x4), (5, .inl x5), (6, .inl (H1.1 (t + 1) (x5).toNat)), (7, .inl z9), (8, .inl z14)]) (st' := []) rfl ?_
          refine k_run 1 (pc' := 95) (l' := [(0, .inr (.inr 366)), (1, .inr (.inr t)), (2, .inr (.inr u)), (3, .inl a), (4, .inl x4), (5, .inl x5), (6, .inl (H1.1 (t + 1) (x5).toNat)), (7, .inl z9), (8, .inl z14)]) (st' := [.inl z9]) rfl ?_
          refine h_zne (off := 5) (t := 100) rfl rfl (by omega) (fun c22 => ?_) (fun c22 => ?_)
          · refine k_run 0 (pc' := 100) (l' := [(0, .inr (.inr 366)), (1, .inr (.inr t)), (2, .inr (.inr u)), (3, .inl a), (4, .inl x4), (5, .inl x5), (6, .inl (H1.1 (t + 1) (x5).toNat)), (7, .inl z9), (8, .inl z14)]) (st' := []) rfl ?_
            refine k_run 1 (pc' := 102) (l' := [(0, .inr (.inr 366)), (1, .inr (.inr t)), (2, .inr (.inr u)), (3, .inl a), (4, .inl x4), (5, .inl x5), (6, .inl (H1.1 (t + 1) (x5).toNat)), (7, .inl z9), (8, .inl z14)]) (st' := [.inl z9]) rfl ?_
            refine h_cs (i := 45) (j := 49) (M' := mt_49) (xs := [.inl z9]) (rest := []) rfl rfl rfl rfl rfl (Nat.le_of_ble_eq_true rfl) (Nat.le_of_ble_eq_true rfl) (by omega) (k_Term_kindOf (by omega)  (by omega)) ?_
            rintro _ _ ⟨z27, rfl, g23, rfl⟩
            refine k_run 0 (pc' := 105) (l' := [(0, .inr (.inr 366)), (1, .inr (.inr t)), (2, .inr (.inr u)), (3, .inl a), (4, .inl x4), (5, .inl x5), (6, .inl (H1.1 (t + 1) (x5).toNat)), (7, .inl z9), (8, .inl z14)]) (st' := [.inl z27]) rfl ?_
            refine k_run 1 (pc' := 106) (l' := [(0, .inr (.inr 366)), (1, .inr (.inr t)), (2, .inr (.inr u)), (3, .inl a), (4, .inl x4), (5, .inl x5), (6, .inl (H1.1 (t + 1) (x5).toNat)), (7, .inl z9), (8, .inl z14)]) (st' := [.inl 1, .inl z27]) rfl ?_
            refine h_ieq (off := 11) (t := 117) rfl rfl (by omega) (by decide) (fun c28 => ?_) (fun c28 => ?_)
            · refine k_run 0 (pc' := 117) (l' := [(0, .inr (.inr 366)), (1, .inr (.inr t)), (2, .inr (.inr u)), (3, .inl a), (4, .inl x4), (5, .inl x5), (6, .inl (H1.1 (t + 1) (x5).toNat)), (7, .inl z9), (8, .inl z14)]) (st' := []) rfl ?_
              refine k_run 1 (pc' := 118) (l' := [(0, .inr (.inr 366)), (1, .inr (.inr t)), (2, .inr (.inr u)), (3, .inl a), (4, .inl x4), (5, .inl x5), (6, .inl (H1.1 (t + 1) (x5).toNat)), (7, .inl z9), (8, .inl z14)]) (st' := [.inl 3]) rfl ?_
              refine h_reti (x := 3) rfl rfl ?_
              exact ⟨_, rfl, (by omega), hI1, hf1⟩
            · refine k_run 0 (pc' := 109) (l' := [(0, .inr (.inr 366)), (1, .inr (.inr t)), (2, .inr (.inr u)), (3, .inl a), (4, .inl x4), (5, .inl x5), (6, .inl (H1.1 (t + 1) (x5).toNat)), (7, .inl z9), (8, .inl z14)]) (st' := []) rfl ?_
              refine k_run 2 (pc' := 112) (l' := [(0, .inr (.inr 366)), (1, .inr (.inr t)), (2, .inr (.inr u)), (3, .inl a), (4, .inl x4), (5, .inl x5), (6, .inl (H1.1 (t + 1) (x5).toNat)), (7, .inl z9), (8, .inl z14)]) (st' := [.inl x4, .inr (.inr 366)]) rfl ?_
              refine k_putw (a := 366) (x := kx_366) rfl rfl rfl (by decide) (by decide) rfl rfl rfl rfl hI1 rfl (fun H29 hI30 hw31 => ?_)
              have hf33 : fq [(366, 5)] [367] false H H29 := fq_w hf1 hw31 (fpo (by decide) rfl)
              refine k_run 0 (pc' := 115) (l' := [(0, .inr (.inr 366)), (1, .inr (.inr t)), (2, .inr (.inr u)), (3, .inl a), (4, .inl x4), (5, .inl x5), (6, .inl (H1.1 (t + 1) (x5).toNat)), (7, .inl z9), (8, .inl z14)]) (st' := []) rfl ?_
              refine k_run 1 (pc' := 116) (l' := [(0, .inr (.inr 366)), (1, .inr (.inr t)), (2, .inr (.inr u)), (3, .inl a), (4, .inl x4), (5, .inl x5), (6, .inl (H1.1 (t + 1) (x5).toNat)), (7, .inl z9), (8, .inl z14)]) (st' := [.inl 2]) rfl ?_
              refine h_reti (x := 2) rfl rfl ?_
              exact ⟨_, rfl, (by omega), hI30, hf33⟩
          · refine k_run 0 (pc' := 98) (l' := [(0, .inr (.inr 366)), (1, .inr (.inr t)), (2, .inr (.inr u)), (3, .inl a), (4, .inl x4), (5, .inl x5), (6, .inl (H1.1 (t + 1) (x5).toNat)), (7, .inl z9), (8, .inl z14)]) (st' := []) rfl ?_
            refine k_run 1 (pc' := 99) (l' := [(0, .inr (.inr 366)), (1, .inr (.inr t)), (2, .inr (.inr u)), (3, .inl a), (4, .inl x4), (5, .inl x5), (6, .inl (H1.1 (t + 1) (x5).toNat)), (7, .inl z9), (8, .inl z14)]) (st' := [.inl 1]) rfl ?_
            refine h_reti (x := 1) rfl rfl ?_
            exact ⟨_, rfl, (by omega), hI1, hf1⟩
        · refine k_run 0 (pc' := 87) (l' := [(0, .inr (.inr 366)), (1, .inr (.inr t)), (2, .inr (.inr u)), (3, .inl a), (4, .inl x4), (5, .inl x5), (6, .inl (H1.1 (t + 1) (x5).toNat)), (7, .inl z9), (8, .inl z14)]) (st' := []) rfl ?_
          refine k_run 1 (pc' := 90) (l' := [(0, .inr (.inr 366)), (1, .inr (.inr t)), (2, .inr (.inr u)), (3, .inl a), (4, .inl (x4 + 1)), (5, .inl x5), (6, .inl (H1.1 (t + 1) (x5).toNat)), (7, .inl z9), (8, .inl z14)]) (st' := []) rfl ?_
          refine k_nrml 4 rfl rfl rfl (fun y34 hy34 => ?_)
          refine k_run 0 (pc' := 90) (l' := [(0, .inr (.inr 366)), (1, .inr (.inr t)), (2, .inr (.inr u)), (3, .inl a), (4, .inl y34), (5, .inl x5), (6, .inl (H1.1 (t + 1) (x5).toNat)), (7, .inl z9), (8, .inl z14)]) (st' := []) rfl ?_
          refine k_run 3 (pc' := 8) (l' := [(0, .inr (.inr 366)), (1, .inr (.inr t)), (2, .inr (.inr u)), (3, .inl a), (4, .inl y34), (5, .inl (x5 + 1)), (6, .inl (H1.1 (t + 1) (x5).toNat)), (7, .inl z9), (8, .inl z14)]) (st' := []) rfl ?_
          refine h_loc [0, 1, 2, 3, 4, 5] rfl ?_
          exact ih H1 hI1 hf1 y34 (x5 + 1) (by omega) (by omega) (by omega) (by omega)
      · refine k_run 0 (pc' := 50) (l' := [(0, .inr (.inr 366)), (1, .inr (.inr t)), (2, .inr (.inr u)), (3, .inl a), (4, .inl x4), (5, .inl x5), (6, .inl (H1.1 (t + 1) (x5).toNat)), (7, .inl z9), (8, .inl z14)]) (st' := []) rfl ?_
        refine k_run 3 (pc' := 56) (l' := [(0, .inr (.inr 366)), (1, .inr (.inr t)), (2, .inr (.inr u)), (3, .inl a), (4, .inl x4), (5, .inl x5), (6, .inl (H1.1 (t + 1) (x5).toNat)), (7, .inl z9), (8, .inl z14)]) (st' := [.inr (.inr 367), .inl z14]) rfl ?_
        refine k_alen (c := 367) (x := kx_367) rfl rfl (by decide) rfl ?_
        refine k_run 0 (pc' := 57) (l' := [(0, .inr (.inr 366)), (1, .inr (.inr t)), (2, .inr (.inr u)), (3, .inl a), (4, .inl x4), (5, .inl x5), (6, .inl (H1.1 (t + 1) (x5).toNat)), (7, .inl z9), (8, .inl z14)]) (st' := [.inl 60, .inl z14]) rfl ?_
        refine h_ige (off := 23) (t := 80) rfl rfl (by omega) (by decide) (fun c35 => ?_) (fun c35 => ?_)
        · refine k_run 0 (pc' := 80) (l' := [(0, .inr (.inr 366)), (1, .inr (.inr t)), (2, .inr (.inr u)), (3, .inl a), (4, .inl x4), (5, .inl x5), (6, .inl (H1.1 (t + 1) (x5).toNat)), (7, .inl z9), (8, .inl z14)]) (st' := []) rfl ?_
          refine k_run 2 (pc' := 84) (l' := [(0, .inr (.inr 366)), (1, .inr (.inr t)), (2, .inr (.inr u)), (3, .inl a), (4, .inl x4), (5, .inl x5), (6, .inl (H1.1 (t + 1) (x5).toNat)), (7, .inl z9), (8, .inl z14)]) (st' := [.inl (H1.1 (t + 1) (x5).toNat), .inl z9]) rfl ?_
          refine h_ine (off := 9) (t := 93) rfl rfl (by omega) (by omega) (fun c36 => ?_) (fun c36 => ?_)
          · refine k_run 0 (pc' := 93) (l' := [(0, .inr (.inr 366)), (1, .inr (.inr t)), (2, .inr (.inr u)), (3, .inl a), (4, .inl x4), (5, .inl x5), (6, .inl (H1.1 (t + 1) (x5).toNat)), (7, .inl z9), (8, .inl z14)]) (st' := []) rfl ?_
            refine k_run 1 (pc' := 95) (l' := [(0, .inr (.inr 366)), (1, .inr (.inr t)), (2, .inr (.inr u)), (3, .inl a), (4, .inl x4), (5, .inl x5), (6, .inl (H1.1 (t + 1) (x5).toNat)), (7, .inl z9), (8, .inl z14)]) (st' := [.inl z9]) rfl ?_
            refine h_zne (off := 5) (t := 100) rfl rfl (by omega) (fun c37 => ?_) (fun c37 => ?_)
            · refine k_run 0 (pc' := 100) (l' := [(0, .inr (.inr 366)), (1, .inr (.inr t)), (2, .inr (.inr u)), (3, .inl a), (4, .inl x4), (5, .inl x5), (6, .inl (H1.1 (t + 1) (x5).toNat)), (7, .inl z9), (8, .inl z14)]) (st' := []) rfl ?_
              refine k_run 1 (pc' := 102) (l' := [(0, .inr (.inr 366)), (1, .inr (.inr t)), (2, .inr (.inr u)), (3, .inl a), (4, .inl x4), (5, .inl x5), (6, .inl (H1.1 (t + 1) (x5).toNat)), (7, .inl z9), (8, .inl z14)]) (st' := [.inl z9]) rfl ?_
              refine h_cs (i := 45) (j := 49) (M' := mt_49) (xs := [.inl z9]) (rest := []) rfl rfl rfl rfl rfl (Nat.le_of_ble_eq_true rfl) (Nat.le_of_ble_eq_true rfl) (by omega) (k_Term_kindOf (by omega)  (by omega)) ?_
              rintro _ _ ⟨z42, rfl, g38, rfl⟩
              refine k_run 0 (pc' := 105) (l' := [(0, .inr (.inr 366)), (1, .inr (.inr t)), (2, .inr (.inr u)), (3, .inl a), (4, .inl x4), (5, .inl x5), (6, .inl (H1.1 (t + 1) (x5).toNat)), (7, .inl z9), (8, .inl z14)]) (st' := [.inl z42]) rfl ?_
              refine k_run 1 (pc' := 106) (l' := [(0, .inr (.inr 366)), (1, .inr (.inr t)), (2, .inr (.inr u)), (3, .inl a), (4, .inl x4), (5, .inl x5), (6, .inl (H1.1 (t + 1) (x5).toNat)), (7, .inl z9), (8, .inl z14)]) (st' := [.inl 1, .inl z42]) rfl ?_
              refine h_ieq (off := 11) (t := 117) rfl rfl (by omega) (by decide) (fun c43 => ?_) (fun c43 => ?_)
              · refine k_run 0 (pc' := 117) (l' := [(0, .inr (.inr 366)), (1, .inr (.inr t)), (2, .inr (.inr u)), (3, .inl a), (4, .inl x4), (5, .inl x5), (6, .inl (H1.1 (t + 1) (x5).toNat)), (7, .inl z9), (8, .inl z14)]) (st' := []) rfl ?_
                refine k_run 1 (pc' := 118) (l' := [(0, .inr (.inr 366)), (1, .inr (.inr t)), (2, .inr (.inr u)), (3, .inl a), (4, .inl x4), (5, .inl x5), (6, .inl (H1.1 (t + 1) (x5).toNat)), (7, .inl z9), (8, .inl z14)]) (st' := [.inl 3]) rfl ?_
                refine h_reti (x := 3) rfl rfl ?_
                exact ⟨_, rfl, (by omega), hI1, hf1⟩
              · refine k_run 0 (pc' := 109) (l' := [(0, .inr (.inr 366)), (1, .inr (.inr t)), (2, .inr (.inr u)), (3, .inl a), (4, .inl x4), (5, .inl x5), (6, .inl (H1.1 (t + 1) (x5).toNat)), (7, .inl z9), (8, .inl z14)]) (st' := []) rfl ?_
                refine k_run 2 (pc' := 112) (l' := [(0, .inr (.inr 366)), (1, .inr (.inr t)), (2, .inr (.inr u)), (3, .inl a), (4, .inl x4), (5, .inl x5), (6, .inl (H1.1 (t + 1) (x5).toNat)), (7, .inl z9), (8, .inl z14)]) (st' := [.inl x4, .inr (.inr 366)]) rfl ?_
                refine k_putw (a := 366) (x := kx_366) rfl rfl rfl (by decide) (by decide) rfl rfl rfl rfl hI1 rfl (fun H44 hI45 hw46 => ?_)
                have hf48 : fq [(366, 5)] [367] false H H44 := fq_w hf1 hw46 (fpo (by decide) rfl)
                refine k_run 0 (pc' := 115) (l' := [(0, .inr (.inr 366)), (1, .inr (.inr t)), (2, .inr (.inr u)), (3, .inl a), (4, .inl x4), (5, .inl x5), (6, .inl (H1.1 (t + 1) (x5).toNat)), (7, .inl z9), (8, .inl z14)]) (st' := []) rfl ?_
                refine k_run 1 (pc' := 116) (l' := [(0, .inr (.inr 366)), (1, .inr (.inr t)), (2, .inr (.inr u)), (3, .inl a), (4, .inl x4), (5, .inl x5), (6, .inl (H1.1 (t + 1) (x5).toNat)), (7, .inl z9), (8, .inl z14)]) (st' := [.inl 2]) rfl ?_
                refine h_reti (x := 2) rfl rfl ?_
                exact ⟨_, rfl, (by omega), hI45, hf48⟩
            · refine k_run 0 (pc' := 98) (l' := [(0, .inr (.inr 366)), (1, .inr (.inr t)), (2, .inr (.inr u)), (3, .inl a), (4, .inl x4), (5, .inl x5), (6, .inl (H1.1 (t + 1) (x5).toNat)), (7, .inl z9), (8, .inl z14)]) (st' := []) rfl ?_
              refine k_run 1 (pc' := 99) (l' := [(0, .inr (.inr 366)), (1, .inr (.inr t)), (2, .inr (.inr u)), (3, .inl a), (4, .inl x4), (5, .inl x5), (6, .inl (H1.1 (t + 1) (x5).toNat)), (7, .inl z9), (8, .inl z14)]) (st' := [.inl 1]) rfl ?_
              refine h_reti (x := 1) rfl rfl ?_
              exact ⟨_, rfl, (by omega), hI1, hf1⟩
          · refine k_run 0 (pc' := 87) (l' := [(0, .inr (.inr 366)), (1, .inr (.inr t)), (2, .inr (.inr u)), (3, .inl a), (4, .inl x4), (5, .inl x5), (6, .inl (H1.1 (t + 1) (x5).toNat)), (7, .inl z9), (8, .inl z14)]) (st' := []) rfl ?_
            refine k_run 1 (pc' := 90) (l' := [(0, .inr (.inr 366)), (1, .inr (.inr t)), (2, .inr (.inr u)), (3, .inl a), (4, .inl (x4 + 1)), (5, .inl x5), (6, .inl (H1.1 (t + 1) (x5).toNat)), (7, .inl z9), (8, .inl z14)]) (st' := []) rfl ?_
            refine k_nrml 4 rfl rfl rfl (fun y49 hy49 => ?_)
            refine k_run 0 (pc' := 90) (l' := [(0, .inr (.inr 366)), (1, .inr (.inr t)), (2, .inr (.inr u)), (3, .inl a), (4, .inl y49), (5, .inl x5), (6, .inl (H1.1 (t + 1) (x5).toNat)), (7, .inl z9), (8, .inl z14)]) (st' := []) rfl ?_
            refine k_run 3 (pc' := 8) (l' := [(0, .inr (.inr 366)), (1, .inr (.inr t)), (2, .inr (.inr u)), (3, .inl a), (4, .inl y49), (5, .inl (x5 + 1)), (6, .inl (H1.1 (t + 1) (x5).toNat)), (7, .inl z9), (8, .inl z14)]) (st' := []) rfl ?_
            refine h_loc [0, 1, 2, 3, 4, 5] rfl ?_
            exact ih H1 hI1 hf1 y49 (x5 + 1) (by omega) (by omega) (by omega) (by omega)
        · refine k_run 0 (pc' := 60) (l' := [(0, .inr (.inr 366)), (1, .inr (.inr t)), (2, .inr (.inr u)), (3, .inl a), (4, .inl x4), (5, .inl x5), (6, .inl (H1.1 (t + 1) (x5).toNat)), (7, .inl z9), (8, .inl z14)]) (st' := []) rfl ?_
          refine k_run 4 (pc' := 68) (l' := [(0, .inr (.inr 366)), (1, .inr (.inr t)), (2, .inr (.inr u)), (3, .inl a), (4, .inl x4), (5, .inl x5), (6, .inl (H1.1 (t + 1) (x5).toNat)), (7, .inl z9), (8, .inl z14)]) (st' := [.inl x4, .inl z14, .inr (.inr 367)]) rfl ?_
          refine k_istw (c := 367) (j := (z14).toNat) (i := z14) (x := kx_367) rfl rfl (by decide) (by decide) rfl (by decide) (by omega) (by omega) hI1 rfl (fun H50 hI51 hw52 => ?_)
          have hf54 : fq [(366, 5)] [367] false H H50 := fq_w hf1 hw52 (fpa (by decide) rfl)
          refine k_run 0 (pc' := 69) (l' := [(0, .inr (.inr 366)), (1, .inr (.inr t)), (2, .inr (.inr u)), (3, .inl a), (4, .inl x4), (5, .inl x5), (6, .inl (H1.1 (t + 1) (x5).toNat)), (7, .inl z9), (8, .inl z14)]) (st' := []) rfl ?_
          refine k_run 2 (pc' := 72) (l' := [(0, .inr (.inr 366)), (1, .inr (.inr t)), (2, .inr (.inr u)), (3, .inl a), (4, .inl x4), (5, .inl x5), (6, .inl (H1.1 (t + 1) (x5).toNat)), (7, .inl z9), (8, .inl z14)]) (st' := [.inl x4, .inr (.inr u)]) rfl ?_
          refine h_cv (i := 75) (j := 53) (b := u) (M' := mt_53) (xs := [.inl x4]) (rest := []) rfl rfl rfl rfl (by rw [zs_K hu.1 (iT0 hu)]; rfl) rfl (Nat.le_of_ble_eq_true rfl) (Nat.le_of_ble_eq_true rfl) (by omega) (k_Term_behind (by omega) hI51 hu (by omega)) ?_
          rintro _ _ ⟨z59, rfl, g55, rfl⟩
          refine k_run 0 (pc' := 75) (l' := [(0, .inr (.inr 366)), (1, .inr (.inr t)), (2, .inr (.inr u)), (3, .inl a), (4, .inl x4), (5, .inl x5), (6, .inl (H1.1 (t + 1) (x5).toNat)), (7, .inl z9), (8, .inl z14)]) (st' := [.inl z59]) rfl ?_
          refine k_run 4 (pc' := 8) (l' := [(0, .inr (.inr 366)), (1, .inr (.inr t)), (2, .inr (.inr u)), (3, .inl a), (4, .inl z59), (5, .inl (x5 + 1)), (6, .inl (H1.1 (t + 1) (x5).toNat)), (7, .inl z9), (8, .inl z14)]) (st' := []) rfl ?_
          refine h_loc [0, 1, 2, 3, 4, 5] rfl ?_
          exact ih H50 hI51 hf54 z59 (x5 + 1) (by omega) (by omega) (by omega) (by omega)
set_option maxRecDepth 100000 in
theorem k_Rewriter_matchRule {d : Nat} (hd : 2 ≤ d) {H : hp} (hI : Inv H) {t n : Nat} {u m : Nat} {a : Int} (ht : isT t n) (hu : isT u m) (ha : -2147483648 ≤ a ∧ a ≤ 2147483647) : hG (zs zK) d mt_95 0 (zargs 0 [.inr (.inr 366), .inr (.inr t), .inr (.inr u), .inl a]) [] H (fun r9 H9 => ∃ z : Int, r9 = some (.inl z) ∧ ((-2147483648 ≤ z ∧ z ≤ 2147483647)) ∧ Inv H9 ∧ fq [(366, 5)] [367] false H H9) := by
  have htb := ht.2.2.2.2
  have hub := hu.2.2.2.2
  refine k_run 0 (pc' := 0) (l' := [(0, .inr (.inr 366)), (1, .inr (.inr t)), (2, .inr (.inr u)), (3, .inl a)]) (st' := []) rfl ?_
  refine k_run 3 (pc' := 3) (l' := [(0, .inr (.inr 366)), (1, .inr (.inr t)), (2, .inr (.inr u)), (3, .inl a)]) (st' := [.inl (a + 1)]) rfl ?_
  refine k_nrm (fun y1 hy1 => ?_)
  refine k_run 0 (pc' := 3) (l' := [(0, .inr (.inr 366)), (1, .inr (.inr t)), (2, .inr (.inr u)), (3, .inl a)]) (st' := [.inl y1]) rfl ?_
  refine k_run 3 (pc' := 8) (l' := [(0, .inr (.inr 366)), (1, .inr (.inr t)), (2, .inr (.inr u)), (3, .inl a), (4, .inl y1), (5, .inl 1)]) (st' := []) rfl ?_
  exact (k_Rewriter_matchRule_cut hd hI ht hu ha _) H hI (fq_rf _ _ _ _) y1 (1 : Int) (by omega) (by decide) (by omega) (Nat.lt_succ_self _)

/-! Rewriter.matchCall -/
set_option maxRecDepth 100000 in
theorem k_Rewriter_matchCall_cut {d : Nat} (hd : 3 ≤ d) {H : hp} (hI : Inv H) {t n : Nat} {a : Int} (ht : isT t n) (ha : -2147483648 ≤ a ∧ a ≤ 2147483647) : ∀ w : Nat, (∀ (H1 : hp), Inv H1 → fq [(366, 4), (366, 5)] [367] false H H1 → ∀ (x3 : Int) (x4 : Int) (x5 : Int) , (-2147483648 ≤ x3 ∧ x3 ≤ 2147483647) → (-2147483648 ≤ x4 ∧ x4 ≤ 2147483647) → (-2147483648 ≤ x5 ∧ x5 ≤ 2147483647) → (0 ≤ x5) → (((1000 - x5).toNat) < w) → hG (zs zK) d mt_94 33 [(0, .inr (.inr 366)), (1, .inr (.inr t)), (2, .inl a), (3, .inl x3), (4, .inl x4), (5, .inl x5)] [] H1 (fun r9 H9 => ∃ z : Int, r9 = some (.inl z) ∧ ((-2147483648 ≤ z ∧ z ≤ 2147483647)) ∧ Inv H9 ∧ fq [(366, 4), (366, 5)] [367] false H H9)) := by
  intro w
  induction w with
  | zero => exact fun _ _ _ _ _ _ _ _ _ _ h => absurd h (Nat.not_lt_zero _)
  | succ w ih =>
    intro H1 hI1 hf1 x3 x4 x5 hx3 hx4 hx5 hi0 hw
    have htb := ht.2.2.2.2
    refine k_run 4 (pc' := 42) (l' := [(0, .inr (.inr 366)), (1, .inr (.inr t)), (2, .inl a), (3, .inl x3), (4, .inl x4), (5, .inl x5)]) (st' := [.inl (H1.1 7 5), .inl x5]) rfl ?_
    have g22 : 0 ≤ (H1.1 7 5) ∧ (H1.1 7 5) ≤ 40 := kn (x := kx_7) hI1 rfl 5
    have e23 : (H1.1 7 5) = (H.1 7 5) := (hf1.1 7 5 rfl (by decide) (by decide)).1
    refine h_ige (off := 71) (t := 113) rfl rfl (by omega) (by omega) (fun c24 => ?_) (fun c24 => ?_)
    · refine k_run 0 (pc' := 113) (l' := [(0, .inr (.inr 366)), (1, .inr (.inr t)), (2, .inl a), (3, .inl x3), (4, .inl x4), (5, .inl x5)]) (st' := []) rfl ?_
      refine k_run 1 (pc' := 114) (l' := [(0, .inr (.inr 366)), (1, .inr (.inr t)), (2, .inl a), (3, .inl x3), (4, .inl x4), (5, .inl x5)]) (st' := [.inl 1]) rfl ?_
      refine h_reti (x := 1) rfl rfl ?_
      exact ⟨_, rfl, (by omega), hI1, hf1⟩
    · refine k_run 0 (pc' := 45) (l' := [(0, .inr (.inr 366)), (1, .inr (.inr t)), (2, .inl a), (3, .inl x3), (4, .inl x4), (5, .inl x5)]) (st' := []) rfl ?_
      refine k_run 4 (pc' := 54) (l' := [(0, .inr (.inr 366)), (1, .inr (.inr t)), (2, .inl a), (3, .inl x3), (4, .inl x4), (5, .inl x5)]) (st' := [.inl x5, .inr (.inr 23)]) rfl ?_
      refine k_ald (c := 23) (j := (x5).toNat) (i := x5) (x := kx_23) rfl rfl (by decide) rfl (by decide) (by omega) (by omega) hI1 (fun h25 => ?_)
      obtain ⟨t26, et28⟩ : ∃ t9, t9 = H1.2 23 (x5).toNat := ⟨_, rfl⟩
      rw [← et28] at h25 ⊢
      have k27 : isE t26 := h25
      refine k_run 0 (pc' := 55) (l' := [(0, .inr (.inr 366)), (1, .inr (.inr t)), (2, .inl a), (3, .inl x3), (4, .inl x4), (5, .inl x5)]) (st' := [.inr (.inr t26)]) rfl ?_
      refine k_run 2 (pc' := 59) (l' := [(0, .inr (.inr 366)), (1, .inr (.inr t)), (2, .inl a), (3, .inl x3), (4, .inl x4), (5, .inl x5), (6, .inr (.inr t26))]) (st' := [.inr (.inr t26)]) rfl ?_
      refine k_get (a := t26) (x := (kEo t26)) (v := .inl (H1.1 t26 4)) rfl rfl k27.1 (iE0 k27) rfl rfl rfl ?_
      have g29 : -2147483648 ≤ (H1.1 t26 4) ∧ (H1.1 t26 4) ≤ 2147483647 := kn hI1 k27.1 4
      have e30 : (H1.1 t26 4) = (H.1 t26 4) := (hf1.2 rfl t26 4 (iEt k27)).1
      refine k_run 0 (pc' := 62) (l' := [(0, .inr (.inr 366)), (1, .inr (.inr t)), (2, .inl a), (3, .inl x3), (4, .inl x4), (5, .inl x5), (6, .inr (.inr t26))]) (st' := [.inl (H1.1 t26 4)]) rfl ?_
      refine k_run 1 (pc' := 64) (l' := [(0, .inr (.inr 366)), (1, .inr (.inr t)), (2, .inl a), (3, .inl x3), (4, .inl x4), (5, .inl x5), (6, .inr (.inr t26))]) (st' := [.inl x4, .inl (H1.1 t26 4)]) rfl ?_
      refine h_ine (off := 17) (t := 81) rfl rfl (by omega) (by omega) (fun c31 => ?_) (fun c31 => ?_)
      · refine k_run 0 (pc' := 81) (l' := [(0, .inr (.inr 366)), (1, .inr (.inr t)), (2, .inl a), (3, .inl x3), (4, .inl x4), (5, .inl x5), (6, .inr (.inr t26))]) (st' := []) rfl ?_
        refine k_run 3 (pc' := 86) (l' := [(0, .inr (.inr 366)), (1, .inr (.inr t)), (2, .inl a), (3, .inl x3), (4, .inl x4), (5, .inl x5), (6, .inr (.inr t26)), (7, .inl 3)]) (st' := [.inl 3]) rfl ?_
        refine h_zne (off := 12) (t := 98) rfl rfl (by decide) (fun _ => ?_) (fun c => absurd c (by decide))
        refine k_run 0 (pc' := 98) (l' := [(0, .inr (.inr 366)), (1, .inr (.inr t)), (2, .inl a), (3, .inl x3), (4, .inl x4), (5, .inl x5), (6, .inr (.inr t26)), (7, .inl 3)]) (st' := []) rfl ?_
        refine k_run 2 (pc' := 101) (l' := [(0, .inr (.inr 366)), (1, .inr (.inr t)), (2, .inl a), (3, .inl x3), (4, .inl x4), (5, .inl x5), (6, .inr (.inr t26)), (7, .inl 3)]) (st' := [.inl 3, .inl 3]) rfl ?_
        refine h_ieq (off := 6) (t := 107) rfl rfl (by decide) (by decide) (fun _ => ?_) (fun c => absurd c (by decide))
        refine k_run 0 (pc' := 107) (l' := [(0, .inr (.inr 366)), (1, .inr (.inr t)), (2, .inl a), (3, .inl x3), (4, .inl x4), (5, .inl x5), (6, .inr (.inr t26)), (7, .inl 3)]) (st' := []) rfl ?_
        refine k_run 2 (pc' := 33) (l' := [(0, .inr (.inr 366)), (1, .inr (.inr t)), (2, .inl a), (3, .inl x3), (4, .inl x4), (5, .inl (x5 + 1)), (6, .inr (.inr t26)), (7, .inl 3)]) (st' := []) rfl ?_
        refine h_loc [0, 1, 2, 3, 4, 5] rfl ?_
        exact ih H1 hI1 hf1 x3 x4 (x5 + 1) (by omega) (by omega) (by omega) (by omega) (by omega)
      · refine k_run 0 (pc' := 67) (l' := [(0, .inr (.inr 366)), (1, .inr (.inr t)), (2, .inl a), (3, .inl x3), (4, .inl x4), (5, .inl x5), (6, .inr (.inr t26))]) (st' := []) rfl ?_
        refine k_run 2 (pc' := 70) (l' := [(0, .inr (.inr 366)), (1, .inr (.inr t)), (2, .inl a), (3, .inl x3), (4, .inl x4), (5, .inl x5), (6, .inr (.inr t26))]) (st' := [.inr (.inr t26), .inr (.inr 366)]) rfl ?_
        refine k_get (a := t26) (x := (kEo t26)) (v := .inr (.inr (t26 + 1))) rfl rfl k27.1 (iE0 k27) rfl rfl rfl ?_
        refine k_run 0 (pc' := 73) (l' := [(0, .inr (.inr 366)), (1, .inr (.inr t)), (2, .inl a), (3, .inl x3), (4, .inl x4), (5, .inl x5), (6, .inr (.inr t26))]) (st' := [.inr (.inr (t26 + 1)), .inr (.inr 366)]) rfl ?_
        refine k_run 2 (pc' := 75) (l' := [(0, .inr (.inr 366)), (1, .inr (.inr t)), (2, .inl a), (3, .inl x3), (4, .inl x4), (5, .inl x5), (6, .inr (.inr t26))]) (st' := [.inl a, .inr (.inr t), .inr (.inr (t26 + 1)), .inr (.inr 366)]) rfl ?_
        refine h_cv (i := 68) (j := 95) (b := 366) (M' := mt_95) (xs := [.inl a, .inr (.inr t), .inr (.inr (t26 + 1))]) (rest := []) rfl rfl rfl rfl (zs_K (x := kx_366) rfl (by decide)) rfl (Nat.le_of_ble_eq_true rfl) (Nat.le_of_ble_eq_true rfl) (by omega) (k_Rewriter_matchRule (by omega) hI1 (iEl k27) ht (by omega)) ?_
        rintro _ H33 ⟨z36, rfl, g32, hI34, hq35⟩
        have hf37 : fq [(366, 4), (366, 5)] [367] false H H33 := fq_t hf1 hq35 rfl rfl rfl
        refine k_run 0 (pc' := 78) (l' := [(0, .inr (.inr 366)), (1, .inr (.inr t)), (2, .inl a), (3, .inl x3), (4, .inl x4), (5, .inl x5), (6, .inr (.inr t26))]) (st' := [.inl z36]) rfl ?_
        refine k_run 3 (pc' := 86) (l' := [(0, .inr (.inr 366)), (1, .inr (.inr t)), (2, .inl a), (3, .inl x3), (4, .inl x4), (5, .inl x5), (6, .inr (.inr t26)), (7, .inl z36)]) (st' := [.inl z36]) rfl ?_
        refine h_zne (off := 12) (t := 98) rfl rfl (by omega) (fun c38 => ?_) (fun c38 => ?_)
        · refine k_run 0 (pc' := 98) (l' := [(0, .inr (.inr 366)), (1, .inr (.inr t)), (2, .inl a), (3, .inl x3), (4, .inl x4), (5, .inl x5), (6, .inr (.inr t26)), (7, .inl z36)]) (st' := []) rfl ?_
          refine k_run 2 (pc' := 101) (l' := [(0, .inr (.inr 366)), (1, .inr (.inr t)), (2, .inl a), (3, .inl x3), (4, .inl x4), (5, .inl x5), (6, .inr (.inr t26)), (7, .inl z36)]) (st' := [.inl 3, .inl z36]) rfl ?_
          refine h_ieq (off := 6) (t := 107) rfl rfl (by omega) (by decide) (fun c39 => ?_) (fun c39 => ?_)
          · refine k_run 0 (pc' := 107) (l' := [(0, .inr (.inr 366)), (1, .inr (.inr t)), (2, .inl a), (3, .inl x3), (4, .inl x4), (5, .inl x5), (6, .inr (.inr t26)), (7, .inl z36)]) (st' := []) rfl ?_
            refine k_run 2 (pc' := 33) (l' := [(0, .inr (.inr 366)), (1, .inr (.inr t)), (2, .inl a), (3, .inl x3), (4, .inl x4), (5, .inl (x5 + 1)), (6, .inr (.inr t26)), (7, .inl z36)]) (st' := []) rfl ?_
            refine h_loc [0, 1, 2, 3, 4, 5] rfl ?_
            exact ih H33 hI34 hf37 x3 x4 (x5 + 1) (by omega) (by omega) (by omega) (by omega) (by omega)
          · refine k_run 0 (pc' := 104) (l' := [(0, .inr (.inr 366)), (1, .inr (.inr t)), (2, .inl a), (3, .inl x3), (4, .inl x4), (5, .inl x5), (6, .inr (.inr t26)), (7, .inl z36)]) (st' := []) rfl ?_
            refine k_run 1 (pc' := 106) (l' := [(0, .inr (.inr 366)), (1, .inr (.inr t)), (2, .inl a), (3, .inl x3), (4, .inl x4), (5, .inl x5), (6, .inr (.inr t26)), (7, .inl z36)]) (st' := [.inl z36]) rfl ?_
            refine h_reti (x := z36) rfl rfl ?_
            exact ⟨_, rfl, (by omega), hI34, hf37⟩
        · refine k_run 0 (pc' := 89) (l' := [(0, .inr (.inr 366)), (1, .inr (.inr t)), (2, .inl a), (3, .inl x3), (4, .inl x4), (5, .inl x5), (6, .inr (.inr t26)), (7, .inl z36)]) (st' := []) rfl ?_
          refine k_run 2 (pc' := 92) (l' := [(0, .inr (.inr 366)), (1, .inr (.inr t)), (2, .inl a), (3, .inl x3), (4, .inl x4), (5, .inl x5), (6, .inr (.inr t26)), (7, .inl z36)]) (st' := [.inr (.inr t26), .inr (.inr 366)]) rfl ?_
          refine k_get (a := t26) (x := (kEo t26)) (v := .inr (.inr (t26 + 3))) rfl rfl k27.1 (iE0 k27) rfl rfl rfl ?_
          refine k_run 0 (pc' := 95) (l' := [(0, .inr (.inr 366)), (1, .inr (.inr t)), (2, .inl a), (3, .inl x3), (4, .inl x4), (5, .inl x5), (6, .inr (.inr t26)), (7, .inl z36)]) (st' := [.inr (.inr (t26 + 3)), .inr (.inr 366)]) rfl ?_
          refine k_putr (t := (t26 + 3)) (a := 366) (x := kx_366) rfl rfl rfl (by decide) (by decide) rfl rfl (fun g9 e9 => congrArg Value.ref e9) rfl rfl hI34 (show ∃ n, isT (t26 + 3) n from ⟨_, (iEr k27)⟩) (fun H40 hI41 hw42 => ?_)
          have hf44 : fq [(366, 4), (366, 5)] [367] false H H40 := fq_r hf37 hw42 (fpo (by decide) rfl)
          refine k_run 0 (pc' := 98) (l' := [(0, .inr (.inr 366)), (1, .inr (.inr t)), (2, .inl a), (3, .inl x3), (4, .inl x4), (5, .inl x5), (6, .inr (.inr t26)), (7, .inl z36)]) (st' := []) rfl ?_
          refine k_run 2 (pc' := 101) (l' := [(0, .inr (.inr 366)), (1, .inr (.inr t)), (2, .inl a), (3, .inl x3), (4, .inl x4), (5, .inl x5), (6, .inr (.inr t26)), (7, .inl z36)]) (st' := [.inl 3, .inl z36]) rfl ?_
          refine h_ieq (off := 6) (t := 107) rfl rfl (by omega) (by decide) (fun c45 => ?_) (fun c45 => ?_)
          · refine k_run 0 (pc' := 107) (l' := [(0, .inr (.inr 366)), (1, .inr (.inr t)), (2, .inl a), (3, .inl x3), (4, .inl x4), (5, .inl x5), (6, .inr (.inr t26)), (7, .inl z36)]) (st' := []) rfl ?_
            refine k_run 2 (pc' := 33) (l' := [(0, .inr (.inr 366)), (1, .inr (.inr t)), (2, .inl a), (3, .inl x3), (4, .inl x4), (5, .inl (x5 + 1)), (6, .inr (.inr t26)), (7, .inl z36)]) (st' := []) rfl ?_
            refine h_loc [0, 1, 2, 3, 4, 5] rfl ?_
            exact ih H40 hI41 hf44 x3 x4 (x5 + 1) (by omega) (by omega) (by omega) (by omega) (by omega)
          · refine k_run 0 (pc' := 104) (l' := [(0, .inr (.inr 366)), (1, .inr (.inr t)), (2, .inl a), (3, .inl x3), (4, .inl x4), (5, .inl x5), (6, .inr (.inr t26)), (7, .inl z36)]) (st' := []) rfl ?_
            refine k_run 1 (pc' := 106) (l' := [(0, .inr (.inr 366)), (1, .inr (.inr t)), (2, .inl a), (3, .inl x3), (4, .inl x4), (5, .inl x5), (6, .inr (.inr t26)), (7, .inl z36)]) (st' := [.inl z36]) rfl ?_
            refine h_reti (x := z36) rfl rfl ?_
            exact ⟨_, rfl, (by omega), hI41, hf44⟩
set_option maxRecDepth 100000 in
theorem k_Rewriter_matchCall {d : Nat} (hd : 3 ≤ d) {H : hp} (hI : Inv H) {t n : Nat} {a : Int} (ht : isT t n) (ha : -2147483648 ≤ a ∧ a ≤ 2147483647) : hG (zs zK) d mt_94 0 (zargs 0 [.inr (.inr 366), .inr (.inr t), .inl a]) [] H (fun r9 H9 => ∃ z : Int, r9 = some (.inl z) ∧ ((-2147483648 ≤ z ∧ z ≤ 2147483647)) ∧ Inv H9 ∧ fq [(366, 4), (366, 5)] [367] false H H9) := by
  have htb := ht.2.2.2.2
  refine k_run 0 (pc' := 0) (l' := [(0, .inr (.inr 366)), (1, .inr (.inr t)), (2, .inl a)]) (st' := []) rfl ?_
  refine k_run 3 (pc' := 5) (l' := [(0, .inr (.inr 366)), (1, .inr (.inr t)), (2, .inl a)]) (st' := [.inr (.inr 368), .inr (.inr 366)]) rfl ?_
  refine k_putr (t := 368) (a := 366) (x := kx_366) rfl rfl rfl (by decide) (by decide) rfl rfl (fun g9 e9 => congrArg Value.ref e9) rfl rfl hI (show ∃ n, isT 368 n from ⟨_, iT_368⟩) (fun H1 hI2 hw3 => ?_)
  have hf5 : fq [(366, 4), (366, 5)] [367] false H H1 := fq_r (fq_rf _ _ _ _) hw3 (fpo (by decide) rfl)
  refine k_run 0 (pc' := 8) (l' := [(0, .inr (.inr 366)), (1, .inr (.inr t)), (2, .inl a)]) (st' := []) rfl ?_
  refine k_run 2 (pc' := 10) (l' := [(0, .inr (.inr 366)), (1, .inr (.inr t)), (2, .inl a)]) (st' := [.inl a, .inr (.inr t)]) rfl ?_
  refine h_cv (i := 41) (j := 51) (b := t) (M' := mt_51) (xs := [.inl a]) (rest := []) rfl rfl rfl rfl (by rw [zs_K ht.1 (iT0 ht)]; rfl) rfl (Nat.le_of_ble_eq_true rfl) (Nat.le_of_ble_eq_true rfl) (by omega) (k_Term_codeAt (by omega) hI2 ht (by omega)) ?_
  rintro _ _ ⟨z10, rfl, g6, rfl⟩
  refine k_run 0 (pc' := 13) (l' := [(0, .inr (.inr 366)), (1, .inr (.inr t)), (2, .inl a)]) (st' := [.inl z10]) rfl ?_
  refine k_run 2 (pc' := 15) (l' := [(0, .inr (.inr 366)), (1, .inr (.inr t)), (2, .inl a), (3, .inl z10)]) (st' := [.inl z10]) rfl ?_
  refine h_cs (i := 45) (j := 49) (M' := mt_49) (xs := [.inl z10]) (rest := []) rfl rfl rfl rfl rfl (Nat.le_of_ble_eq_true rfl) (Nat.le_of_ble_eq_true rfl) (by omega) (k_Term_kindOf (by omega)  (by omega)) ?_
  rintro _ _ ⟨z15, rfl, g11, rfl⟩
  refine k_run 0 (pc' := 18) (l' := [(0, .inr (.inr 366)), (1, .inr (.inr t)), (2, .inl a), (3, .inl z10)]) (st' := [.inl z15]) rfl ?_
  refine k_run 1 (pc' := 19) (l' := [(0, .inr (.inr 366)), (1, .inr (.inr t)), (2, .inl a), (3, .inl z10)]) (st' := [.inl 2, .inl z15]) rfl ?_
  refine h_ieq (off := 5) (t := 24) rfl rfl (by omega) (by decide) (fun c16 => ?_) (fun c16 => ?_)
  · refine k_run 0 (pc' := 24) (l' := [(0, .inr (.inr 366)), (1, .inr (.inr t)), (2, .inl a), (3, .inl z10)]) (st' := []) rfl ?_
    refine k_run 1 (pc' := 25) (l' := [(0, .inr (.inr 366)), (1, .inr (.inr t)), (2, .inl a), (3, .inl z10)]) (st' := [.inl z10]) rfl ?_
    refine h_cs (i := 48) (j := 50) (M' := mt_50) (xs := [.inl z10]) (rest := []) rfl rfl rfl rfl rfl (Nat.le_of_ble_eq_true rfl) (Nat.le_of_ble_eq_true rfl) (by omega) (k_Term_indexOf (by omega)  (by omega)) ?_
    rintro _ _ ⟨z21, rfl, g17, rfl⟩
    refine k_run 0 (pc' := 28) (l' := [(0, .inr (.inr 366)), (1, .inr (.inr t)), (2, .inl a), (3, .inl z10)]) (st' := [.inl z21]) rfl ?_
    refine k_run 3 (pc' := 33) (l' := [(0, .inr (.inr 366)), (1, .inr (.inr t)), (2, .inl a), (3, .inl z10), (4, .inl z21), (5, .inl 0)]) (st' := []) rfl ?_
    exact (k_Rewriter_matchCall_cut hd hI ht ha _) H1 hI2 hf5 z10 z21 (0 : Int) (by omega) (by omega) (by decide) (by omega) (Nat.lt_succ_self _)
  · refine k_run 0 (pc' := 22) (l' := [(0, .inr (.inr 366)), (1, .inr (.inr t)), (2, .inl a), (3, .inl z10)]) (st' := []) rfl ?_
    refine k_run 1 (pc' := 23) (l' := [(0, .inr (.inr 366)), (1, .inr (.inr t)), (2, .inl a), (3, .inl z10)]) (st' := [.inl 1]) rfl ?_
    refine h_reti (x := 1) rfl rfl ?_
    exact ⟨_, rfl, (by omega), hI2, hf5⟩

/-! Rewriter.matchSide -/
set_option maxRecDepth 100000 in
theorem k_Rewriter_matchSide_cut {d : Nat} (hd : 3 ≤ d) {H : hp} (hI : Inv H) {t n : Nat} {f : Int} {u m : Nat} {a : Int} (ht : isT t n) (hu : isT u m) (ha : -2147483648 ≤ a ∧ a ≤ 2147483647) : ∀ w : Nat, (∀ (H1 : hp), Inv H1 → fq [] [367] false H H1 → ∀ (x6 : Int) (x7 : Int) , (-2147483648 ≤ x6 ∧ x6 ≤ 2147483647) → (-2147483648 ≤ x7 ∧ x7 ≤ 2147483647) → (0 ≤ x7 ∧ x7 ≤ 60) → (((100000 - x7).toNat) < w) → hG (zs zK) d mt_96 33 [(0, .inr (.inr 366)), (1, .inr (.inr t)), (2, .inr (.inl f)), (4, .inr (.inr u)), (5, .inl a), (6, .inl x6), (7, .inl x7)] [] H1 (fun r9 H9 => ∃ z : Int, r9 = some (.inl z) ∧ ((0 ≤ z ∧ z ≤ 1)) ∧ Inv H9 ∧ fq [] [367] false H H9)) ∧ (∀ (H1 : hp), Inv H1 → fq [] [367] false H H1 → ∀ (x6 : Int) (x7 : Int) (x8 : Int) , (-2147483648 ≤ x6 ∧ x6 ≤ 2147483647) → (-2147483648 ≤ x7 ∧ x7 ≤ 2147483647) → (-2147483648 ≤ x8 ∧ x8 ≤ 2147483647) → (0 ≤ x8) → (((1000 - x8).toNat) < w) → hG (zs zK) d mt_96 64 [(0, .inr (.inr 366)), (1, .inr (.inr t)), (2, .inr (.inl f)), (4, .inr (.inr u)), (5, .inl a), (6, .inl x6), (7, .inl x7), (8, .inl x8)] [] H1 (fun r9 H9 => ∃ z : Int, r9 = some (.inl z) ∧ ((0 ≤ z ∧ z ≤ 1)) ∧ Inv H9 ∧ fq [] [367] false H H9)) := by
  intro w
  induction w with
  | zero => exact ⟨fun _ _ _ _ _ _ _ _ h => absurd h (Nat.not_lt_zero _), fun _ _ _ _ _ _ _ _ _ _ h => absurd h (Nat.not_lt_zero _)⟩
  | succ w ih =>
    refine ⟨?_, ?_⟩
    · intro H1 hI1 hf1 x6 x7 hx6 hx7 hi0 hw
      have htb := ht.2.2.2.2
      have hub := hu.2.2.2.2
      refine k_run 3 (pc' := 39) (l' := [(0, .inr (.inr 366)), (1, .inr (.inr t)), (2, .inr (.inl f)), (4, .inr (.inr u)), (5, .inl a), (6, .inl x6), (7, .inl x7)]) (st' := [.inr (.inr 367), .inl x7]) rfl ?_
      refine k_alen (c := 367) (x := kx_367) rfl rfl (by decide) rfl ?_
      refine k_run 0 (pc' := 40) (l' := [(0, .inr (.inr 366)), (1, .inr (.inr t)), (2, .inr (.inl f)), (4, .inr (.inr u)), (5, .inl a), (6, .inl x6), (7, .inl x7)]) (st' := [.inl 60, .inl x7]) rfl ?_
      refine h_ige (off := 17) (t := 57) rfl rfl (by omega) (by decide) (fun c18 => ?_) (fun c18 => ?_)
      · refine k_run 0 (pc' := 57) (l' := [(0, .inr (.inr 366)), (1, .inr (.inr t)), (2, .inr (.inl f)), (4, .inr (.inr u)), (5, .inl a), (6, .inl x6), (7, .inl x7)]) (st' := []) rfl ?_
        refine k_run 4 (pc' := 64) (l' := [(0, .inr (.inr 366)), (1, .inr (.inr t)), (2, .inr (.inl f)), (4, .inr (.inr u)), (5, .inl a), (6, .inl x6), (7, .inl a), (8, .inl 0)]) (st' := []) rfl ?_
        exact ih.2 H1 hI1 hf1 x6 a (0 : Int) (by omega) (by omega) (by decide) (by omega) (by omega)
      · refine k_run 0 (pc' := 43) (l' := [(0, .inr (.inr 366)), (1, .inr (.inr t)), (2, .inr (.inl f)), (4, .inr (.inr u)), (5, .inl a), (6, .inl x6), (7, .inl x7)]) (st' := []) rfl ?_
        refine k_run 4 (pc' := 50) (l' := [(0, .inr (.inr 366)), (1, .inr (.inr t)), (2, .inr (.inl f)), (4, .inr (.inr u)), (5, .inl a), (6, .inl x6), (7, .inl x7)]) (st' := [.inl (-1), .inl x7, .inr (.inr 367)]) rfl ?_
        refine k_istw (c := 367) (j := (x7).toNat) (i := x7) (x := kx_367) rfl rfl (by decide) (by decide) rfl (by decide) (by omega) (by omega) hI1 rfl (fun H19 hI20 hw21 => ?_)
        have hf23 : fq [] [367] false H H19 := fq_w hf1 hw21 (fpa (by decide) rfl)
        refine k_run 0 (pc' := 51) (l' := [(0, .inr (.inr 366)), (1, .inr (.inr t)), (2, .inr (.inl f)), (4, .inr (.inr u)), (5, .inl a), (6, .inl x6), (7, .inl x7)]) (st' := []) rfl ?_
        refine k_run 2 (pc' := 33) (l' := [(0, .inr (.inr 366)), (1, .inr (.inr t)), (2, .inr (.inl f)), (4, .inr (.inr u)), (5, .inl a), (6, .inl x6), (7, .inl (x7 + 1))]) (st' := []) rfl ?_
        exact ih.1 H19 hI20 hf23 x6 (x7 + 1) (by omega) (by omega) (by omega) (by omega)
    · intro H1 hI1 hf1 x6 x7 x8 hx6 hx7 hx8 hi0 hw
      have htb := ht.2.2.2.2
      have hub := hu.2.2.2.2
      refine k_run 2 (pc' := 67) (l' := [(0, .inr (.inr 366)), (1, .inr (.inr t)), (2, .inr (.inl f)), (4, .inr (.inr u)), (5, .inl a), (6, .inl x6), (7, .inl x7), (8, .inl x8)]) (st' := [.inr (.inr t), .inl x8]) rfl ?_
      refine k_get (a := t) (x := (kTo t n)) (v := .inl (H1.1 t 1)) rfl rfl ht.1 (iT0 ht) rfl rfl rfl ?_
      have g24 : 0 ≤ (H1.1 t 1) ∧ (H1.1 t 1) ≤ n := kn hI1 ht.1 1
      refine k_run 0 (pc' := 70) (l' := [(0, .inr (.inr 366)), (1, .inr (.inr t)), (2, .inr (.inl f)), (4, .inr (.inr u)), (5, .inl a), (6, .inl x6), (7, .inl x7), (8, .inl x8)]) (st' := [.inl (H1.1 t 1), .inl x8]) rfl ?_
      refine h_ige (off := 138) (t := 208) rfl rfl (by omega) (by omega) (fun c25 => ?_) (fun c25 => ?_)
      · refine k_run 0 (pc' := 208) (l' := [(0, .inr (.inr 366)), (1, .inr (.inr t)), (2, .inr (.inl f)), (4, .inr (.inr u)), (5, .inl a), (6, .inl x6), (7, .inl x7), (8, .inl x8)]) (st' := []) rfl ?_
        refine k_run 1 (pc' := 209) (l' := [(0, .inr (.inr 366)), (1, .inr (.inr t)), (2, .inr (.inl f)), (4, .inr (.inr u)), (5, .inl a), (6, .inl x6), (7, .inl x7), (8, .inl x8)]) (st' := [.inl 1]) rfl ?_
        refine h_retz (x := 1) rfl rfl (by decide) ?_
        exact ⟨_, rfl, (by omega), hI1, hf1⟩
      · refine k_run 0 (pc' := 73) (l' := [(0, .inr (.inr 366)), (1, .inr (.inr t)), (2, .inr (.inl f)), (4, .inr (.inr u)), (5, .inl a), (6, .inl x6), (7, .inl x7), (8, .inl x8)]) (st' := []) rfl ?_
        refine k_run 1 (pc' := 74) (l' := [(0, .inr (.inr 366)), (1, .inr (.inr t)), (2, .inr (.inl f)), (4, .inr (.inr u)), (5, .inl a), (6, .inl x6), (7, .inl x7), (8, .inl x8)]) (st' := [.inr (.inr t)]) rfl ?_
        refine k_get (a := t) (x := (kTo t n)) (v := .inr (.inr (t + 1))) rfl rfl ht.1 (iT0 ht) rfl rfl rfl ?_
        refine k_run 0 (pc' := 77) (l' := [(0, .inr (.inr 366)), (1, .inr (.inr t)), (2, .inr (.inl f)), (4, .inr (.inr u)), (5, .inl a), (6, .inl x6), (7, .inl x7), (8, .inl x8)]) (st' := [.inr (.inr (t + 1))]) rfl ?_
        refine k_run 1 (pc' := 79) (l' := [(0, .inr (.inr 366)), (1, .inr (.inr t)), (2, .inr (.inl f)), (4, .inr (.inr u)), (5, .inl a), (6, .inl x6), (7, .inl x7), (8, .inl x8)]) (st' := [.inl x8, .inr (.inr (t + 1))]) rfl ?_
        refine k_ild (c := (t + 1)) (j := (x8).toNat) (i := x8) (x := (kTc n)) rfl ht.2.1 (iT1 ht) rfl (by omega) (by omega) (by omega) ?_
        have g26 : -2147483648 ≤ (H1.1 (t + 1) (x8).toNat) ∧ (H1.1 (t + 1) (x8).toNat) ≤ 2147483647 := kn hI1 ht.2.1 (x8).toNat
        refine k_run 0 (pc' := 80) (l' := [(0, .inr (.inr 366)), (1, .inr (.inr t)), (2, .inr (.inl f)), (4, .inr (.inr u)), (5, .inl a), (6, .inl x6), (7, .inl x7), (8, .inl x8)]) (st' := [.inl (H1.1 (t + 1) (x8).toNat)]) rfl ?_
        refine k_run 2 (pc' := 84) (l' := [(0, .inr (.inr 366)), (1, .inr (.inr t)), (2, .inr (.inl f)), (4, .inr (.inr u)), (5, .inl a), (6, .inl x6), (7, .inl x7), (8, .inl x8), (9, .inl (H1.1 (t + 1) (x8).toNat))]) (st' := [.inl (H1.1 (t + 1) (x8).toNat)]) rfl ?_
        refine h_cs (i := 48) (j := 50) (M' := mt_50) (xs := [.inl (H1.1 (t + 1) (x8).toNat)]) (rest := []) rfl rfl rfl rfl rfl (Nat.le_of_ble_eq_true rfl) (Nat.le_of_ble_eq_true rfl) (by omega) (k_Term_indexOf (by omega)  (by omega)) ?_
        rintro _ _ ⟨z31, rfl, g27, rfl⟩
        refine k_run 0 (pc' := 87) (l' := [(0, .inr (.inr 366)), (1, .inr (.inr t)), (2, .inr (.inl f)), (4, .inr (.inr u)), (5, .inl a), (6, .inl x6), (7, .inl x7), (8, .inl x8), (9, .inl (H1.1 (t + 1) (x8).toNat))]) (st' := [.inl z31]) rfl ?_
        refine k_run 2 (pc' := 91) (l' := [(0, .inr (.inr 366)), (1, .inr (.inr t)), (2, .inr (.inl f)), (4, .inr (.inr u)), (5, .inl a), (6, .inl x6), (7, .inl x7), (8, .inl x8), (9, .inl (H1.1 (t + 1) (x8).toNat)), (10, .inl z31)]) (st' := [.inl (H1.1 (t + 1) (x8).toNat)]) rfl ?_
        refine h_cs (i := 45) (j := 49) (M' := mt_49) (xs := [.inl (H1.1 (t + 1) (x8).toNat)]) (rest := []) rfl rfl rfl rfl rfl (Nat.le_of_ble_eq_true rfl) (Nat.le_of_ble_eq_true rfl) (by omega) (k_Term_kindOf (by omega)  (by omega)) ?_
        rintro _ _ ⟨z36, rfl, g32, rfl⟩
        refine k_run 0 (pc' := 94) (l' := [(0, .inr (.inr 366)), (1, .inr (.inr t)), (2, .inr (.inl f)), (4, .inr (.inr u)), (5, .inl a), (6, .inl x6), (7, .inl x7), (8, .inl x8), (9, .inl (H1.1 (t + 1) (x8).toNat)), (10, .inl z31)]) (st' := [.inl z36]) rfl ?_
        refine k_run 1 (pc' := 95) (l' := [(0, .inr (.inr 366)), (1, .inr (.inr t)), (2, .inr (.inl f)), (4, .inr (.inr u)), (5, .inl a), (6, .inl x6), (7, .inl x7), (8, .inl x8), (9, .inl (H1.1 (t + 1) (x8).toNat)), (10, .inl z31)]) (st' := [.inl 3, .inl z36]) rfl ?_
        refine h_ine (off := 77) (t := 172) rfl rfl (by omega) (by decide) (fun c37 => ?_) (fun c37 => ?_)
        · refine k_run 0 (pc' := 172) (l' := [(0, .inr (.inr 366)), (1, .inr (.inr t)), (2, .inr (.inl f)), (4, .inr (.inr u)), (5, .inl a), (6, .inl x6), (7, .inl x7), (8, .inl x8), (9, .inl (H1.1 (t + 1) (x8).toNat)), (10, .inl z31)]) (st' := []) rfl ?_
          refine k_run 2 (pc' := 176) (l' := [(0, .inr (.inr 366)), (1, .inr (.inr t)), (2, .inr (.inl f)), (4, .inr (.inr u)), (5, .inl a), (6, .inl x6), (7, .inl x7), (8, .inl x8), (9, .inl (H1.1 (t + 1) (x8).toNat)), (10, .inl z31)]) (st' := [.inr (.inr u), .inl x7]) rfl ?_
          refine k_get (a := u) (x := (kTo u m)) (v := .inl (H1.1 u 1)) rfl rfl hu.1 (iT0 hu) rfl rfl rfl ?_
          have g38 : 0 ≤ (H1.1 u 1) ∧ (H1.1 u 1) ≤ m := kn hI1 hu.1 1
          refine k_run 0 (pc' := 179) (l' := [(0, .inr (.inr 366)), (1, .inr (.inr t)), (2, .inr (.inl f)), (4, .inr (.inr u)), (5, .inl a), (6, .inl x6), (7, .inl x7), (8, .inl x8), (9, .inl (H1.1 (t + 1) (x8).toNat)), (10, .inl z31)]) (st' := [.inl (H1.1 u 1), .inl x7]) rfl ?_
          refine h_ige (off := 21) (t := 200) rfl rfl (by omega) (by omega) (fun c39 => ?_) (fun c39 => ?_)
          · refine k_run 0 (pc' := 200) (l' := [(0, .inr (.inr 366)), (1, .inr (.inr t)), (2, .inr (.inl f)), (4, .inr (.inr u)), (5, .inl a), (6, .inl x6), (7, .inl x7), (8, .inl x8), (9, .inl (H1.1 (t + 1) (x8).toNat)), (10, .inl z31)]) (st' := []) rfl ?_
            refine k_run 1 (pc' := 201) (l' := [(0, .inr (.inr 366)), (1, .inr (.inr t)), (2, .inr (.inl f)), (4, .inr (.inr u)), (5, .inl a), (6, .inl x6), (7, .inl x7), (8, .inl x8), (9, .inl (H1.1 (t + 1) (x8).toNat)), (10, .inl z31)]) (st' := [.inl 0]) rfl ?_
            refine h_retz (x := 0) rfl rfl (by decide) ?_
            exact ⟨_, rfl, (by omega), hI1, hf1⟩
          · refine k_run 0 (pc' := 182) (l' := [(0, .inr (.inr 366)), (1, .inr (.inr t)), (2, .inr (.inl f)), (4, .inr (.inr u)), (5, .inl a), (6, .inl x6), (7, .inl x7), (8, .inl x8), (9, .inl (H1.1 (t + 1) (x8).toNat)), (10, .inl z31)]) (st' := []) rfl ?_
            refine k_run 2 (pc' := 186) (l' := [(0, .inr (.inr 366)), (1, .inr (.inr t)), (2, .inr (.inl f)), (4, .inr (.inr u)), (5, .inl a), (6, .inl x6), (7, .inl x7), (8, .inl x8), (9, .inl (H1.1 (t + 1) (x8).toNat)), (10, .inl z31)]) (st' := [.inl x7, .inr (.inr u)]) rfl ?_
            refine h_cv (i := 41) (j := 51) (b := u) (M' := mt_51) (xs := [.inl x7]) (rest := []) rfl rfl rfl rfl (by rw [zs_K hu.1 (iT0 hu)]; rfl) rfl (Nat.le_of_ble_eq_true rfl) (Nat.le_of_ble_eq_true rfl) (by omega) (k_Term_codeAt (by omega) hI1 hu (by omega)) ?_
            rintro _ _ ⟨z44, rfl, g40, rfl⟩
            refine k_run 0 (pc' := 189) (l' := [(0, .inr (.inr 366)), (1, .inr (.inr t)), (2, .inr (.inl f)), (4, .inr (.inr u)), (5, .inl a), (6, .inl x6), (7, .inl x7), (8, .inl x8), (9, .inl (H1.1 (t + 1) (x8).toNat)), (10, .inl z31)]) (st' := [.inl z44]) rfl ?_
            refine k_run 1 (pc' := 191) (l' := [(0, .inr (.inr 366)), (1, .inr (.inr t)), (2, .inr (.inl f)), (4, .inr (.inr u)), (5, .inl a), (6, .inl x6), (7, .inl x7), (8, .inl x8), (9, .inl (H1.1 (t + 1) (x8).toNat)), (10, .inl z31)]) (st' := [.inl (H1.1 (t + 1) (x8).toNat), .inl z44]) rfl ?_
            refine h_ine (off := 9) (t := 200) rfl rfl (by omega) (by omega) (fun c45 => ?_) (fun c45 => ?_)
            · refine k_run 0 (pc' := 200) (l' := [(0, .inr (.inr 366)), (1, .inr (.inr t)), (2, .inr (.inl f)), (4, .inr (.inr u)), (5, .inl a), (6, .inl x6), (7, .inl x7), (8, .inl x8), (9, .inl (H1.1 (t + 1) (x8).toNat)), (10, .inl z31)]) (st' := []) rfl ?_
              refine k_run 1 (pc' := 201) (l' := [(0, .inr (.inr 366)), (1, .inr (.inr t)), (2, .inr (.inl f)), (4, .inr (.inr u)), (5, .inl a), (6, .inl x6), (7, .inl x7), (8, .inl x8), (9, .inl (H1.1 (t + 1) (x8).toNat)), (10, .inl z31)]) (st' := [.inl 0]) rfl ?_
              refine h_retz (x := 0) rfl rfl (by decide) ?_
              exact ⟨_, rfl, (by omega), hI1, hf1⟩
            · refine k_run 0 (pc' := 194) (l' := [(0, .inr (.inr 366)), (1, .inr (.inr t)), (2, .inr (.inl f)), (4, .inr (.inr u)), (5, .inl a), (6, .inl x6), (7, .inl x7), (8, .inl x8), (9, .inl (H1.1 (t + 1) (x8).toNat)), (10, .inl z31)]) (st' := []) rfl ?_
              refine k_run 4 (pc' := 64) (l' := [(0, .inr (.inr 366)), (1, .inr (.inr t)), (2, .inr (.inl f)), (4, .inr (.inr u)), (5, .inl a), (6, .inl x6), (7, .inl (x7 + 1)), (8, .inl (x8 + 1)), (9, .inl (H1.1 (t + 1) (x8).toNat)), (10, .inl z31)]) (st' := []) rfl ?_
              refine h_loc [0, 1, 2, 4, 5, 6, 7, 8] rfl ?_
              exact ih.2 H1 hI1 hf1 x6 (x7 + 1) (x8 + 1) (by omega) (by omega) (by omega) (by omega) (by omega)
        · refine k_run 0 (pc' := 98) (l' := [(0, .inr (.inr 366)), (1, .inr (.inr t)), (2, .inr (.inl f)), (4, .inr (.inr u)), (5, .inl a), (6, .inl x6), (7, .inl x7), (8, .inl x8), (9, .inl (H1.1 (t + 1) (x8).toNat)), (10, .inl z31)]) (st' := []) rfl ?_
          refine k_run 3 (pc' := 104) (l' := [(0, .inr (.inr 366)), (1, .inr (.inr t)), (2, .inr (.inl f)), (4, .inr (.inr u)), (5, .inl a), (6, .inl x6), (7, .inl x7), (8, .inl x8), (9, .inl (H1.1 (t + 1) (x8).toNat)), (10, .inl z31)]) (st' := [.inr (.inr 367), .inl z31]) rfl ?_
          refine k_alen (c := 367) (x := kx_367) rfl rfl (by decide) rfl ?_
          refine k_run 0 (pc' := 105) (l' := [(0, .inr (.inr 366)), (1, .inr (.inr t)), (2, .inr (.inl f)), (4, .inr (.inr u)), (5, .inl a), (6, .inl x6), (7, .inl x7), (8, .inl x8), (9, .inl (H1.1 (t + 1) (x8).toNat)), (10, .inl z31)]) (st' := [.inl 60, .inl z31]) rfl ?_
          refine h_ige (off := 67) (t := 172) rfl rfl (by omega) (by decide) (fun c46 => ?_) (fun c46 => ?_)
          · refine k_run 0 (pc' := 172) (l' := [(0, .inr (.inr 366)), (1, .inr (.inr t)), (2, .inr (.inl f)), (4, .inr (.inr u)), (5, .inl a), (6, .inl x6), (7, .inl x7), (8, .inl x8), (9, .inl (H1.1 (t + 1) (x8).toNat)), (10, .inl z31)]) (st' := []) rfl ?_
            refine k_run 2 (pc' := 176) (l' := [(0, .inr (.inr 366)), (1, .inr (.inr t)), (2, .inr (.inl f)), (4, .inr (.inr u)), (5, .inl a), (6, .inl x6), (7, .inl x7), (8, .inl x8), (9, .inl (H1.1 (t + 1) (x8).toNat)), (10, .inl z31)]) (st' := [.inr (.inr u), .inl x7]) rfl ?_
            refine k_get (a := u) (x := (kTo u m)) (v := .inl (H1.1 u 1)) rfl rfl hu.1 (iT0 hu) rfl rfl rfl ?_
            have g47 : 0 ≤ (H1.1 u 1) ∧ (H1.1 u 1) ≤ m := kn hI1 hu.1 1
            refine k_run 0 (pc' := 179) (l' := [(0, .inr (.inr 366)), (1, .inr (.inr t)), (2, .inr (.inl f)), (4, .inr (.inr u)), (5, .inl a), (6, .inl x6), (7, .inl x7), (8, .inl x8), (9, .inl (H1.1 (t + 1) (x8).toNat)), (10, .inl z31)]) (st' := [.inl (H1.1 u 1), .inl x7]) rfl ?_
            refine h_ige (off := 21) (t := 200) rfl rfl (by omega) (by omega) (fun c48 => ?_) (fun c48 => ?_)
            · refine k_run 0 (pc' := 200) (l' := [(0, .inr (.inr 366)), (1, .inr (.inr t)), (2, .inr (.inl f)), (4, .inr (.inr u)), (5, .inl a), (6, .inl x6), (7, .inl x7), (8, .inl x8), (9, .inl (H1.1 (t + 1) (x8).toNat)), (10, .inl z31)]) (st' := []) rfl ?_
              refine k_run 1 (pc' := 201) (l' := [(0, .inr (.inr 366)), (1, .inr (.inr t)), (2, .inr (.inl f)), (4, .inr (.inr u)), (5, .inl a), (6, .inl x6), (7, .inl x7), (8, .inl x8), (9, .inl (H1.1 (t + 1) (x8).toNat)), (10, .inl z31)]) (st' := [.inl 0]) rfl ?_
              refine h_retz (x := 0) rfl rfl (by decide) ?_
              exact ⟨_, rfl, (by omega), hI1, hf1⟩
            · refine k_run 0 (pc' := 182) (l' := [(0, .inr (.inr 366)), (1, .inr (.inr t)), (2, .inr (.inl f)), (4, .inr (.inr u)), (5, .inl a), (6, .inl x6), (7, .inl x7), (8, .inl x8), (9, .inl (H1.1 (t + 1) (x8).toNat)), (10, .inl z31)]) (st' := []) rfl ?_
              refine k_run 2 (pc' := 186) (l' := [(0, .inr (.inr 366)), (1, .inr (.inr t)), (2, .inr (.inl f)), (4, .inr (.inr u)), (5, .inl a), (6, .inl x6), (7, .inl x7), (8, .inl x8), (9, .inl (H1.1 (t + 1) (x8).toNat)), (10, .inl z31)]) (st' := [.inl x7, .inr (.inr u)]) rfl ?_
              refine h_cv (i := 41) (j := 51) (b := u) (M' := mt_51) (xs := [.inl x7]) (rest := []) rfl rfl rfl rfl (by rw [zs_K hu.1 (iT0 hu)]; rfl) rfl (Nat.le_of_ble_eq_true rfl) (Nat.le_of_ble_eq_true rfl) (by omega) (k_Term_codeAt (by omega) hI1 hu (by omega)) ?_
              rintro _ _ ⟨z53, rfl, g49, rfl⟩
              refine k_run 0 (pc' := 189) (l' := [(0, .inr (.inr 366)), (1, .inr (.inr t)), (2, .inr (.inl f)), (4, .inr (.inr u)), (5, .inl a), (6, .inl x6), (7, .inl x7), (8, .inl x8), (9, .inl (H1.1 (t + 1) (x8).toNat)), (10, .inl z31)]) (st' := [.inl z53]) rfl ?_
              refine k_run 1 (pc' := 191) (l' := [(0, .inr (.inr 366)), (1, .inr (.inr t)), (2, .inr (.inl f)), (4, .inr (.inr u)), (5, .inl a), (6, .inl x6), (7, .inl x7), (8, .inl x8), (9, .inl (H1.1 (t + 1) (x8).toNat)), (10, .inl z31)]) (st' := [.inl (H1.1 (t + 1) (x8).toNat), .inl z53]) rfl ?_
              refine h_ine (off := 9) (t := 200) rfl rfl (by omega) (by omega) (fun c54 => ?_) (fun c54 => ?_)
              · refine k_run 0 (pc' := 200) (l' := [(0, .inr (.inr 366)), (1, .inr (.inr t)), (2, .inr (.inl f)), (4, .inr (.inr u)), (5, .inl a), (6, .inl x6), (7, .inl x7), (8, .inl x8), (9, .inl (H1.1 (t + 1) (x8).toNat)), (10, .inl z31)]) (st' := []) rfl ?_
                refine k_run 1 (pc' := 201) (l' := [(0, .inr (.inr 366)), (1, .inr (.inr t)), (2, .inr (.inl f)), (4, .inr (.inr u)), (5, .inl a), (6, .inl x6), (7, .inl x7), (8, .inl x8), (9, .inl (H1.1 (t + 1) (x8).toNat)), (10, .inl z31)]) (st' := [.inl 0]) rfl ?_
                refine h_retz (x := 0) rfl rfl (by decide) ?_
                exact ⟨_, rfl, (by omega), hI1, hf1⟩
              · refine k_run 0 (pc' := 194) (l' := [(0, .inr (.inr 366)), (1, .inr (.inr t)), (2, .inr (.inl f)), (4, .inr (.inr u)), (5, .inl a), (6, .inl x6), (7, .inl x7), (8, .inl x8), (9, .inl (H1.1 (t + 1) (x8).toNat)), (10, .inl z31)]) (st' := []) rfl ?_
                refine k_run 4 (pc' := 64) (l' := [(0, .inr (.inr 366)), (1, .inr (.inr t)), (2, .inr (.inl f)), (4, .inr (.inr u)), (5, .inl a), (6, .inl x6), (7, .inl (x7 + 1)), (8, .inl (x8 + 1)), (9, .inl (H1.1 (t + 1) (x8).toNat)), (10, .inl z31)]) (st' := []) rfl ?_
                refine h_loc [0, 1, 2, 4, 5, 6, 7, 8] rfl ?_
                exact ih.2 H1 hI1 hf1 x6 (x7 + 1) (x8 + 1) (by omega) (by omega) (by omega) (by omega) (by omega)
          · refine k_run 0 (pc' := 108) (l' := [(0, .inr (.inr 366)), (1, .inr (.inr t)), (2, .inr (.inl f)), (4, .inr (.inr u)), (5, .inl a), (6, .inl x6), (7, .inl x7), (8, .inl x8), (9, .inl (H1.1 (t + 1) (x8).toNat)), (10, .inl z31)]) (st' := []) rfl ?_
            refine k_run 3 (pc' := 112) (l' := [(0, .inr (.inr 366)), (1, .inr (.inr t)), (2, .inr (.inl f)), (4, .inr (.inr u)), (5, .inl a), (6, .inl x6), (7, .inl x7), (8, .inl x8), (9, .inl (H1.1 (t + 1) (x8).toNat)), (10, .inl z31)]) (st' := [.inr (.inl (z_lshr f z31))]) rfl ?_
            refine k_nrmj (fun y55 hy55 => ?_)
            refine k_run 2 (pc' := 114) (l' := [(0, .inr (.inr 366)), (1, .inr (.inr t)), (2, .inr (.inl f)), (4, .inr (.inr u)), (5, .inl a), (6, .inl x6), (7, .inl x7), (8, .inl x8), (9, .inl (H1.1 (t + 1) (x8).toNat)), (10, .inl z31)]) (st' := [.inr (.inl (z_land y55 1))]) rfl ?_
            refine k_nrmj (fun y56 hy56 => ?_)
            refine k_run 2 (pc' := 116) (l' := [(0, .inr (.inr 366)), (1, .inr (.inr t)), (2, .inr (.inl f)), (4, .inr (.inr u)), (5, .inl a), (6, .inl x6), (7, .inl x7), (8, .inl x8), (9, .inl (H1.1 (t + 1) (x8).toNat)), (10, .inl z31)]) (st' := [.inl (z_cmp y56 1)]) rfl ?_
            refine k_nrm (fun y57 hy57 => ?_)
            refine k_run 0 (pc' := 116) (l' := [(0, .inr (.inr 366)), (1, .inr (.inr t)), (2, .inr (.inl f)), (4, .inr (.inr u)), (5, .inl a), (6, .inl x6), (7, .inl x7), (8, .inl x8), (9, .inl (H1.1 (t + 1) (x8).toNat)), (10, .inl z31)]) (st' := [.inl y57]) rfl ?_
            refine h_zne (off := 56) (t := 172) rfl rfl (by omega) (fun c58 => ?_) (fun c58 => ?_)
            · refine k_run 0 (pc' := 172) (l' := [(0, .inr (.inr 366)), (1, .inr (.inr t)), (2, .inr (.inl f)), (4, .inr (.inr u)), (5, .inl a), (6, .inl x6), (7, .inl x7), (8, .inl x8), (9, .inl (H1.1 (t + 1) (x8).toNat)), (10, .inl z31)]) (st' := []) rfl ?_
              refine k_run 2 (pc' := 176) (l' := [(0, .inr (.inr 366)), (1, .inr (.inr t)), (2, .inr (.inl f)), (4, .inr (.inr u)), (5, .inl a), (6, .inl x6), (7, .inl x7), (8, .inl x8), (9, .inl (H1.1 (t + 1) (x8).toNat)), (10, .inl z31)]) (st' := [.inr (.inr u), .inl x7]) rfl ?_
              refine k_get (a := u) (x := (kTo u m)) (v := .inl (H1.1 u 1)) rfl rfl hu.1 (iT0 hu) rfl rfl rfl ?_
              have g59 : 0 ≤ (H1.1 u 1) ∧ (H1.1 u 1) ≤ m := kn hI1 hu.1 1
              refine k_run 0 (pc' := 179) (l' := [(0, .inr (.inr 366)), (1, .inr (.inr t)), (2, .inr (.inl f)), (4, .inr (.inr u)), (5, .inl a), (6, .inl x6), (7, .inl x7), (8, .inl x8), (9, .inl (H1.1 (t + 1) (x8).toNat)), (10, .inl z31)]) (st' := [.inl (H1.1 u 1), .inl x7]) rfl ?_
              refine h_ige (off := 21) (t := 200) rfl rfl (by omega) (by omega) (fun c60 => ?_) (fun c60 => ?_)
              · refine k_run 0 (pc' := 200) (l' := [(0, .inr (.inr 366)), (1, .inr (.inr t)), (2, .inr (.inl f)), (4, .inr (.inr u)), (5, .inl a), (6, .inl x6), (7, .inl x7), (8, .inl x8), (9, .inl (H1.1 (t + 1) (x8).toNat)), (10, .inl z31)]) (st' := []) rfl ?_
                refine k_run 1 (pc' := 201) (l' := [(0, .inr (.inr 366)), (1, .inr (.inr t)), (2, .inr (.inl f)), (4, .inr (.inr u)), (5, .inl a), (6, .inl x6), (7, .inl x7), (8, .inl x8), (9, .inl (H1.1 (t + 1) (x8).toNat)), (10, .inl z31)]) (st' := [.inl 0]) rfl ?_
                refine h_retz (x := 0) rfl rfl (by decide) ?_
                exact ⟨_, rfl, (by omega), hI1, hf1⟩
              · refine k_run 0 (pc' := 182) (l' := [(0, .inr (.inr 366)), (1, .inr (.inr t)), (2, .inr (.inl f)), (4, .inr (.inr u)), (5, .inl a), (6, .inl x6), (7, .inl x7), (8, .inl x8), (9, .inl (H1.1 (t + 1) (x8).toNat)), (10, .inl z31)]) (st' := []) rfl ?_
                refine k_run 2 (pc' := 186) (l' := [(0, .inr (.inr 366)), (1, .inr (.inr t)), (2, .inr (.inl f)), (4, .inr (.inr u)), (5, .inl a), (6, .inl x6), (7, .inl x7), (8, .inl x8), (9, .inl (H1.1 (t + 1) (x8).toNat)), (10, .inl z31)]) (st' := [.inl x7, .inr (.inr u)]) rfl ?_
                refine h_cv (i := 41) (j := 51) (b := u) (M' := mt_51) (xs := [.inl x7]) (rest := []) rfl rfl rfl rfl (by rw [zs_K hu.1 (iT0 hu)]; rfl) rfl (Nat.le_of_ble_eq_true rfl) (Nat.le_of_ble_eq_true rfl) (by omega) (k_Term_codeAt (by omega) hI1 hu (by omega)) ?_
                rintro _ _ ⟨z65, rfl, g61, rfl⟩
                refine k_run 0 (pc' := 189) (l' := [(0, .inr (.inr 366)), (1, .inr (.inr t)), (2, .inr (.inl f)), (4, .inr (.inr u)), (5, .inl a), (6, .inl x6), (7, .inl x7), (8, .inl x8), (9, .inl (H1.1 (t + 1) (x8).toNat)), (10, .inl z31)]) (st' := [.inl z65]) rfl ?_
                refine k_run 1 (pc' := 191) (l' := [(0, .inr (.inr 366)), (1, .inr (.inr t)), (2, .inr (.inl f)), (4, .inr (.inr u)), (5, .inl a), (6, .inl x6), (7, .inl x7), (8, .inl x8), (9, .inl (H1.1 (t + 1) (x8).toNat)), (10, .inl z31)]) (st' := [.inl (H1.1 (t + 1) (x8).toNat), .inl z65]) rfl ?_
                refine h_ine (off := 9) (t := 200) rfl rfl (by omega) (by omega) (fun c66 => ?_) (fun c66 => ?_)
                · refine k_run 0 (pc' := 200) (l' := [(0, .inr (.inr 366)), (1, .inr (.inr t)), (2, .inr (.inl f)), (4, .inr (.inr u)), (5, .inl a), (6, .inl x6), (7, .inl x7), (8, .inl x8), (9, .inl (H1.1 (t + 1) (x8).toNat)), (10, .inl z31)]) (st' := []) rfl ?_
                  refine k_run 1 (pc' := 201) (l' := [(0, .inr (.inr 366)), (1, .inr (.inr t)), (2, .inr (.inl f)), (4, .inr (.inr u)), (5, .inl a), (6, .inl x6), (7, .inl x7), (8, .inl x8), (9, .inl (H1.1 (t + 1) (x8).toNat)), (10, .inl z31)]) (st' := [.inl 0]) rfl ?_
                  refine h_retz (x := 0) rfl rfl (by decide) ?_
                  exact ⟨_, rfl, (by omega), hI1, hf1⟩
                · refine k_run 0 (pc' := 194) (l' := [(0, .inr (.inr 366)), (1, .inr (.inr t)), (2, .inr (.inl f)), (4, .inr (.inr u)), (5, .inl a), (6, .inl x6), (7, .inl x7), (8, .inl x8), (9, .inl (H1.1 (t + 1) (x8).toNat)), (10, .inl z31)]) (st' := []) rfl ?_
                  refine k_run 4 (pc' := 64) (l' := [(0, .inr (.inr 366)), (1, .inr (.inr t)), (2, .inr (.inl f)), (4, .inr (.inr u)), (5, .inl a), (6, .inl x6), (7, .inl (x7 + 1)), (8, .inl (x8 + 1)), (9, .inl (H1.1 (t + 1) (x8).toNat)), (10, .inl z31)]) (st' := []) rfl ?_
                  refine h_loc [0, 1, 2, 4, 5, 6, 7, 8] rfl ?_
                  exact ih.2 H1 hI1 hf1 x6 (x7 + 1) (x8 + 1) (by omega) (by omega) (by omega) (by omega) (by omega)
            · refine k_run 0 (pc' := 119) (l' := [(0, .inr (.inr 366)), (1, .inr (.inr t)), (2, .inr (.inl f)), (4, .inr (.inr u)), (5, .inl a), (6, .inl x6), (7, .inl x7), (8, .inl x8), (9, .inl (H1.1 (t + 1) (x8).toNat)), (10, .inl z31)]) (st' := []) rfl ?_
              refine k_run 3 (pc' := 125) (l' := [(0, .inr (.inr 366)), (1, .inr (.inr t)), (2, .inr (.inl f)), (4, .inr (.inr u)), (5, .inl a), (6, .inl x6), (7, .inl x7), (8, .inl x8), (9, .inl (H1.1 (t + 1) (x8).toNat)), (10, .inl z31)]) (st' := [.inl z31, .inr (.inr 367)]) rfl ?_
              refine k_ild (c := 367) (j := (z31).toNat) (i := z31) (x := kx_367) rfl rfl (by decide) rfl (by decide) (by omega) (by omega) ?_
              have g67 : -2147483648 ≤ (H1.1 367 (z31).toNat) ∧ (H1.1 367 (z31).toNat) ≤ 2147483647 := kn (x := kx_367) hI1 rfl (z31).toNat
              refine k_run 0 (pc' := 126) (l' := [(0, .inr (.inr 366)), (1, .inr (.inr t)), (2, .inr (.inl f)), (4, .inr (.inr u)), (5, .inl a), (6, .inl x6), (7, .inl x7), (8, .inl x8), (9, .inl (H1.1 (t + 1) (x8).toNat)), (10, .inl z31)]) (st' := [.inl (H1.1 367 (z31).toNat)]) rfl ?_
              refine h_zge (off := 15) (t := 141) rfl rfl (by omega) (fun c68 => ?_) (fun c68 => ?_)
              · refine k_run 0 (pc' := 141) (l' := [(0, .inr (.inr 366)), (1, .inr (.inr t)), (2, .inr (.inl f)), (4, .inr (.inr u)), (5, .inl a), (6, .inl x6), (7, .inl x7), (8, .inl x8), (9, .inl (H1.1 (t + 1) (x8).toNat)), (10, .inl z31)]) (st' := []) rfl ?_
                refine k_run 4 (pc' := 149) (l' := [(0, .inr (.inr 366)), (1, .inr (.inr t)), (2, .inr (.inl f)), (4, .inr (.inr u)), (5, .inl a), (6, .inl x6), (7, .inl x7), (8, .inl x8), (9, .inl (H1.1 (t + 1) (x8).toNat)), (10, .inl z31)]) (st' := [.inl z31, .inr (.inr 367), .inr (.inr u)]) rfl ?_
                refine k_ild (c := 367) (j := (z31).toNat) (i := z31) (x := kx_367) rfl rfl (by decide) rfl (by decide) (by omega) (by omega) ?_
                refine k_run 0 (pc' := 150) (l' := [(0, .inr (.inr 366)), (1, .inr (.inr t)), (2, .inr (.inl f)), (4, .inr (.inr u)), (5, .inl a), (6, .inl x6), (7, .inl x7), (8, .inl x8), (9, .inl (H1.1 (t + 1) (x8).toNat)), (10, .inl z31)]) (st' := [.inl (H1.1 367 (z31).toNat), .inr (.inr u)]) rfl ?_
                refine k_run 1 (pc' := 152) (l' := [(0, .inr (.inr 366)), (1, .inr (.inr t)), (2, .inr (.inl f)), (4, .inr (.inr u)), (5, .inl a), (6, .inl x6), (7, .inl x7), (8, .inl x8), (9, .inl (H1.1 (t + 1) (x8).toNat)), (10, .inl z31)]) (st' := [.inl x7, .inl (H1.1 367 (z31).toNat), .inr (.inr u)]) rfl ?_
                refine h_cv (i := 81) (j := 58) (b := u) (M' := mt_58) (xs := [.inl x7, .inl (H1.1 367 (z31).toNat)]) (rest := []) rfl rfl rfl rfl (by rw [zs_K hu.1 (iT0 hu)]; rfl) rfl (Nat.le_of_ble_eq_true rfl) (Nat.le_of_ble_eq_true rfl) (by omega) (k_Term_areLike (by omega) hI1 hu (by omega) (by omega)) ?_
                rintro _ _ ⟨z73, rfl, g69, rfl⟩
                refine k_run 0 (pc' := 155) (l' := [(0, .inr (.inr 366)), (1, .inr (.inr t)), (2, .inr (.inl f)), (4, .inr (.inr u)), (5, .inl a), (6, .inl x6), (7, .inl x7), (8, .inl x8), (9, .inl (H1.1 (t + 1) (x8).toNat)), (10, .inl z31)]) (st' := [.inl z73]) rfl ?_
                refine h_zne (off := 5) (t := 160) rfl rfl (by omega) (fun c74 => ?_) (fun c74 => ?_)
                · refine k_run 0 (pc' := 160) (l' := [(0, .inr (.inr 366)), (1, .inr (.inr t)), (2, .inr (.inl f)), (4, .inr (.inr u)), (5, .inl a), (6, .inl x6), (7, .inl x7), (8, .inl x8), (9, .inl (H1.1 (t + 1) (x8).toNat)), (10, .inl z31)]) (st' := []) rfl ?_
                  refine k_run 2 (pc' := 164) (l' := [(0, .inr (.inr 366)), (1, .inr (.inr t)), (2, .inr (.inl f)), (4, .inr (.inr u)), (5, .inl a), (6, .inl x6), (7, .inl x7), (8, .inl x8), (9, .inl (H1.1 (t + 1) (x8).toNat)), (10, .inl z31)]) (st' := [.inl x7, .inr (.inr u)]) rfl ?_
                  refine h_cv (i := 75) (j := 53) (b := u) (M' := mt_53) (xs := [.inl x7]) (rest := []) rfl rfl rfl rfl (by rw [zs_K hu.1 (iT0 hu)]; rfl) rfl (Nat.le_of_ble_eq_true rfl) (Nat.le_of_ble_eq_true rfl) (by omega) (k_Term_behind (by omega) hI1 hu (by omega)) ?_
                  rintro _ _ ⟨z79, rfl, g75, rfl⟩
                  refine k_run 0 (pc' := 167) (l' := [(0, .inr (.inr 366)), (1, .inr (.inr t)), (2, .inr (.inl f)), (4, .inr (.inr u)), (5, .inl a), (6, .inl x6), (7, .inl x7), (8, .inl x8), (9, .inl (H1.1 (t + 1) (x8).toNat)), (10, .inl z31)]) (st' := [.inl z79]) rfl ?_
                  refine k_run 4 (pc' := 64) (l' := [(0, .inr (.inr 366)), (1, .inr (.inr t)), (2, .inr (.inl f)), (4, .inr (.inr u)), (5, .inl a), (6, .inl x6), (7, .inl z79), (8, .inl (x8 + 1)), (9, .inl (H1.1 (t + 1) (x8).toNat)), (10, .inl z31)]) (st' := []) rfl ?_
                  refine h_loc [0, 1, 2, 4, 5, 6, 7, 8] rfl ?_
                  exact ih.2 H1 hI1 hf1 x6 z79 (x8 + 1) (by omega) (by omega) (by omega) (by omega) (by omega)
                · refine k_run 0 (pc' := 158) (l' := [(0, .inr (.inr 366)), (1, .inr (.inr t)), (2, .inr (.inl f)), (4, .inr (.inr u)), (5, .inl a), (6, .inl x6), (7, .inl x7), (8, .inl x8), (9, .inl (H1.1 (t + 1) (x8).toNat)), (10, .inl z31)]) (st' := []) rfl ?_
                  refine k_run 1 (pc' := 159) (l' := [(0, .inr (.inr 366)), (1, .inr (.inr t)), (2, .inr (.inl f)), (4, .inr (.inr u)), (5, .inl a), (6, .inl x6), (7, .inl x7), (8, .inl x8), (9, .inl (H1.1 (t + 1) (x8).toNat)), (10, .inl z31)]) (st' := [.inl 0]) rfl ?_
                  refine h_retz (x := 0) rfl rfl (by decide) ?_
                  exact ⟨_, rfl, (by omega), hI1, hf1⟩
              · refine k_run 0 (pc' := 129) (l' := [(0, .inr (.inr 366)), (1, .inr (.inr t)), (2, .inr (.inl f)), (4, .inr (.inr u)), (5, .inl a), (6, .inl x6), (7, .inl x7), (8, .inl x8), (9, .inl (H1.1 (t + 1) (x8).toNat)), (10, .inl z31)]) (st' := []) rfl ?_
                refine k_run 4 (pc' := 137) (l' := [(0, .inr (.inr 366)), (1, .inr (.inr t)), (2, .inr (.inl f)), (4, .inr (.inr u)), (5, .inl a), (6, .inl x6), (7, .inl x7), (8, .inl x8), (9, .inl (H1.1 (t + 1) (x8).toNat)), (10, .inl z31)]) (st' := [.inl x7, .inl z31, .inr (.inr 367)]) rfl ?_
                refine k_istw (c := 367) (j := (z31).toNat) (i := z31) (x := kx_367) rfl rfl (by decide) (by decide) rfl (by decide) (by omega) (by omega) hI1 rfl (fun H80 hI81 hw82 => ?_)
                have hf84 : fq [] [367] false H H80 := fq_w hf1 hw82 (fpa (by decide) rfl)
                refine k_run 0 (pc' := 138) (l' := [(0, .inr (.inr 366)), (1, .inr (.inr t)), (2, .inr (.inl f)), (4, .inr (.inr u)), (5, .inl a), (6, .inl x6), (7, .inl x7), (8, .inl x8), (9, .inl (H1.1 (t + 1) (x8).toNat)), (10, .inl z31)]) (st' := []) rfl ?_
                refine k_run 3 (pc' := 164) (l' := [(0, .inr (.inr 366)), (1, .inr (.inr t)), (2, .inr (.inl f)), (4, .inr (.inr u)), (5, .inl a), (6, .inl x6), (7, .inl x7), (8, .inl x8), (9, .inl (H1.1 (t + 1) (x8).toNat)), (10, .inl z31)]) (st' := [.inl x7, .inr (.inr u)]) rfl ?_
                refine h_cv (i := 75) (j := 53) (b := u) (M' := mt_53) (xs := [.inl x7]) (rest := []) rfl rfl rfl rfl (by rw [zs_K hu.1 (iT0 hu)]; rfl) rfl (Nat.le_of_ble_eq_true rfl) (Nat.le_of_ble_eq_true rfl) (by omega) (k_Term_behind (by omega) hI81 hu (by omega)) ?_
                rintro _ _ ⟨z89, rfl, g85, rfl⟩
                refine k_run 0 (pc' := 167) (l' := [(0, .inr (.inr 366)), (1, .inr (.inr t)), (2, .inr (.inl f)), (4, .inr (.inr u)), (5, .inl a), (6, .inl x6), (7, .inl x7), (8, .inl x8), (9, .inl (H1.1 (t + 1) (x8).toNat)), (10, .inl z31)]) (st' := [.inl z89]) rfl ?_
                refine k_run 4 (pc' := 64) (l' := [(0, .inr (.inr 366)), (1, .inr (.inr t)), (2, .inr (.inl f)), (4, .inr (.inr u)), (5, .inl a), (6, .inl x6), (7, .inl z89), (8, .inl (x8 + 1)), (9, .inl (H1.1 (t + 1) (x8).toNat)), (10, .inl z31)]) (st' := []) rfl ?_
                refine h_loc [0, 1, 2, 4, 5, 6, 7, 8] rfl ?_
                exact ih.2 H80 hI81 hf84 x6 z89 (x8 + 1) (by omega) (by omega) (by omega) (by omega) (by omega)
set_option maxRecDepth 100000 in
theorem k_Rewriter_matchSide {d : Nat} (hd : 3 ≤ d) {H : hp} (hI : Inv H) {t n : Nat} {f : Int} {u m : Nat} {a : Int} (ht : isT t n) (hu : isT u m) (ha : -2147483648 ≤ a ∧ a ≤ 2147483647) : hG (zs zK) d mt_96 0 (zargs 0 [.inr (.inr 366), .inr (.inr t), .inr (.inl f), .inr (.inr u), .inl a]) [] H (fun r9 H9 => ∃ z : Int, r9 = some (.inl z) ∧ ((0 ≤ z ∧ z ≤ 1)) ∧ Inv H9 ∧ fq [] [367] false H H9) := by
  have htb := ht.2.2.2.2
  have hub := hu.2.2.2.2
  refine k_run 0 (pc' := 0) (l' := [(0, .inr (.inr 366)), (1, .inr (.inr t)), (2, .inr (.inl f)), (4, .inr (.inr u)), (5, .inl a)]) (st' := []) rfl ?_
  refine k_run 2 (pc' := 2) (l' := [(0, .inr (.inr 366)), (1, .inr (.inr t)), (2, .inr (.inl f)), (4, .inr (.inr u)), (5, .inl a)]) (st' := [.inl 0, .inr (.inr t)]) rfl ?_
  refine h_cv (i := 41) (j := 51) (b := t) (M' := mt_51) (xs := [.inl 0]) (rest := []) rfl rfl rfl rfl (by rw [zs_K ht.1 (iT0 ht)]; rfl) rfl (Nat.le_of_ble_eq_true rfl) (Nat.le_of_ble_eq_true rfl) (by omega) (k_Term_codeAt (by omega) hI ht (by decide)) ?_
  rintro _ _ ⟨z5, rfl, g1, rfl⟩
  refine k_run 0 (pc' := 5) (l' := [(0, .inr (.inr 366)), (1, .inr (.inr t)), (2, .inr (.inl f)), (4, .inr (.inr u)), (5, .inl a)]) (st' := [.inl z5]) rfl ?_
  refine k_run 2 (pc' := 9) (l' := [(0, .inr (.inr 366)), (1, .inr (.inr t)), (2, .inr (.inl f)), (4, .inr (.inr u)), (5, .inl a), (6, .inl z5)]) (st' := [.inl z5]) rfl ?_
  refine h_cs (i := 45) (j := 49) (M' := mt_49) (xs := [.inl z5]) (rest := []) rfl rfl rfl rfl rfl (Nat.le_of_ble_eq_true rfl) (Nat.le_of_ble_eq_true rfl) (by omega) (k_Term_kindOf (by omega)  (by omega)) ?_
  rintro _ _ ⟨z10, rfl, g6, rfl⟩
  refine k_run 0 (pc' := 12) (l' := [(0, .inr (.inr 366)), (1, .inr (.inr t)), (2, .inr (.inl f)), (4, .inr (.inr u)), (5, .inl a), (6, .inl z5)]) (st' := [.inl z10]) rfl ?_
  refine k_run 1 (pc' := 13) (l' := [(0, .inr (.inr 366)), (1, .inr (.inr t)), (2, .inr (.inl f)), (4, .inr (.inr u)), (5, .inl a), (6, .inl z5)]) (st' := [.inl 3, .inl z10]) rfl ?_
  refine h_ieq (off := 17) (t := 30) rfl rfl (by omega) (by decide) (fun c11 => ?_) (fun c11 => ?_)
  · refine k_run 0 (pc' := 30) (l' := [(0, .inr (.inr 366)), (1, .inr (.inr t)), (2, .inr (.inl f)), (4, .inr (.inr u)), (5, .inl a), (6, .inl z5)]) (st' := []) rfl ?_
    refine k_run 2 (pc' := 33) (l' := [(0, .inr (.inr 366)), (1, .inr (.inr t)), (2, .inr (.inl f)), (4, .inr (.inr u)), (5, .inl a), (6, .inl z5), (7, .inl 0)]) (st' := []) rfl ?_
    exact (k_Rewriter_matchSide_cut hd hI ht hu ha _).1 H hI (fq_rf _ _ _ _) z5 (0 : Int) (by omega) (by decide) (by omega) (Nat.lt_succ_self _)
  · refine k_run 0 (pc' := 16) (l' := [(0, .inr (.inr 366)), (1, .inr (.inr t)), (2, .inr (.inl f)), (4, .inr (.inr u)), (5, .inl a), (6, .inl z5)]) (st' := []) rfl ?_
    refine k_run 3 (pc' := 22) (l' := [(0, .inr (.inr 366)), (1, .inr (.inr t)), (2, .inr (.inl f)), (4, .inr (.inr u)), (5, .inl a), (6, .inl z5)]) (st' := [.inl a, .inr (.inr u), .inl z5]) rfl ?_
    refine h_cv (i := 41) (j := 51) (b := u) (M' := mt_51) (xs := [.inl a]) (rest := [.inl z5]) rfl rfl rfl rfl (by rw [zs_K hu.1 (iT0 hu)]; rfl) rfl (Nat.le_of_ble_eq_true rfl) (Nat.le_of_ble_eq_true rfl) (by omega) (k_Term_codeAt (by omega) hI hu (by omega)) ?_
    rintro _ _ ⟨z16, rfl, g12, rfl⟩
    refine k_run 0 (pc' := 25) (l' := [(0, .inr (.inr 366)), (1, .inr (.inr t)), (2, .inr (.inl f)), (4, .inr (.inr u)), (5, .inl a), (6, .inl z5)]) (st' := [.inl z16, .inl z5]) rfl ?_
    refine h_ieq (off := 5) (t := 30) rfl rfl (by omega) (by omega) (fun c17 => ?_) (fun c17 => ?_)
    · refine k_run 0 (pc' := 30) (l' := [(0, .inr (.inr 366)), (1, .inr (.inr t)), (2, .inr (.inl f)), (4, .inr (.inr u)), (5, .inl a), (6, .inl z5)]) (st' := []) rfl ?_
      refine k_run 2 (pc' := 33) (l' := [(0, .inr (.inr 366)), (1, .inr (.inr t)), (2, .inr (.inl f)), (4, .inr (.inr u)), (5, .inl a), (6, .inl z5), (7, .inl 0)]) (st' := []) rfl ?_
      exact (k_Rewriter_matchSide_cut hd hI ht hu ha _).1 H hI (fq_rf _ _ _ _) z5 (0 : Int) (by omega) (by decide) (by omega) (Nat.lt_succ_self _)
    · refine k_run 0 (pc' := 28) (l' := [(0, .inr (.inr 366)), (1, .inr (.inr t)), (2, .inr (.inl f)), (4, .inr (.inr u)), (5, .inl a), (6, .inl z5)]) (st' := []) rfl ?_
      refine k_run 1 (pc' := 29) (l' := [(0, .inr (.inr 366)), (1, .inr (.inr t)), (2, .inr (.inl f)), (4, .inr (.inr u)), (5, .inl a), (6, .inl z5)]) (st' := [.inl 0]) rfl ?_
      refine h_retz (x := 0) rfl rfl (by decide) ?_
      exact ⟨_, rfl, (by omega), hI, (fq_rf _ _ _ _)⟩

/-! Rewriter.isBound -/
set_option maxRecDepth 100000 in
theorem k_Rewriter_isBound_cut {d : Nat} (hd : 2 ≤ d) {H : hp} (hI : Inv H) {t n : Nat} {f : Int} (ht : isT t n) : ∀ w : Nat, (∀ (x4 : Int) , (-2147483648 ≤ x4 ∧ x4 ≤ 2147483647) → (0 ≤ x4) → (((1000 - x4).toNat) < w) → hG (zs zK) d mt_97 3 [(0, .inr (.inr 366)), (1, .inr (.inr t)), (2, .inr (.inl f)), (4, .inl x4)] [] H (fun r9 H9 => ∃ z : Int, r9 = some (.inl z) ∧ ((0 ≤ z ∧ z ≤ 1)) ∧ H = H9)) := by
  intro w
  induction w with
  | zero => exact fun _ _ _ h => absurd h (Nat.not_lt_zero _)
  | succ w ih =>
    intro x4 hx4 hi0 hw
    have htb := ht.2.2.2.2
    refine k_run 2 (pc' := 6) (l' := [(0, .inr (.inr 366)), (1, .inr (.inr t)), (2, .inr (.inl f)), (4, .inl x4)]) (st' := [.inr (.inr t), .inl x4]) rfl ?_
    refine k_get (a := t) (x := (kTo t n)) (v := .inl (H.1 t 1)) rfl rfl ht.1 (iT0 ht) rfl rfl rfl ?_
    have g1 : 0 ≤ (H.1 t 1) ∧ (H.1 t 1) ≤ n := kn hI ht.1 1
    refine k_run 0 (pc' := 9) (l' := [(0, .inr (.inr 366)), (1, .inr (.inr t)), (2, .inr (.inl f)), (4, .inl x4)]) (st' := [.inl (H.1 t 1), .inl x4]) rfl ?_
    refine h_ige (off := 68) (t := 77) rfl rfl (by omega) (by omega) (fun c2 => ?_) (fun c2 => ?_)
    · refine k_run 0 (pc' := 77) (l' := [(0, .inr (.inr 366)), (1, .inr (.inr t)), (2, .inr (.inl f)), (4, .inl x4)]) (st' := []) rfl ?_
      refine k_run 1 (pc' := 78) (l' := [(0, .inr (.inr 366)), (1, .inr (.inr t)), (2, .inr (.inl f)), (4, .inl x4)]) (st' := [.inl 1]) rfl ?_
      refine h_retz (x := 1) rfl rfl (by decide) ?_
      exact ⟨_, rfl, (by omega), rfl⟩
    · refine k_run 0 (pc' := 12) (l' := [(0, .inr (.inr 366)), (1, .inr (.inr t)), (2, .inr (.inl f)), (4, .inl x4)]) (st' := []) rfl ?_
      refine k_run 1 (pc' := 13) (l' := [(0, .inr (.inr 366)), (1, .inr (.inr t)), (2, .inr (.inl f)), (4, .inl x4)]) (st' := [.inr (.inr t)]) rfl ?_
      refine k_get (a := t) (x := (kTo t n)) (v := .inr (.inr (t + 1))) rfl rfl ht.1 (iT0 ht) rfl rfl rfl ?_
      refine k_run 0 (pc' := 16) (l' := [(0, .inr (.inr 366)), (1, .inr (.inr t)), (2, .inr (.inl f)), (4, .inl x4)]) (st' := [.inr (.inr (t + 1))]) rfl ?_
      refine k_run 1 (pc' := 18) (l' := [(0, .inr (.inr 366)), (1, .inr (.inr t)), (2, .inr (.inl f)), (4, .inl x4)]) (st' := [.inl x4, .inr (.inr (t + 1))]) rfl ?_
      refine k_ild (c := (t + 1)) (j := (x4).toNat) (i := x4) (x := (kTc n)) rfl ht.2.1 (iT1 ht) rfl (by omega) (by omega) (by omega) ?_
      have g3 : -2147483648 ≤ (H.1 (t + 1) (x4).toNat) ∧ (H.1 (t + 1) (x4).toNat) ≤ 2147483647 := kn hI ht.2.1 (x4).toNat
      refine k_run 0 (pc' := 19) (l' := [(0, .inr (.inr 366)), (1, .inr (.inr t)), (2, .inr (.inl f)), (4, .inl x4)]) (st' := [.inl (H.1 (t + 1) (x4).toNat)]) rfl ?_
      refine h_cs (i := 48) (j := 50) (M' := mt_50) (xs := [.inl (H.1 (t + 1) (x4).toNat)]) (rest := []) rfl rfl rfl rfl rfl (Nat.le_of_ble_eq_true rfl) (Nat.le_of_ble_eq_true rfl) (by omega) (k_Term_indexOf (by omega)  (by omega)) ?_
      rintro _ _ ⟨z8, rfl, g4, rfl⟩
      refine k_run 0 (pc' := 22) (l' := [(0, .inr (.inr 366)), (1, .inr (.inr t)), (2, .inr (.inl f)), (4, .inl x4)]) (st' := [.inl z8]) rfl ?_
      refine k_run 2 (pc' := 25) (l' := [(0, .inr (.inr 366)), (1, .inr (.inr t)), (2, .inr (.inl f)), (4, .inl x4), (5, .inl z8)]) (st' := [.inr (.inr t)]) rfl ?_
      refine k_get (a := t) (x := (kTo t n)) (v := .inr (.inr (t + 1))) rfl rfl ht.1 (iT0 ht) rfl rfl rfl ?_
      refine k_run 0 (pc' := 28) (l' := [(0, .inr (.inr 366)), (1, .inr (.inr t)), (2, .inr (.inl f)), (4, .inl x4), (5, .inl z8)]) (st' := [.inr (.inr (t + 1))]) rfl ?_
      refine k_run 1 (pc' := 30) (l' := [(0, .inr (.inr 366)), (1, .inr (.inr t)), (2, .inr (.inl f)), (4, .inl x4), (5, .inl z8)]) (st' := [.inl x4, .inr (.inr (t + 1))]) rfl ?_
      refine k_ild (c := (t + 1)) (j := (x4).toNat) (i := x4) (x := (kTc n)) rfl ht.2.1 (iT1 ht) rfl (by omega) (by omega) (by omega) ?_
      refine k_run 0 (pc' := 31) (l' := [(0, .inr (.inr 366)), (1, .inr (.inr t)), (2, .inr (.inl f)), (4, .inl x4), (5, .inl z8)]) (st' := [.inl (H.1 (t + 1) (x4).toNat)]) rfl ?_
      refine h_cs (i := 45) (j := 49) (M' := mt_49) (xs := [.inl (H.1 (t + 1) (x4).toNat)]) (rest := []) rfl rfl rfl rfl rfl (Nat.le_of_ble_eq_true rfl) (Nat.le_of_ble_eq_true rfl) (by omega) (k_Term_kindOf (by omega)  (by omega)) ?_
      rintro _ _ ⟨z13, rfl, g9, rfl⟩
      refine k_run 0 (pc' := 34) (l' := [(0, .inr (.inr 366)), (1, .inr (.inr t)), (2, .inr (.inl f)), (4, .inl x4), (5, .inl z8)]) (st' := [.inl z13]) rfl ?_
      refine k_run 1 (pc' := 35) (l' := [(0, .inr (.inr 366)), (1, .inr (.inr t)), (2, .inr (.inl f)), (4, .inl x4), (5, .inl z8)]) (st' := [.inl 3, .inl z13]) rfl ?_
      refine h_ine (off := 36) (t := 71) rfl rfl (by omega) (by decide) (fun c14 => ?_) (fun c14 => ?_)
      · refine k_run 0 (pc' := 71) (l' := [(0, .inr (.inr 366)), (1, .inr (.inr t)), (2, .inr (.inl f)), (4, .inl x4), (5, .inl z8)]) (st' := []) rfl ?_
        refine k_run 2 (pc' := 3) (l' := [(0, .inr (.inr 366)), (1, .inr (.inr t)), (2, .inr (.inl f)), (4, .inl (x4 + 1)), (5, .inl z8)]) (st' := []) rfl ?_
        refine h_loc [0, 1, 2, 4] rfl ?_
        exact ih (x4 + 1) (by omega) (by omega) (by omega)
      · refine k_run 0 (pc' := 38) (l' := [(0, .inr (.inr 366)), (1, .inr (.inr t)), (2, .inr (.inl f)), (4, .inl x4), (5, .inl z8)]) (st' := []) rfl ?_
        refine k_run 3 (pc' := 44) (l' := [(0, .inr (.inr 366)), (1, .inr (.inr t)), (2, .inr (.inl f)), (4, .inl x4), (5, .inl z8)]) (st' := [.inr (.inr 367), .inl z8]) rfl ?_
        refine k_alen (c := 367) (x := kx_367) rfl rfl (by decide) rfl ?_
        refine k_run 0 (pc' := 45) (l' := [(0, .inr (.inr 366)), (1, .inr (.inr t)), (2, .inr (.inl f)), (4, .inl x4), (5, .inl z8)]) (st' := [.inl 60, .inl z8]) rfl ?_
        refine h_ige (off := 26) (t := 71) rfl rfl (by omega) (by decide) (fun c15 => ?_) (fun c15 => ?_)
        · refine k_run 0 (pc' := 71) (l' := [(0, .inr (.inr 366)), (1, .inr (.inr t)), (2, .inr (.inl f)), (4, .inl x4), (5, .inl z8)]) (st' := []) rfl ?_
          refine k_run 2 (pc' := 3) (l' := [(0, .inr (.inr 366)), (1, .inr (.inr t)), (2, .inr (.inl f)), (4, .inl (x4 + 1)), (5, .inl z8)]) (st' := []) rfl ?_
          refine h_loc [0, 1, 2, 4] rfl ?_
          exact ih (x4 + 1) (by omega) (by omega) (by omega)
        · refine k_run 0 (pc' := 48) (l' := [(0, .inr (.inr 366)), (1, .inr (.inr t)), (2, .inr (.inl f)), (4, .inl x4), (5, .inl z8)]) (st' := []) rfl ?_
          refine k_run 3 (pc' := 52) (l' := [(0, .inr (.inr 366)), (1, .inr (.inr t)), (2, .inr (.inl f)), (4, .inl x4), (5, .inl z8)]) (st' := [.inr (.inl (z_lshr f z8))]) rfl ?_
          refine k_nrmj (fun y16 hy16 => ?_)
          refine k_run 2 (pc' := 54) (l' := [(0, .inr (.inr 366)), (1, .inr (.inr t)), (2, .inr (.inl f)), (4, .inl x4), (5, .inl z8)]) (st' := [.inr (.inl (z_land y16 1))]) rfl ?_
          refine k_nrmj (fun y17 hy17 => ?_)
          refine k_run 2 (pc' := 56) (l' := [(0, .inr (.inr 366)), (1, .inr (.inr t)), (2, .inr (.inl f)), (4, .inl x4), (5, .inl z8)]) (st' := [.inl (z_cmp y17 1)]) rfl ?_
          refine k_nrm (fun y18 hy18 => ?_)
          refine k_run 0 (pc' := 56) (l' := [(0, .inr (.inr 366)), (1, .inr (.inr t)), (2, .inr (.inl f)), (4, .inl x4), (5, .inl z8)]) (st' := [.inl y18]) rfl ?_
          refine h_zne (off := 15) (t := 71) rfl rfl (by omega) (fun c19 => ?_) (fun c19 => ?_)
          · refine k_run 0 (pc' := 71) (l' := [(0, .inr (.inr 366)), (1, .inr (.inr t)), (2, .inr (.inl f)), (4, .inl x4), (5, .inl z8)]) (st' := []) rfl ?_
            refine k_run 2 (pc' := 3) (l' := [(0, .inr (.inr 366)), (1, .inr (.inr t)), (2, .inr (.inl f)), (4, .inl (x4 + 1)), (5, .inl z8)]) (st' := []) rfl ?_
            refine h_loc [0, 1, 2, 4] rfl ?_
            exact ih (x4 + 1) (by omega) (by omega) (by omega)
          · refine k_run 0 (pc' := 59) (l' := [(0, .inr (.inr 366)), (1, .inr (.inr t)), (2, .inr (.inl f)), (4, .inl x4), (5, .inl z8)]) (st' := []) rfl ?_
            refine k_run 3 (pc' := 65) (l' := [(0, .inr (.inr 366)), (1, .inr (.inr t)), (2, .inr (.inl f)), (4, .inl x4), (5, .inl z8)]) (st' := [.inl z8, .inr (.inr 367)]) rfl ?_
            refine k_ild (c := 367) (j := (z8).toNat) (i := z8) (x := kx_367) rfl rfl (by decide) rfl (by decide) (by omega) (by omega) ?_
            have g20 : -2147483648 ≤ (H.1 367 (z8).toNat) ∧ (H.1 367 (z8).toNat) ≤ 2147483647 := kn (x := kx_367) hI rfl (z8).toNat
            refine k_run 0 (pc' := 66) (l' := [(0, .inr (.inr 366)), (1, .inr (.inr t)), (2, .inr (.inl f)), (4, .inl x4), (5, .inl z8)]) (st' := [.inl (H.1 367 (z8).toNat)]) rfl ?_
            refine h_zge (off := 5) (t := 71) rfl rfl (by omega) (fun c21 => ?_) (fun c21 => ?_)
            · refine k_run 0 (pc' := 71) (l' := [(0, .inr (.inr 366)), (1, .inr (.inr t)), (2, .inr (.inl f)), (4, .inl x4), (5, .inl z8)]) (st' := []) rfl ?_
              refine k_run 2 (pc' := 3) (l' := [(0, .inr (.inr 366)), (1, .inr (.inr t)), (2, .inr (.inl f)), (4, .inl (x4 + 1)), (5, .inl z8)]) (st' := []) rfl ?_
              refine h_loc [0, 1, 2, 4] rfl ?_
              exact ih (x4 + 1) (by omega) (by omega) (by omega)
            · refine k_run 0 (pc' := 69) (l' := [(0, .inr (.inr 366)), (1, .inr (.inr t)), (2, .inr (.inl f)), (4, .inl x4), (5, .inl z8)]) (st' := []) rfl ?_
              refine k_run 1 (pc' := 70) (l' := [(0, .inr (.inr 366)), (1, .inr (.inr t)), (2, .inr (.inl f)), (4, .inl x4), (5, .inl z8)]) (st' := [.inl 0]) rfl ?_
              refine h_retz (x := 0) rfl rfl (by decide) ?_
              exact ⟨_, rfl, (by omega), rfl⟩
set_option maxRecDepth 100000 in
theorem k_Rewriter_isBound {d : Nat} (hd : 2 ≤ d) {H : hp} (hI : Inv H) {t n : Nat} {f : Int} (ht : isT t n) : hG (zs zK) d mt_97 0 (zargs 0 [.inr (.inr 366), .inr (.inr t), .inr (.inl f)]) [] H (fun r9 H9 => ∃ z : Int, r9 = some (.inl z) ∧ ((0 ≤ z ∧ z ≤ 1)) ∧ H = H9) := by
  have htb := ht.2.2.2.2
  refine k_run 0 (pc' := 0) (l' := [(0, .inr (.inr 366)), (1, .inr (.inr t)), (2, .inr (.inl f))]) (st' := []) rfl ?_
  refine k_run 2 (pc' := 3) (l' := [(0, .inr (.inr 366)), (1, .inr (.inr t)), (2, .inr (.inl f)), (4, .inl 0)]) (st' := []) rfl ?_
  exact (k_Rewriter_isBound_cut hd hI ht _) (0 : Int) (by decide) (by omega) (Nat.lt_succ_self _)

/-! Rewriter.replaceAt -/
set_option maxRecDepth 100000 in
theorem k_Rewriter_replaceAt_cut {d : Nat} (hd : 2 ≤ d) {H : hp} (hI : Inv H) {t n : Nat} {a : Int} {u m : Nat} {v o : Nat} (ht : isT t n) (ha : -2147483648 ≤ a ∧ a ≤ 2147483647) (hu : isT u m) (hv : isT v o) : ∀ w : Nat, (∀ (H1 : hp), Inv H1 → fq [] [] false H H1 → ∀ (x5 : Int) , (-2147483648 ≤ x5 ∧ x5 ≤ 2147483647) → (0 ≤ x5) → (((1000 - x5).toNat) < w) → hG (zs zK) d mt_98 22 [(0, .inr (.inr 366)), (1, .inr (.inr t)), (2, .inl a), (3, .inr (.inr u)), (4, .inr (.inr v)), (5, .inl x5)] [] H1 (fun r9 H9 => ∃ z : Int, r9 = some (.inl z) ∧ ((0 ≤ z ∧ z ≤ 1)) ∧ Inv H9 ∧ fq [] [] false H H9)) := by
  intro w
  induction w with
  | zero => exact fun _ _ _ _ _ _ h => absurd h (Nat.not_lt_zero _)
  | succ w ih =>
    intro H1 hI1 hf1 x5 hx5 hi0 hw
    have htb := ht.2.2.2.2
    have hub := hu.2.2.2.2
    have hvb := hv.2.2.2.2
    refine k_run 2 (pc' := 25) (l' := [(0, .inr (.inr 366)), (1, .inr (.inr t)), (2, .inl a), (3, .inr (.inr u)), (4, .inr (.inr v)), (5, .inl x5)]) (st' := [.inr (.inr u), .inl x5]) rfl ?_
    refine k_get (a := u) (x := (kTo u m)) (v := .inl (H1.1 u 1)) rfl rfl hu.1 (iT0 hu) rfl rfl rfl ?_
    have g13 : 0 ≤ (H1.1 u 1) ∧ (H1.1 u 1) ≤ m := kn hI1 hu.1 1
    refine k_run 0 (pc' := 28) (l' := [(0, .inr (.inr 366)), (1, .inr (.inr t)), (2, .inl a), (3, .inr (.inr u)), (4, .inr (.inr v)), (5, .inl x5)]) (st' := [.inl (H1.1 u 1), .inl x5]) rfl ?_
    refine h_ige (off := 100) (t := 128) rfl rfl (by omega) (by omega) (fun c14 => ?_) (fun c14 => ?_)
    · refine k_run 0 (pc' := 128) (l' := [(0, .inr (.inr 366)), (1, .inr (.inr t)), (2, .inl a), (3, .inr (.inr u)), (4, .inr (.inr v)), (5, .inl x5)]) (st' := []) rfl ?_
      refine k_run 4 (pc' := 133) (l' := [(0, .inr (.inr 366)), (1, .inr (.inr t)), (2, .inl a), (3, .inr (.inr u)), (4, .inr (.inr v)), (5, .inl x5)]) (st' := [.inl a, .inr (.inr t), .inr (.inr t), .inr (.inr v)]) rfl ?_
      refine h_cv (i := 75) (j := 53) (b := t) (M' := mt_53) (xs := [.inl a]) (rest := [.inr (.inr t), .inr (.inr v)]) rfl rfl rfl rfl (by rw [zs_K ht.1 (iT0 ht)]; rfl) rfl (Nat.le_of_ble_eq_true rfl) (Nat.le_of_ble_eq_true rfl) (by omega) (k_Term_behind (by omega) hI1 ht (by omega)) ?_
      rintro _ _ ⟨z19, rfl, g15, rfl⟩
      refine k_run 0 (pc' := 136) (l' := [(0, .inr (.inr 366)), (1, .inr (.inr t)), (2, .inl a), (3, .inr (.inr u)), (4, .inr (.inr v)), (5, .inl x5)]) (st' := [.inl z19, .inr (.inr t), .inr (.inr v)]) rfl ?_
      refine k_run 1 (pc' := 137) (l' := [(0, .inr (.inr 366)), (1, .inr (.inr t)), (2, .inl a), (3, .inr (.inr u)), (4, .inr (.inr v)), (5, .inl x5)]) (st' := [.inr (.inr t), .inl z19, .inr (.inr t), .inr (.inr v)]) rfl ?_
      refine k_get (a := t) (x := (kTo t n)) (v := .inl (H1.1 t 1)) rfl rfl ht.1 (iT0 ht) rfl rfl rfl ?_
      have g20 : 0 ≤ (H1.1 t 1) ∧ (H1.1 t 1) ≤ n := kn hI1 ht.1 1
      refine k_run 0 (pc' := 140) (l' := [(0, .inr (.inr 366)), (1, .inr (.inr t)), (2, .inl a), (3, .inr (.inr u)), (4, .inr (.inr v)), (5, .inl x5)]) (st' := [.inl (H1.1 t 1), .inl z19, .inr (.inr t), .inr (.inr v)]) rfl ?_
      refine h_cv (i := 85) (j := 54) (b := v) (M' := mt_54) (xs := [.inl (H1.1 t 1), .inl z19, .inr (.inr t)]) (rest := []) rfl rfl rfl rfl (by rw [zs_K hv.1 (iT0 hv)]; rfl) rfl (Nat.le_of_ble_eq_true rfl) (Nat.le_of_ble_eq_true rfl) (by omega) (k_Term_append (by omega) hI1 hv ht (by omega) (by omega) (by omega)) ?_
      rintro _ H22 ⟨z25, rfl, g21, hI23, hq24⟩
      have hf26 : fq [] [] false H H22 := fq_t hf1 hq24 rfl rfl rfl
      refine k_run 0 (pc' := 143) (l' := [(0, .inr (.inr 366)), (1, .inr (.inr t)), (2, .inl a), (3, .inr (.inr u)), (4, .inr (.inr v)), (5, .inl x5)]) (st' := [.inl z25]) rfl ?_
      refine h_retz (x := z25) rfl rfl (by omega) ?_
      exact ⟨_, rfl, (by omega), hI23, hf26⟩
    · refine k_run 0 (pc' := 31) (l' := [(0, .inr (.inr 366)), (1, .inr (.inr t)), (2, .inl a), (3, .inr (.inr u)), (4, .inr (.inr v)), (5, .inl x5)]) (st' := []) rfl ?_
      refine k_run 1 (pc' := 32) (l' := [(0, .inr (.inr 366)), (1, .inr (.inr t)), (2, .inl a), (3, .inr (.inr u)), (4, .inr (.inr v)), (5, .inl x5)]) (st' := [.inr (.inr u)]) rfl ?_
      refine k_get (a := u) (x := (kTo u m)) (v := .inr (.inr (u + 1))) rfl rfl hu.1 (iT0 hu) rfl rfl rfl ?_
      refine k_run 0 (pc' := 35) (l' := [(0, .inr (.inr 366)), (1, .inr (.inr t)), (2, .inl a), (3, .inr (.inr u)), (4, .inr (.inr v)), (5, .inl x5)]) (st' := [.inr (.inr (u + 1))]) rfl ?_
      refine k_run 1 (pc' := 37) (l' := [(0, .inr (.inr 366)), (1, .inr (.inr t)), (2, .inl a), (3, .inr (.inr u)), (4, .inr (.inr v)), (5, .inl x5)]) (st' := [.inl x5, .inr (.inr (u + 1))]) rfl ?_
      refine k_ild (c := (u + 1)) (j := (x5).toNat) (i := x5) (x := (kTc m)) rfl hu.2.1 (iT1 hu) rfl (by omega) (by omega) (by omega) ?_
      have g27 : -2147483648 ≤ (H1.1 (u + 1) (x5).toNat) ∧ (H1.1 (u + 1) (x5).toNat) ≤ 2147483647 := kn hI1 hu.2.1 (x5).toNat
      refine k_run 0 (pc' := 38) (l' := [(0, .inr (.inr 366)), (1, .inr (.inr t)), (2, .inl a), (3, .inr (.inr u)), (4, .inr (.inr v)), (5, .inl x5)]) (st' := [.inl (H1.1 (u + 1) (x5).toNat)]) rfl ?_
      refine k_run 2 (pc' := 42) (l' := [(0, .inr (.inr 366)), (1, .inr (.inr t)), (2, .inl a), (3, .inr (.inr u)), (4, .inr (.inr v)), (5, .inl x5), (6, .inl (H1.1 (u + 1) (x5).toNat))]) (st' := [.inl (H1.1 (u + 1) (x5).toNat)]) rfl ?_
      refine h_cs (i := 48) (j := 50) (M' := mt_50) (xs := [.inl (H1.1 (u + 1) (x5).toNat)]) (rest := []) rfl rfl rfl rfl rfl (Nat.le_of_ble_eq_true rfl) (Nat.le_of_ble_eq_true rfl) (by omega) (k_Term_indexOf (by omega)  (by omega)) ?_
      rintro _ _ ⟨z32, rfl, g28, rfl⟩
      refine k_run 0 (pc' := 45) (l' := [(0, .inr (.inr 366)), (1, .inr (.inr t)), (2, .inl a), (3, .inr (.inr u)), (4, .inr (.inr v)), (5, .inl x5), (6, .inl (H1.1 (u + 1) (x5).toNat))]) (st' := [.inl z32]) rfl ?_
      refine k_run 2 (pc' := 49) (l' := [(0, .inr (.inr 366)), (1, .inr (.inr t)), (2, .inl a), (3, .inr (.inr u)), (4, .inr (.inr v)), (5, .inl x5), (6, .inl (H1.1 (u + 1) (x5).toNat)), (7, .inl z32)]) (st' := [.inl (H1.1 (u + 1) (x5).toNat)]) rfl ?_
      refine h_cs (i := 45) (j := 49) (M' := mt_49) (xs := [.inl (H1.1 (u + 1) (x5).toNat)]) (rest := []) rfl rfl rfl rfl rfl (Nat.le_of_ble_eq_true rfl) (Nat.le_of_ble_eq_true rfl) (by omega) (k_Term_kindOf (by omega)  (by omega)) ?_
      rintro _ _ ⟨z37, rfl, g33, rfl⟩
      refine k_run 0 (pc' := 52) (l' := [(0, .inr (.inr 366)), (1, .inr (.inr t)), (2, .inl a), (3, .inr (.inr u)), (4, .inr (.inr v)), (5, .inl x5), (6, .inl (H1.1 (u + 1) (x5).toNat)), (7, .inl z32)]) (st' := [.inl z37]) rfl ?_
      refine k_run 1 (pc' := 53) (l' := [(0, .inr (.inr 366)), (1, .inr (.inr t)), (2, .inl a), (3, .inr (.inr u)), (4, .inr (.inr v)), (5, .inl x5), (6, .inl (H1.1 (u + 1) (x5).toNat)), (7, .inl z32)]) (st' := [.inl 3, .inl z37]) rfl ?_
      refine h_ine (off := 23) (t := 76) rfl rfl (by omega) (by decide) (fun c38 => ?_) (fun c38 => ?_)
      · refine k_run 0 (pc' := 76) (l' := [(0, .inr (.inr 366)), (1, .inr (.inr t)), (2, .inl a), (3, .inr (.inr u)), (4, .inr (.inr v)), (5, .inl x5), (6, .inl (H1.1 (u + 1) (x5).toNat)), (7, .inl z32)]) (st' := []) rfl ?_
        refine k_run 3 (pc' := 81) (l' := [(0, .inr (.inr 366)), (1, .inr (.inr t)), (2, .inl a), (3, .inr (.inr u)), (4, .inr (.inr v)), (5, .inl x5), (6, .inl (H1.1 (u + 1) (x5).toNat)), (7, .inl z32), (8, .inl (-1))]) (st' := [.inl (-1)]) rfl ?_
        refine h_zge (off := 18) (t := 99) rfl rfl (by decide) (fun c => absurd c (by decide)) (fun _ => ?_)
        refine k_run 0 (pc' := 84) (l' := [(0, .inr (.inr 366)), (1, .inr (.inr t)), (2, .inl a), (3, .inr (.inr u)), (4, .inr (.inr v)), (5, .inl x5), (6, .inl (H1.1 (u + 1) (x5).toNat)), (7, .inl z32), (8, .inl (-1))]) (st' := []) rfl ?_
        refine k_run 6 (pc' := 93) (l' := [(0, .inr (.inr 366)), (1, .inr (.inr t)), (2, .inl a), (3, .inr (.inr u)), (4, .inr (.inr v)), (5, .inl x5), (6, .inl (H1.1 (u + 1) (x5).toNat)), (7, .inl z32), (8, .inl (-1))]) (st' := [.inl (x5 + 1), .inl x5, .inr (.inr u), .inr (.inr v)]) rfl ?_
        refine h_cv (i := 85) (j := 54) (b := v) (M' := mt_54) (xs := [.inl (x5 + 1), .inl x5, .inr (.inr u)]) (rest := []) rfl rfl rfl rfl (by rw [zs_K hv.1 (iT0 hv)]; rfl) rfl (Nat.le_of_ble_eq_true rfl) (Nat.le_of_ble_eq_true rfl) (by omega) (k_Term_append (by omega) hI1 hv hu (by omega) (by omega) (by omega)) ?_
        rintro _ H40 ⟨z43, rfl, g39, hI41, hq42⟩
        have hf44 : fq [] [] false H H40 := fq_t hf1 hq42 rfl rfl rfl
        refine k_run 0 (pc' := 96) (l' := [(0, .inr (.inr 366)), (1, .inr (.inr t)), (2, .inl a), (3, .inr (.inr u)), (4, .inr (.inr v)), (5, .inl x5), (6, .inl (H1.1 (u + 1) (x5).toNat)), (7, .inl z32), (8, .inl (-1))]) (st' := [.inl z43]) rfl ?_
        refine k_run 3 (pc' := 117) (l' := [(0, .inr (.inr 366)), (1, .inr (.inr t)), (2, .inl a), (3, .inr (.inr u)), (4, .inr (.inr v)), (5, .inl x5), (6, .inl (H1.1 (u + 1) (x5).toNat)), (7, .inl z32), (8, .inl (-1)), (9, .inl z43)]) (st' := [.inl z43]) rfl ?_
        refine h_zne (off := 5) (t := 122) rfl rfl (by omega) (fun c45 => ?_) (fun c45 => ?_)
        · refine k_run 0 (pc' := 122) (l' := [(0, .inr (.inr 366)), (1, .inr (.inr t)), (2, .inl a), (3, .inr (.inr u)), (4, .inr (.inr v)), (5, .inl x5), (6, .inl (H1.1 (u + 1) (x5).toNat)), (7, .inl z32), (8, .inl (-1)), (9, .inl z43)]) (st' := []) rfl ?_
          refine k_run 2 (pc' := 22) (l' := [(0, .inr (.inr 366)), (1, .inr (.inr t)), (2, .inl a), (3, .inr (.inr u)), (4, .inr (.inr v)), (5, .inl (x5 + 1)), (6, .inl (H1.1 (u + 1) (x5).toNat)), (7, .inl z32), (8, .inl (-1)), (9, .inl z43)]) (st' := []) rfl ?_
          refine h_loc [0, 1, 2, 3, 4, 5] rfl ?_
          exact ih H40 hI41 hf44 (x5 + 1) (by omega) (by omega) (by omega)
        · refine k_run 0 (pc' := 120) (l' := [(0, .inr (.inr 366)), (1, .inr (.inr t)), (2, .inl a), (3, .inr (.inr u)), (4, .inr (.inr v)), (5, .inl x5), (6, .inl (H1.1 (u + 1) (x5).toNat)), (7, .inl z32), (8, .inl (-1)), (9, .inl z43)]) (st' := []) rfl ?_
          refine k_run 1 (pc' := 121) (l' := [(0, .inr (.inr 366)), (1, .inr (.inr t)), (2, .inl a), (3, .inr (.inr u)), (4, .inr (.inr v)), (5, .inl x5), (6, .inl (H1.1 (u + 1) (x5).toNat)), (7, .inl z32), (8, .inl (-1)), (9, .inl z43)]) (st' := [.inl 0]) rfl ?_
          refine h_retz (x := 0) rfl rfl (by decide) ?_
          exact ⟨_, rfl, (by omega), hI41, hf44⟩
      · refine k_run 0 (pc' := 56) (l' := [(0, .inr (.inr 366)), (1, .inr (.inr t)), (2, .inl a), (3, .inr (.inr u)), (4, .inr (.inr v)), (5, .inl x5), (6, .inl (H1.1 (u + 1) (x5).toNat)), (7, .inl z32)]) (st' := []) rfl ?_
        refine k_run 3 (pc' := 62) (l' := [(0, .inr (.inr 366)), (1, .inr (.inr t)), (2, .inl a), (3, .inr (.inr u)), (4, .inr (.inr v)), (5, .inl x5), (6, .inl (H1.1 (u + 1) (x5).toNat)), (7, .inl z32)]) (st' := [.inr (.inr 367), .inl z32]) rfl ?_
        refine k_alen (c := 367) (x := kx_367) rfl rfl (by decide) rfl ?_
        refine k_run 0 (pc' := 63) (l' := [(0, .inr (.inr 366)), (1, .inr (.inr t)), (2, .inl a), (3, .inr (.inr u)), (4, .inr (.inr v)), (5, .inl x5), (6, .inl (H1.1 (u + 1) (x5).toNat)), (7, .inl z32)]) (st' := [.inl 60, .inl z32]) rfl ?_
        refine h_ige (off := 13) (t := 76) rfl rfl (by omega) (by decide) (fun c46 => ?_) (fun c46 => ?_)
        · refine k_run 0 (pc' := 76) (l' := [(0, .inr (.inr 366)), (1, .inr (.inr t)), (2, .inl a), (3, .inr (.inr u)), (4, .inr (.inr v)), (5, .inl x5), (6, .inl (H1.1 (u + 1) (x5).toNat)), (7, .inl z32)]) (st' := []) rfl ?_
          refine k_run 3 (pc' := 81) (l' := [(0, .inr (.inr 366)), (1, .inr (.inr t)), (2, .inl a), (3, .inr (.inr u)), (4, .inr (.inr v)), (5, .inl x5), (6, .inl (H1.1 (u + 1) (x5).toNat)), (7, .inl z32), (8, .inl (-1))]) (st' := [.inl (-1)]) rfl ?_
          refine h_zge (off := 18) (t := 99) rfl rfl (by decide) (fun c => absurd c (by decide)) (fun _ => ?_)
          refine k_run 0 (pc' := 84) (l' := [(0, .inr (.inr 366)), (1, .inr (.inr t)), (2, .inl a), (3, .inr (.inr u)), (4, .inr (.inr v)), (5, .inl x5), (6, .inl (H1.1 (u + 1) (x5).toNat)), (7, .inl z32), (8, .inl (-1))]) (st' := []) rfl ?_
          refine k_run 6 (pc' := 93) (l' := [(0, .inr (.inr 366)), (1, .inr (.inr t)), (2, .inl a), (3, .inr (.inr u)), (4, .inr (.inr v)), (5, .inl x5), (6, .inl (H1.1 (u + 1) (x5).toNat)), (7, .inl z32), (8, .inl (-1))]) (st' := [.inl (x5 + 1), .inl x5, .inr (.inr u), .inr (.inr v)]) rfl ?_
          refine h_cv (i := 85) (j := 54) (b := v) (M' := mt_54) (xs := [.inl (x5 + 1), .inl x5, .inr (.inr u)]) (rest := []) rfl rfl rfl rfl (by rw [zs_K hv.1 (iT0 hv)]; rfl) rfl (Nat.le_of_ble_eq_true rfl) (Nat.le_of_ble_eq_true rfl) (by omega) (k_Term_append (by omega) hI1 hv hu (by omega) (by omega) (by omega)) ?_
          rintro _ H48 ⟨z51, rfl, g47, hI49, hq50⟩
          have hf52 : fq [] [] false H H48 := fq_t hf1 hq50 rfl rfl rfl
          refine k_run 0 (pc' := 96) (l' := [(0, .inr (.inr 366)), (1, .inr (.inr t)), (2, .inl a), (3, .inr (.inr u)), (4, .inr (.inr v)), (5, .inl x5), (6, .inl (H1.1 (u + 1) (x5).toNat)), (7, .inl z32), (8, .inl (-1))]) (st' := [.inl z51]) rfl ?_
          refine k_run 3 (pc' := 117) (l' := [(0, .inr (.inr 366)), (1, .inr (.inr t)), (2, .inl a), (3, .inr (.inr u)), (4, .inr (.inr v)), (5, .inl x5), (6, .inl (H1.1 (u + 1) (x5).toNat)), (7, .inl z32), (8, .inl (-1)), (9, .inl z51)]) (st' := [.inl z51]) rfl ?_
          refine h_zne (off := 5) (t := 122) rfl rfl (by omega) (fun c53 => ?_) (fun c53 => ?_)
          · refine k_run 0 (pc' := 122) (l' := [(0, .inr (.inr 366)), (1, .inr (.inr t)), (2, .inl a), (3, .inr (.inr u)), (4, .inr (.inr v)), (5, .inl x5), (6, .inl (H1.1 (u + 1) (x5).toNat)), (7, .inl z32), (8, .inl (-1)), (9, .inl z51)]) (st' := []) rfl ?_
            refine k_run 2 (pc' := 22) (l' := [(0, .inr (.inr 366)), (1, .inr (.inr t)), (2, .inl a), (3, .inr (.inr u)), (4, .inr (.inr v)), (5, .inl (x5 + 1)), (6, .inl (H1.1 (u + 1) (x5).toNat)), (7, .inl z32), (8, .inl (-1)), (9, .inl z51)]) (st' := []) rfl ?_
            refine h_loc [0, 1, 2, 3, 4, 5] rfl ?_
            exact ih H48 hI49 hf52 (x5 + 1) (by omega) (by omega) (by omega)
          · refine k_run 0 (pc' := 120) (l' := [(0, .inr (.inr 366)), (1, .inr (.inr t)), (2, .inl a), (3, .inr (.inr u)), (4, .inr (.inr v)), (5, .inl x5), (6, .inl (H1.1 (u + 1) (x5).toNat)), (7, .inl z32), (8, .inl (-1)), (9, .inl z51)]) (st' := []) rfl ?_
            refine k_run 1 (pc' := 121) (l' := [(0, .inr (.inr 366)), (1, .inr (.inr t)), (2, .inl a), (3, .inr (.inr u)), (4, .inr (.inr v)), (5, .inl x5), (6, .inl (H1.1 (u + 1) (x5).toNat)), (7, .inl z32), (8, .inl (-1)), (9, .inl z51)]) (st' := [.inl 0]) rfl ?_
            refine h_retz (x := 0) rfl rfl (by decide) ?_
            exact ⟨_, rfl, (by omega), hI49, hf52⟩
        · refine k_run 0 (pc' := 66) (l' := [(0, .inr (.inr 366)), (1, .inr (.inr t)), (2, .inl a), (3, .inr (.inr u)), (4, .inr (.inr v)), (5, .inl x5), (6, .inl (H1.1 (u + 1) (x5).toNat)), (7, .inl z32)]) (st' := []) rfl ?_
          refine k_run 3 (pc' := 72) (l' := [(0, .inr (.inr 366)), (1, .inr (.inr t)), (2, .inl a), (3, .inr (.inr u)), (4, .inr (.inr v)), (5, .inl x5), (6, .inl (H1.1 (u + 1) (x5).toNat)), (7, .inl z32)]) (st' := [.inl z32, .inr (.inr 367)]) rfl ?_
          refine k_ild (c := 367) (j := (z32).toNat) (i := z32) (x := kx_367) rfl rfl (by decide) rfl (by decide) (by omega) (by omega) ?_
          have g54 : -2147483648 ≤ (H1.1 367 (z32).toNat) ∧ (H1.1 367 (z32).toNat) ≤ 2147483647 := kn (x := kx_367) hI1 rfl (z32).toNat
          have e55 : (H1.1 367 (z32).toNat) = (H.1 367 (z32).toNat) := (hf1.1 367 (z32).toNat rfl (by decide) (fun q => by simp at q)).1
          refine k_run 0 (pc' := 73) (l' := [(0, .inr (.inr 366)), (1, .inr (.inr t)), (2, .inl a), (3, .inr (.inr u)), (4, .inr (.inr v)), (5, .inl x5), (6, .inl (H1.1 (u + 1) (x5).toNat)), (7, .inl z32)]) (st' := [.inl (H1.1 367 (z32).toNat)]) rfl ?_
          refine k_run 3 (pc' := 81) (l' := [(0, .inr (.inr 366)), (1, .inr (.inr t)), (2, .inl a), (3, .inr (.inr u)), (4, .inr (.inr v)), (5, .inl x5), (6, .inl (H1.1 (u + 1) (x5).toNat)), (7, .inl z32), (8, .inl (H1.1 367 (z32).toNat))]) (st' := [.inl (H1.1 367 (z32).toNat)]) rfl ?_
          refine h_zge (off := 18) (t := 99) rfl rfl (by omega) (fun c56 => ?_) (fun c56 => ?_)
          · refine k_run 0 (pc' := 99) (l' := [(0, .inr (.inr 366)), (1, .inr (.inr t)), (2, .inl a), (3, .inr (.inr u)), (4, .inr (.inr v)), (5, .inl x5), (6, .inl (H1.1 (u + 1) (x5).toNat)), (7, .inl z32), (8, .inl (H1.1 367 (z32).toNat))]) (st' := []) rfl ?_
            refine k_run 5 (pc' := 107) (l' := [(0, .inr (.inr 366)), (1, .inr (.inr t)), (2, .inl a), (3, .inr (.inr u)), (4, .inr (.inr v)), (5, .inl x5), (6, .inl (H1.1 (u + 1) (x5).toNat)), (7, .inl z32), (8, .inl (H1.1 367 (z32).toNat))]) (st' := [.inl (H1.1 367 (z32).toNat), .inr (.inr t), .inl (H1.1 367 (z32).toNat), .inr (.inr t), .inr (.inr v)]) rfl ?_
            refine h_cv (i := 75) (j := 53) (b := t) (M' := mt_53) (xs := [.inl (H1.1 367 (z32).toNat)]) (rest := [.inl (H1.1 367 (z32).toNat), .inr (.inr t), .inr (.inr v)]) rfl rfl rfl rfl (by rw [zs_K ht.1 (iT0 ht)]; rfl) rfl (Nat.le_of_ble_eq_true rfl) (Nat.le_of_ble_eq_true rfl) (by omega) (k_Term_behind (by omega) hI1 ht (by omega)) ?_
            rintro _ _ ⟨z61, rfl, g57, rfl⟩
            refine k_run 0 (pc' := 110) (l' := [(0, .inr (.inr 366)), (1, .inr (.inr t)), (2, .inl a), (3, .inr (.inr u)), (4, .inr (.inr v)), (5, .inl x5), (6, .inl (H1.1 (u + 1) (x5).toNat)), (7, .inl z32), (8, .inl (H1.1 367 (z32).toNat))]) (st' := [.inl z61, .inl (H1.1 367 (z32).toNat), .inr (.inr t), .inr (.inr v)]) rfl ?_
            refine h_cv (i := 85) (j := 54) (b := v) (M' := mt_54) (xs := [.inl z61, .inl (H1.1 367 (z32).toNat), .inr (.inr t)]) (rest := []) rfl rfl rfl rfl (by rw [zs_K hv.1 (iT0 hv)]; rfl) rfl (Nat.le_of_ble_eq_true rfl) (Nat.le_of_ble_eq_true rfl) (by omega) (k_Term_append (by omega) hI1 hv ht (by omega) (by omega) (by omega)) ?_
            rintro _ H63 ⟨z66, rfl, g62, hI64, hq65⟩
            have hf67 : fq [] [] false H H63 := fq_t hf1 hq65 rfl rfl rfl
            refine k_run 0 (pc' := 113) (l' := [(0, .inr (.inr 366)), (1, .inr (.inr t)), (2, .inl a), (3, .inr (.inr u)), (4, .inr (.inr v)), (5, .inl x5), (6, .inl (H1.1 (u + 1) (x5).toNat)), (7, .inl z32), (8, .inl (H1.1 367 (z32).toNat))]) (st' := [.inl z66]) rfl ?_
            refine k_run 2 (pc' := 117) (l' := [(0, .inr (.inr 366)), (1, .inr (.inr t)), (2, .inl a), (3, .inr (.inr u)), (4, .inr (.inr v)), (5, .inl x5), (6, .inl (H1.1 (u + 1) (x5).toNat)), (7, .inl z32), (8, .inl (H1.1 367 (z32).toNat)), (9, .inl z66)]) (st' := [.inl z66]) rfl ?_
            refine h_zne (off := 5) (t := 122) rfl rfl (by omega) (fun c68 => ?_) (fun c68 => ?_)
            · refine k_run 0 (pc' := 122) (l' := [(0, .inr (.inr 366)), (1, .inr (.inr t)), (2, .inl a), (3, .inr (.inr u)), (4, .inr (.inr v)), (5, .inl x5), (6, .inl (H1.1 (u + 1) (x5).toNat)), (7, .inl z32), (8, .inl (H1.1 367 (z32).toNat)), (9, .inl z66)]) (st' := []) rfl ?_
              refine k_run 2 (pc' := 22) (l' := [(0, .inr (.inr 366)), (1, .inr (.inr t)), (2, .inl a), (3, .inr (.inr u)), (4, .inr (.inr v)), (5, .inl (x5 + 1)), (6, .inl (H1.1 (u + 1) (x5).toNat)), (7, .inl z32), (8, .inl (H1.1 367 (z32).toNat)), (9, .inl z66)]) (st' := []) rfl ?_
              refine h_loc [0, 1, 2, 3, 4, 5] rfl ?_
              exact ih H63 hI64 hf67 (x5 + 1) (by omega) (by omega) (by omega)
            · refine k_run 0 (pc' := 120) (l' := [(0, .inr (.inr 366)), (1, .inr (.inr t)), (2, .inl a), (3, .inr (.inr u)), (4, .inr (.inr v)), (5, .inl x5), (6, .inl (H1.1 (u + 1) (x5).toNat)), (7, .inl z32), (8, .inl (H1.1 367 (z32).toNat)), (9, .inl z66)]) (st' := []) rfl ?_
              refine k_run 1 (pc' := 121) (l' := [(0, .inr (.inr 366)), (1, .inr (.inr t)), (2, .inl a), (3, .inr (.inr u)), (4, .inr (.inr v)), (5, .inl x5), (6, .inl (H1.1 (u + 1) (x5).toNat)), (7, .inl z32), (8, .inl (H1.1 367 (z32).toNat)), (9, .inl z66)]) (st' := [.inl 0]) rfl ?_
              refine h_retz (x := 0) rfl rfl (by decide) ?_
              exact ⟨_, rfl, (by omega), hI64, hf67⟩
          · refine k_run 0 (pc' := 84) (l' := [(0, .inr (.inr 366)), (1, .inr (.inr t)), (2, .inl a), (3, .inr (.inr u)), (4, .inr (.inr v)), (5, .inl x5), (6, .inl (H1.1 (u + 1) (x5).toNat)), (7, .inl z32), (8, .inl (H1.1 367 (z32).toNat))]) (st' := []) rfl ?_
            refine k_run 6 (pc' := 93) (l' := [(0, .inr (.inr 366)), (1, .inr (.inr t)), (2, .inl a), (3, .inr (.inr u)), (4, .inr (.inr v)), (5, .inl x5), (6, .inl (H1.1 (u + 1) (x5).toNat)), (7, .inl z32), (8, .inl (H1.1 367 (z32).toNat))]) (st' := [.inl (x5 + 1), .inl x5, .inr (.inr u), .inr (.inr v)]) rfl ?_
            refine h_cv (i := 85) (j := 54) (b := v) (M' := mt_54) (xs := [.inl (x5 + 1), .inl x5, .inr (.inr u)]) (rest := []) rfl rfl rfl rfl (by rw [zs_K hv.1 (iT0 hv)]; rfl) rfl (Nat.le_of_ble_eq_true rfl) (Nat.le_of_ble_eq_true rfl) (by omega) (k_Term_append (by omega) hI1 hv hu (by omega) (by omega) (by omega)) ?_
            rintro _ H70 ⟨z73, rfl, g69, hI71, hq72⟩
            have hf74 : fq [] [] false H H70 := fq_t hf1 hq72 rfl rfl rfl
            refine k_run 0 (pc' := 96) (l' := [(0, .inr (.inr 366)), (1, .inr (.inr t)), (2, .inl a), (3, .inr (.inr u)), (4, .inr (.inr v)), (5, .inl x5), (6, .inl (H1.1 (u + 1) (x5).toNat)), (7, .inl z32), (8, .inl (H1.1 367 (z32).toNat))]) (st' := [.inl z73]) rfl ?_
            refine k_run 3 (pc' := 117) (l' := [(0, .inr (.inr 366)), (1, .inr (.inr t)), (2, .inl a), (3, .inr (.inr u)), (4, .inr (.inr v)), (5, .inl x5), (6, .inl (H1.1 (u + 1) (x5).toNat)), (7, .inl z32), (8, .inl (H1.1 367 (z32).toNat)), (9, .inl z73)]) (st' := [.inl z73]) rfl ?_
            refine h_zne (off := 5) (t := 122) rfl rfl (by omega) (fun c75 => ?_) (fun c75 => ?_)
            · refine k_run 0 (pc' := 122) (l' := [(0, .inr (.inr 366)), (1, .inr (.inr t)), (2, .inl a), (3, .inr (.inr u)), (4, .inr (.inr v)), (5, .inl x5), (6, .inl (H1.1 (u + 1) (x5).toNat)), (7, .inl z32), (8, .inl (H1.1 367 (z32).toNat)), (9, .inl z73)]) (st' := []) rfl ?_
              refine k_run 2 (pc' := 22) (l' := [(0, .inr (.inr 366)), (1, .inr (.inr t)), (2, .inl a), (3, .inr (.inr u)), (4, .inr (.inr v)), (5, .inl (x5 + 1)), (6, .inl (H1.1 (u + 1) (x5).toNat)), (7, .inl z32), (8, .inl (H1.1 367 (z32).toNat)), (9, .inl z73)]) (st' := []) rfl ?_
              refine h_loc [0, 1, 2, 3, 4, 5] rfl ?_
              exact ih H70 hI71 hf74 (x5 + 1) (by omega) (by omega) (by omega)
            · refine k_run 0 (pc' := 120) (l' := [(0, .inr (.inr 366)), (1, .inr (.inr t)), (2, .inl a), (3, .inr (.inr u)), (4, .inr (.inr v)), (5, .inl x5), (6, .inl (H1.1 (u + 1) (x5).toNat)), (7, .inl z32), (8, .inl (H1.1 367 (z32).toNat)), (9, .inl z73)]) (st' := []) rfl ?_
              refine k_run 1 (pc' := 121) (l' := [(0, .inr (.inr 366)), (1, .inr (.inr t)), (2, .inl a), (3, .inr (.inr u)), (4, .inr (.inr v)), (5, .inl x5), (6, .inl (H1.1 (u + 1) (x5).toNat)), (7, .inl z32), (8, .inl (H1.1 367 (z32).toNat)), (9, .inl z73)]) (st' := [.inl 0]) rfl ?_
              refine h_retz (x := 0) rfl rfl (by decide) ?_
              exact ⟨_, rfl, (by omega), hI71, hf74⟩
set_option maxRecDepth 100000 in
theorem k_Rewriter_replaceAt {d : Nat} (hd : 2 ≤ d) {H : hp} (hI : Inv H) {t n : Nat} {a : Int} {u m : Nat} {v o : Nat} (ht : isT t n) (ha : -2147483648 ≤ a ∧ a ≤ 2147483647) (hu : isT u m) (hv : isT v o) : hG (zs zK) d mt_98 0 (zargs 0 [.inr (.inr 366), .inr (.inr t), .inl a, .inr (.inr u), .inr (.inr v)]) [] H (fun r9 H9 => ∃ z : Int, r9 = some (.inl z) ∧ ((0 ≤ z ∧ z ≤ 1)) ∧ Inv H9 ∧ fq [] [] false H H9) := by
  have htb := ht.2.2.2.2
  have hub := hu.2.2.2.2
  have hvb := hv.2.2.2.2
  refine k_run 0 (pc' := 0) (l' := [(0, .inr (.inr 366)), (1, .inr (.inr t)), (2, .inl a), (3, .inr (.inr u)), (4, .inr (.inr v))]) (st' := []) rfl ?_
  refine k_run 2 (pc' := 3) (l' := [(0, .inr (.inr 366)), (1, .inr (.inr t)), (2, .inl a), (3, .inr (.inr u)), (4, .inr (.inr v))]) (st' := [.inl 0, .inr (.inr v)]) rfl ?_
  refine k_puti (z := 0) (a := v) (x := (kTo v o)) rfl rfl hv.1 (iT0 hv) hv.2.2.1 rfl rfl rfl rfl hI (by decide) (show 0 ≤ (0 : Int) ∧ (0 : Int) ≤ o by omega) (fun H1 hI2 hw3 hv4 => ?_)
  have hf5 : fq [] [] false H H1 := fq_w (fq_rf _ _ _ _) hw3 (fpT hv)
  refine k_run 0 (pc' := 6) (l' := [(0, .inr (.inr 366)), (1, .inr (.inr t)), (2, .inl a), (3, .inr (.inr u)), (4, .inr (.inr v))]) (st' := []) rfl ?_
  refine k_run 4 (pc' := 11) (l' := [(0, .inr (.inr 366)), (1, .inr (.inr t)), (2, .inl a), (3, .inr (.inr u)), (4, .inr (.inr v))]) (st' := [.inl a, .inl 0, .inr (.inr t), .inr (.inr v)]) rfl ?_
  refine h_cv (i := 85) (j := 54) (b := v) (M' := mt_54) (xs := [.inl a, .inl 0, .inr (.inr t)]) (rest := []) rfl rfl rfl rfl (by rw [zs_K hv.1 (iT0 hv)]; rfl) rfl (Nat.le_of_ble_eq_true rfl) (Nat.le_of_ble_eq_true rfl) (by omega) (k_Term_append (by omega) hI2 hv ht (by decide) (by omega) (by omega)) ?_
  rintro _ H7 ⟨z10, rfl, g6, hI8, hq9⟩
  have hf11 : fq [] [] false H H7 := fq_t hf5 hq9 rfl rfl rfl
  refine k_run 0 (pc' := 14) (l' := [(0, .inr (.inr 366)), (1, .inr (.inr t)), (2, .inl a), (3, .inr (.inr u)), (4, .inr (.inr v))]) (st' := [.inl z10]) rfl ?_
  refine h_zne (off := 5) (t := 19) rfl rfl (by omega) (fun c12 => ?_) (fun c12 => ?_)
  · refine k_run 0 (pc' := 19) (l' := [(0, .inr (.inr 366)), (1, .inr (.inr t)), (2, .inl a), (3, .inr (.inr u)), (4, .inr (.inr v))]) (st' := []) rfl ?_
    refine k_run 2 (pc' := 22) (l' := [(0, .inr (.inr 366)), (1, .inr (.inr t)), (2, .inl a), (3, .inr (.inr u)), (4, .inr (.inr v)), (5, .inl 0)]) (st' := []) rfl ?_
    exact (k_Rewriter_replaceAt_cut hd hI ht ha hu hv _) H7 hI8 hf11 (0 : Int) (by decide) (by omega) (Nat.lt_succ_self _)
  · refine k_run 0 (pc' := 17) (l' := [(0, .inr (.inr 366)), (1, .inr (.inr t)), (2, .inl a), (3, .inr (.inr u)), (4, .inr (.inr v))]) (st' := []) rfl ?_
    refine k_run 1 (pc' := 18) (l' := [(0, .inr (.inr 366)), (1, .inr (.inr t)), (2, .inl a), (3, .inr (.inr u)), (4, .inr (.inr v))]) (st' := [.inl 0]) rfl ?_
    refine h_retz (x := 0) rfl rfl (by decide) ?_
    exact ⟨_, rfl, (by omega), hI8, hf11⟩

/-! Rewriter.firstCall -/
set_option maxRecDepth 100000 in
theorem k_Rewriter_firstCall_cut {d : Nat} (hd : 2 ≤ d) {H : hp} (hI : Inv H) {t n : Nat} (ht : isT t n) : ∀ w : Nat, (∀ (x1 : Int) , (-2147483648 ≤ x1 ∧ x1 ≤ 2147483647) → (0 ≤ x1) → (((1000 - x1).toNat) < w) → hG (zs zK) d mt_100 2 [(0, .inr (.inr t)), (1, .inl x1)] [] H (fun r9 H9 => ∃ z : Int, r9 = some (.inl z) ∧ ((-2147483648 ≤ z ∧ z ≤ 2147483647) ∧ (-1 ≤ z ∧ z < 240)) ∧ H = H9)) := by
  intro w
  induction w with
  | zero => exact fun _ _ _ h => absurd h (Nat.not_lt_zero _)
  | succ w ih =>
    intro x1 hx1 hi0 hw
    have htb := ht.2.2.2.2
    refine k_run 2 (pc' := 4) (l' := [(0, .inr (.inr t)), (1, .inl x1)]) (st' := [.inr (.inr t), .inl x1]) rfl ?_
    refine k_get (a := t) (x := (kTo t n)) (v := .inl (H.1 t 1)) rfl rfl ht.1 (iT0 ht) rfl rfl rfl ?_
    have g1 : 0 ≤ (H.1 t 1) ∧ (H.1 t 1) ≤ n := kn hI ht.1 1
    refine k_run 0 (pc' := 7) (l' := [(0, .inr (.inr t)), (1, .inl x1)]) (st' := [.inl (H.1 t 1), .inl x1]) rfl ?_
    refine h_ige (off := 24) (t := 31) rfl rfl (by omega) (by omega) (fun c2 => ?_) (fun c2 => ?_)
    · refine k_run 0 (pc' := 31) (l' := [(0, .inr (.inr t)), (1, .inl x1)]) (st' := []) rfl ?_
      refine k_run 1 (pc' := 32) (l' := [(0, .inr (.inr t)), (1, .inl x1)]) (st' := [.inl (-1)]) rfl ?_
      refine h_reti (x := (-1)) rfl rfl ?_
      exact ⟨_, rfl, (by omega), rfl⟩
    · refine k_run 0 (pc' := 10) (l' := [(0, .inr (.inr t)), (1, .inl x1)]) (st' := []) rfl ?_
      refine k_run 1 (pc' := 11) (l' := [(0, .inr (.inr t)), (1, .inl x1)]) (st' := [.inr (.inr t)]) rfl ?_
      refine k_get (a := t) (x := (kTo t n)) (v := .inr (.inr (t + 1))) rfl rfl ht.1 (iT0 ht) rfl rfl rfl ?_
      refine k_run 0 (pc' := 14) (l' := [(0, .inr (.inr t)), (1, .inl x1)]) (st' := [.inr (.inr (t + 1))]) rfl ?_
      refine k_run 1 (pc' := 15) (l' := [(0, .inr (.inr t)), (1, .inl x1)]) (st' := [.inl x1, .inr (.inr (t + 1))]) rfl ?_
      refine k_ild (c := (t + 1)) (j := (x1).toNat) (i := x1) (x := (kTc n)) rfl ht.2.1 (iT1 ht) rfl (by omega) (by omega) (by omega) ?_
      have g3 : -2147483648 ≤ (H.1 (t + 1) (x1).toNat) ∧ (H.1 (t + 1) (x1).toNat) ≤ 2147483647 := kn hI ht.2.1 (x1).toNat
      refine k_run 0 (pc' := 16) (l' := [(0, .inr (.inr t)), (1, .inl x1)]) (st' := [.inl (H.1 (t + 1) (x1).toNat)]) rfl ?_
      refine h_cs (i := 45) (j := 49) (M' := mt_49) (xs := [.inl (H.1 (t + 1) (x1).toNat)]) (rest := []) rfl rfl rfl rfl rfl (Nat.le_of_ble_eq_true rfl) (Nat.le_of_ble_eq_true rfl) (by omega) (k_Term_kindOf (by omega)  (by omega)) ?_
      rintro _ _ ⟨z8, rfl, g4, rfl⟩
      refine k_run 0 (pc' := 19) (l' := [(0, .inr (.inr t)), (1, .inl x1)]) (st' := [.inl z8]) rfl ?_
      refine k_run 1 (pc' := 20) (l' := [(0, .inr (.inr t)), (1, .inl x1)]) (st' := [.inl 2, .inl z8]) rfl ?_
      refine h_ine (off := 5) (t := 25) rfl rfl (by omega) (by decide) (fun c9 => ?_) (fun c9 => ?_)
      · refine k_run 0 (pc' := 25) (l' := [(0, .inr (.inr t)), (1, .inl x1)]) (st' := []) rfl ?_
        refine k_run 2 (pc' := 2) (l' := [(0, .inr (.inr t)), (1, .inl (x1 + 1))]) (st' := []) rfl ?_
        exact ih (x1 + 1) (by omega) (by omega) (by omega)
      · refine k_run 0 (pc' := 23) (l' := [(0, .inr (.inr t)), (1, .inl x1)]) (st' := []) rfl ?_
        refine k_run 1 (pc' := 24) (l' := [(0, .inr (.inr t)), (1, .inl x1)]) (st' := [.inl x1]) rfl ?_
        refine h_reti (x := x1) rfl rfl ?_
        exact ⟨_, rfl, (by omega), rfl⟩
set_option maxRecDepth 100000 in
theorem k_Rewriter_firstCall {d : Nat} (hd : 2 ≤ d) {H : hp} (hI : Inv H) {t n : Nat} (ht : isT t n) : hG (zs zK) d mt_100 0 (zargs 0 [.inr (.inr t)]) [] H (fun r9 H9 => ∃ z : Int, r9 = some (.inl z) ∧ ((-2147483648 ≤ z ∧ z ≤ 2147483647) ∧ (-1 ≤ z ∧ z < 240)) ∧ H = H9) := by
  have htb := ht.2.2.2.2
  refine k_run 0 (pc' := 0) (l' := [(0, .inr (.inr t))]) (st' := []) rfl ?_
  refine k_run 2 (pc' := 2) (l' := [(0, .inr (.inr t)), (1, .inl 0)]) (st' := []) rfl ?_
  exact (k_Rewriter_firstCall_cut hd hI ht _) (0 : Int) (by decide) (by omega) (Nat.lt_succ_self _)

/-! Rewriter.workOut -/
set_option maxRecDepth 100000 in
theorem k_Rewriter_workOut_cut {d : Nat} (hd : 4 ≤ d) {H : hp} (hI : Inv H) {t n : Nat} {b : Int} (ht : isT t n) (hb : -2147483648 ≤ b ∧ b ≤ 2147483647) (hp0 : 0 ≤ b ∧ b ≤ 2000) : ∀ w : Nat, (∀ (H1 : hp), Inv H1 → fq [(366, 4), (366, 5), (366, 6)] [367] false H H1 → ∀ (x3 : Int) , (-2147483648 ≤ x3 ∧ x3 ≤ 2147483647) → (((1000 * (3000 - H1.1 366 6) + 600).toNat) < w) → hG (zs zK) d mt_99 10 [(0, .inr (.inr 366)), (1, .inr (.inr t)), (2, .inl b), (3, .inl x3)] [] H1 (fun r9 H9 => ∃ z : Int, r9 = some (.inl z) ∧ ((-2147483648 ≤ z ∧ z ≤ 2147483647)) ∧ Inv H9 ∧ fq [(366, 4), (366, 5), (366, 6)] [367] false H H9)) ∧ (∀ (H1 : hp), Inv H1 → fq [(366, 4), (366, 5), (366, 6)] [367] false H H1 → ∀ (x3 : Int) (x4 : Int) (x5 : Int) , (-2147483648 ≤ x3 ∧ x3 ≤ 2147483647) → (-2147483648 ≤ x4 ∧ x4 ≤ 2147483647) → (-2147483648 ≤ x5 ∧ x5 ≤ 2147483647) → (H1.1 366 6 < b) → (0 ≤ x5 ∧ x5 ≤ 300) → (((1000 * (3000 - H1.1 366 6) + 500 - x5).toNat) < w) → hG (zs zK) d mt_99 33 [(0, .inr (.inr 366)), (1, .inr (.inr t)), (2, .inl b), (3, .inl x3), (4, .inl x4), (5, .inl x5)] [] H1 (fun r9 H9 => ∃ z : Int, r9 = some (.inl z) ∧ ((-2147483648 ≤ z ∧ z ≤ 2147483647)) ∧ Inv H9 ∧ fq [(366, 4), (366, 5), (366, 6)] [367] false H H9)) := by
  intro w
  induction w with
  | zero => exact ⟨fun _ _ _ _ _ h => absurd h (Nat.not_lt_zero _), fun _ _ _ _ _ _ _ _ _ _ _ h => absurd h (Nat.not_lt_zero _)⟩
  | succ w ih =>
    refine ⟨?_, ?_⟩
    · intro H1 hI1 hf1 x3 hx3 hw
      have htb := ht.2.2.2.2
      have hq9 : 0 ≤ H1.1 366 6 ∧ H1.1 366 6 ≤ 2000 := kn (x := kx_366) hI1 rfl 6
      have g12 : 0 ≤ (H1.1 366 6) ∧ (H1.1 366 6) ≤ 2000 := kn (x := kx_366) hI1 rfl 6
      refine k_run 1 (pc' := 11) (l' := [(0, .inr (.inr 366)), (1, .inr (.inr t)), (2, .inl b), (3, .inl x3)]) (st' := [.inl x3]) rfl ?_
      refine h_zlt (off := 101) (t := 112) rfl rfl (by omega) (fun c13 => ?_) (fun c13 => ?_)
      · refine k_run 0 (pc' := 112) (l' := [(0, .inr (.inr 366)), (1, .inr (.inr t)), (2, .inl b), (3, .inl x3)]) (st' := []) rfl ?_
        refine k_run 1 (pc' := 113) (l' := [(0, .inr (.inr 366)), (1, .inr (.inr t)), (2, .inl b), (3, .inl x3)]) (st' := [.inl x3]) rfl ?_
        refine h_zge (off := 7) (t := 120) rfl rfl (by omega) (fun c14 => ?_) (fun c14 => ?_)
        · exfalso
          omega
        · refine k_run 0 (pc' := 116) (l' := [(0, .inr (.inr 366)), (1, .inr (.inr t)), (2, .inl b), (3, .inl x3)]) (st' := []) rfl ?_
          refine k_run 2 (pc' := 121) (l' := [(0, .inr (.inr 366)), (1, .inr (.inr t)), (2, .inl b), (3, .inl x3)]) (st' := [.inl 0]) rfl ?_
          refine h_reti (x := 0) rfl rfl ?_
          exact ⟨_, rfl, (by omega), hI1, hf1⟩
      · refine k_run 0 (pc' := 14) (l' := [(0, .inr (.inr 366)), (1, .inr (.inr t)), (2, .inl b), (3, .inl x3)]) (st' := []) rfl ?_
        refine k_run 3 (pc' := 19) (l' := [(0, .inr (.inr 366)), (1, .inr (.inr t)), (2, .inl b), (3, .inl x3)]) (st' := [.inl b, .inl (H1.1 366 6)]) rfl ?_
        refine h_ige (off := 93) (t := 112) rfl rfl (by omega) (by omega) (fun c15 => ?_) (fun c15 => ?_)
        · refine k_run 0 (pc' := 112) (l' := [(0, .inr (.inr 366)), (1, .inr (.inr t)), (2, .inl b), (3, .inl x3)]) (st' := []) rfl ?_
          refine k_run 1 (pc' := 113) (l' := [(0, .inr (.inr 366)), (1, .inr (.inr t)), (2, .inl b), (3, .inl x3)]) (st' := [.inl x3]) rfl ?_
          refine h_zge (off := 7) (t := 120) rfl rfl (by omega) (fun c16 => ?_) (fun c16 => ?_)
          · refine k_run 0 (pc' := 120) (l' := [(0, .inr (.inr 366)), (1, .inr (.inr t)), (2, .inl b), (3, .inl x3)]) (st' := []) rfl ?_
            refine k_run 1 (pc' := 121) (l' := [(0, .inr (.inr 366)), (1, .inr (.inr t)), (2, .inl b), (3, .inl x3)]) (st' := [.inl 1]) rfl ?_
            refine h_reti (x := 1) rfl rfl ?_
            exact ⟨_, rfl, (by omega), hI1, hf1⟩
          · exfalso
            omega
        · refine k_run 0 (pc' := 22) (l' := [(0, .inr (.inr 366)), (1, .inr (.inr t)), (2, .inl b), (3, .inl x3)]) (st' := []) rfl ?_
          refine k_run 3 (pc' := 25) (l' := [(0, .inr (.inr 366)), (1, .inr (.inr t)), (2, .inl b), (3, .inl x3)]) (st' := [.inl x3, .inr (.inr t), .inr (.inr 366)]) rfl ?_
          refine h_cv (i := 96) (j := 94) (b := 366) (M' := mt_94) (xs := [.inl x3, .inr (.inr t)]) (rest := []) rfl rfl rfl rfl (zs_K (x := kx_366) rfl (by decide)) rfl (Nat.le_of_ble_eq_true rfl) (Nat.le_of_ble_eq_true rfl) (by omega) (k_Rewriter_matchCall (by omega) hI1 ht (by omega)) ?_
          rintro _ H18 ⟨z21, rfl, g17, hI19, hq20⟩
          have hf22 : fq [(366, 4), (366, 5), (366, 6)] [367] false H H18 := fq_t hf1 hq20 rfl rfl rfl
          refine k_run 0 (pc' := 28) (l' := [(0, .inr (.inr 366)), (1, .inr (.inr t)), (2, .inl b), (3, .inl x3)]) (st' := [.inl z21]) rfl ?_
          refine k_run 3 (pc' := 33) (l' := [(0, .inr (.inr 366)), (1, .inr (.inr t)), (2, .inl b), (3, .inl x3), (4, .inl z21), (5, .inl 0)]) (st' := []) rfl ?_
          have g23 : 0 ≤ (H18.1 366 6) ∧ (H18.1 366 6) ≤ 2000 := kn (x := kx_366) hI19 rfl 6
          have e24 : (H18.1 366 6) = (H1.1 366 6) := (hq20.1 366 6 rfl (by decide) (by decide)).1
          exact ih.2 H18 hI19 hf22 x3 z21 (0 : Int) (by omega) (by omega) (by decide) (by omega) (by omega) (by omega)
    · intro H1 hI1 hf1 x3 x4 x5 hx3 hx4 hx5 hi0 hi1 hw
      have htb := ht.2.2.2.2
      have hq9 : 0 ≤ H1.1 366 6 ∧ H1.1 366 6 ≤ 2000 := kn (x := kx_366) hI1 rfl 6
      have g25 : 0 ≤ (H1.1 366 6) ∧ (H1.1 366 6) ≤ 2000 := kn (x := kx_366) hI1 rfl 6
      refine k_run 2 (pc' := 36) (l' := [(0, .inr (.inr 366)), (1, .inr (.inr t)), (2, .inl b), (3, .inl x3), (4, .inl x4), (5, .inl x5)]) (st' := [.inl 2, .inl x4]) rfl ?_
      refine h_ine (off := 31) (t := 67) rfl rfl (by omega) (by decide) (fun c26 => ?_) (fun c26 => ?_)
      · refine k_run 0 (pc' := 67) (l' := [(0, .inr (.inr 366)), (1, .inr (.inr t)), (2, .inl b), (3, .inl x3), (4, .inl x4), (5, .inl x5)]) (st' := []) rfl ?_
        refine k_run 4 (pc' := 71) (l' := [(0, .inr (.inr 366)), (1, .inr (.inr t)), (2, .inl b), (3, .inl x3), (4, .inl x4), (5, .inl x5)]) (st' := [.inr (.inr 366), .inl x3, .inr (.inr t), .inr (.inr 366)]) rfl ?_
        refine k_getr (a := 366) (x := kx_366) rfl rfl rfl (by decide) rfl rfl rfl hI1 (fun h27 => ?_)
        obtain ⟨t28, et30⟩ : ∃ t9, t9 = H1.2 366 4 := ⟨_, rfl⟩
        rw [← et30] at h27 ⊢
        obtain ⟨n31, k29⟩ := (show ∃ n, isT t28 n from h27)
        have k29b := k29.2.2.2.2
        refine k_run 0 (pc' := 74) (l' := [(0, .inr (.inr 366)), (1, .inr (.inr t)), (2, .inl b), (3, .inl x3), (4, .inl x4), (5, .inl x5)]) (st' := [.inr (.inr t28), .inl x3, .inr (.inr t), .inr (.inr 366)]) rfl ?_
        refine k_run 2 (pc' := 78) (l' := [(0, .inr (.inr 366)), (1, .inr (.inr t)), (2, .inl b), (3, .inl x3), (4, .inl x4), (5, .inl x5)]) (st' := [.inr (.inr 370), .inr (.inr t28), .inl x3, .inr (.inr t), .inr (.inr 366)]) rfl ?_
        refine h_cv (i := 100) (j := 98) (b := 366) (M' := mt_98) (xs := [.inr (.inr 370), .inr (.inr t28), .inl x3, .inr (.inr t)]) (rest := []) rfl rfl rfl rfl (zs_K (x := kx_366) rfl (by decide)) rfl (Nat.le_of_ble_eq_true rfl) (Nat.le_of_ble_eq_true rfl) (by omega) (k_Rewriter_replaceAt (by omega) hI1 ht (by omega) k29 iT_370) ?_
        rintro _ H33 ⟨z36, rfl, g32, hI34, hq35⟩
        have hf37 : fq [(366, 4), (366, 5), (366, 6)] [367] false H H33 := fq_t hf1 hq35 rfl rfl rfl
        refine k_run 0 (pc' := 81) (l' := [(0, .inr (.inr 366)), (1, .inr (.inr t)), (2, .inl b), (3, .inl x3), (4, .inl x4), (5, .inl x5)]) (st' := [.inl z36]) rfl ?_
        refine h_zne (off := 5) (t := 86) rfl rfl (by omega) (fun c38 => ?_) (fun c38 => ?_)
        · refine k_run 0 (pc' := 86) (l' := [(0, .inr (.inr 366)), (1, .inr (.inr t)), (2, .inl b), (3, .inl x3), (4, .inl x4), (5, .inl x5)]) (st' := []) rfl ?_
          refine k_run 3 (pc' := 91) (l' := [(0, .inr (.inr 366)), (1, .inr (.inr t)), (2, .inl b), (3, .inl x3), (4, .inl x4), (5, .inl x5)]) (st' := [.inr (.inr 370), .inr (.inr t)]) rfl ?_
          refine h_cv (i := 104) (j := 55) (b := t) (M' := mt_55) (xs := [.inr (.inr 370)]) (rest := []) rfl rfl rfl rfl (by rw [zs_K ht.1 (iT0 ht)]; rfl) rfl (Nat.le_of_ble_eq_true rfl) (Nat.le_of_ble_eq_true rfl) (by omega) (k_Term_copy (by omega) hI34 ht iT_370) ?_
          rintro _ H40 ⟨rfl, hI41, hq42⟩
          have hf43 : fq [(366, 4), (366, 5), (366, 6)] [367] false H H40 := fq_t hf37 hq42 rfl rfl rfl
          refine k_run 0 (pc' := 94) (l' := [(0, .inr (.inr 366)), (1, .inr (.inr t)), (2, .inl b), (3, .inl x3), (4, .inl x4), (5, .inl x5)]) (st' := []) rfl ?_
          refine k_run 3 (pc' := 99) (l' := [(0, .inr (.inr 366)), (1, .inr (.inr t)), (2, .inl b), (3, .inl x3), (4, .inl x4), (5, .inl x5)]) (st' := [.inl (H40.1 366 6), .inr (.inr 366)]) rfl ?_
          have g44 : 0 ≤ (H40.1 366 6) ∧ (H40.1 366 6) ≤ 2000 := kn (x := kx_366) hI41 rfl 6
          have e45 : (H40.1 366 6) = (H33.1 366 6) := (hq42.1 366 6 rfl (by decide) (by decide)).1
          have e46 : (H33.1 366 6) = (H1.1 366 6) := (hq35.1 366 6 rfl (by decide) (by decide)).1
          refine k_run 2 (pc' := 101) (l' := [(0, .inr (.inr 366)), (1, .inr (.inr t)), (2, .inl b), (3, .inl x3), (4, .inl x4), (5, .inl x5)]) (st' := [.inl ((H40.1 366 6) + 1), .inr (.inr 366)]) rfl ?_
          refine k_puti (z := ((H40.1 366 6) + 1)) (a := 366) (x := kx_366) rfl rfl rfl (by decide) (by decide) rfl rfl rfl rfl hI41 (by omega) (show 0 ≤ ((H40.1 366 6) + 1) ∧ ((H40.1 366 6) + 1) ≤ 2000 by omega) (fun H47 hI48 hw49 hv50 => ?_)
          have hf51 : fq [(366, 4), (366, 5), (366, 6)] [367] false H H47 := fq_w hf43 hw49 (fpo (by decide) rfl)
          refine k_run 0 (pc' := 104) (l' := [(0, .inr (.inr 366)), (1, .inr (.inr t)), (2, .inl b), (3, .inl x3), (4, .inl x4), (5, .inl x5)]) (st' := []) rfl ?_
          refine k_run 1 (pc' := 105) (l' := [(0, .inr (.inr 366)), (1, .inr (.inr t)), (2, .inl b), (3, .inl x3), (4, .inl x4), (5, .inl x5)]) (st' := [.inr (.inr t)]) rfl ?_
          refine h_cs (i := 92) (j := 100) (M' := mt_100) (xs := [.inr (.inr t)]) (rest := []) rfl rfl rfl rfl rfl (Nat.le_of_ble_eq_true rfl) (Nat.le_of_ble_eq_true rfl) (by omega) (k_Rewriter_firstCall (by omega) hI48 ht) ?_
          rintro _ _ ⟨z56, rfl, g52, rfl⟩
          refine k_run 0 (pc' := 108) (l' := [(0, .inr (.inr 366)), (1, .inr (.inr t)), (2, .inl b), (3, .inl x3), (4, .inl x4), (5, .inl x5)]) (st' := [.inl z56]) rfl ?_
          refine k_run 2 (pc' := 10) (l' := [(0, .inr (.inr 366)), (1, .inr (.inr t)), (2, .inl b), (3, .inl z56), (4, .inl x4), (5, .inl x5)]) (st' := []) rfl ?_
          have g57 : 0 ≤ (H47.1 366 6) ∧ (H47.1 366 6) ≤ 2000 := kn (x := kx_366) hI48 rfl 6
          refine h_loc [0, 1, 2, 3] rfl ?_
          exact ih.1 H47 hI48 hf51 z56 (by omega) (by omega)
        · refine k_run 0 (pc' := 84) (l' := [(0, .inr (.inr 366)), (1, .inr (.inr t)), (2, .inl b), (3, .inl x3), (4, .inl x4), (5, .inl x5)]) (st' := []) rfl ?_
          refine k_run 1 (pc' := 85) (l' := [(0, .inr (.inr 366)), (1, .inr (.inr t)), (2, .inl b), (3, .inl x3), (4, .inl x4), (5, .inl x5)]) (st' := [.inl 2]) rfl ?_
          refine h_reti (x := 2) rfl rfl ?_
          exact ⟨_, rfl, (by omega), hI34, hf37⟩
      · refine k_run 0 (pc' := 39) (l' := [(0, .inr (.inr 366)), (1, .inr (.inr t)), (2, .inl b), (3, .inl x3), (4, .inl x4), (5, .inl x5)]) (st' := []) rfl ?_
        refine k_run 2 (pc' := 42) (l' := [(0, .inr (.inr 366)), (1, .inr (.inr t)), (2, .inl b), (3, .inl x3), (4, .inl x4), (5, .inl x5)]) (st' := [.inr (.inr t), .inl x5]) rfl ?_
        refine k_get (a := t) (x := (kTo t n)) (v := .inl (H1.1 t 1)) rfl rfl ht.1 (iT0 ht) rfl rfl rfl ?_
        have g58 : 0 ≤ (H1.1 t 1) ∧ (H1.1 t 1) ≤ n := kn hI1 ht.1 1
        refine k_run 0 (pc' := 45) (l' := [(0, .inr (.inr 366)), (1, .inr (.inr t)), (2, .inl b), (3, .inl x3), (4, .inl x4), (5, .inl x5)]) (st' := [.inl (H1.1 t 1), .inl x5]) rfl ?_
        refine h_ige (off := 22) (t := 67) rfl rfl (by omega) (by omega) (fun c59 => ?_) (fun c59 => ?_)
        · refine k_run 0 (pc' := 67) (l' := [(0, .inr (.inr 366)), (1, .inr (.inr t)), (2, .inl b), (3, .inl x3), (4, .inl x4), (5, .inl x5)]) (st' := []) rfl ?_
          refine k_run 4 (pc' := 71) (l' := [(0, .inr (.inr 366)), (1, .inr (.inr t)), (2, .inl b), (3, .inl x3), (4, .inl x4), (5, .inl x5)]) (st' := [.inr (.inr 366), .inl x3, .inr (.inr t), .inr (.inr 366)]) rfl ?_
          refine k_getr (a := 366) (x := kx_366) rfl rfl rfl (by decide) rfl rfl rfl hI1 (fun h60 => ?_)
          obtain ⟨t61, et63⟩ : ∃ t9, t9 = H1.2 366 4 := ⟨_, rfl⟩
          rw [← et63] at h60 ⊢
          obtain ⟨n64, k62⟩ := (show ∃ n, isT t61 n from h60)
          have k62b := k62.2.2.2.2
          refine k_run 0 (pc' := 74) (l' := [(0, .inr (.inr 366)), (1, .inr (.inr t)), (2, .inl b), (3, .inl x3), (4, .inl x4), (5, .inl x5)]) (st' := [.inr (.inr t61), .inl x3, .inr (.inr t), .inr (.inr 366)]) rfl ?_
          refine k_run 2 (pc' := 78) (l' := [(0, .inr (.inr 366)), (1, .inr (.inr t)), (2, .inl b), (3, .inl x3), (4, .inl x4), (5, .inl x5)]) (st' := [.inr (.inr 370), .inr (.inr t61), .inl x3, .inr (.inr t), .inr (.inr 366)]) rfl ?_
          refine h_cv (i := 100) (j := 98) (b := 366) (M' := mt_98) (xs := [.inr (.inr 370), .inr (.inr t61), .inl x3, .inr (.inr t)]) (rest := []) rfl rfl rfl rfl (zs_K (x := kx_366) rfl (by decide)) rfl (Nat.le_of_ble_eq_true rfl) (Nat.le_of_ble_eq_true rfl) (by omega) (k_Rewriter_replaceAt (by omega) hI1 ht (by omega) k62 iT_370) ?_
          rintro _ H66 ⟨z69, rfl, g65, hI67, hq68⟩
          have hf70 : fq [(366, 4), (366, 5), (366, 6)] [367] false H H66 := fq_t hf1 hq68 rfl rfl rfl
          refine k_run 0 (pc' := 81) (l' := [(0, .inr (.inr 366)), (1, .inr (.inr t)), (2, .inl b), (3, .inl x3), (4, .inl x4), (5, .inl x5)]) (st' := [.inl z69]) rfl ?_
          refine h_zne (off := 5) (t := 86) rfl rfl (by omega) (fun c71 => ?_) (fun c71 => ?_)
          · refine k_run 0 (pc' := 86) (l' := [(0, .inr (.inr 366)), (1, .inr (.inr t)), (2, .inl b), (3, .inl x3), (4, .inl x4), (5, .inl x5)]) (st' := []) rfl ?_
            refine k_run 3 (pc' := 91) (l' := [(0, .inr (.inr 366)), (1, .inr (.inr t)), (2, .inl b), (3, .inl x3), (4, .inl x4), (5, .inl x5)]) (st' := [.inr (.inr 370), .inr (.inr t)]) rfl ?_
            refine h_cv (i := 104) (j := 55) (b := t) (M' := mt_55) (xs := [.inr (.inr 370)]) (rest := []) rfl rfl rfl rfl (by rw [zs_K ht.1 (iT0 ht)]; rfl) rfl (Nat.le_of_ble_eq_true rfl) (Nat.le_of_ble_eq_true rfl) (by omega) (k_Term_copy (by omega) hI67 ht iT_370) ?_
            rintro _ H73 ⟨rfl, hI74, hq75⟩
            have hf76 : fq [(366, 4), (366, 5), (366, 6)] [367] false H H73 := fq_t hf70 hq75 rfl rfl rfl
            refine k_run 0 (pc' := 94) (l' := [(0, .inr (.inr 366)), (1, .inr (.inr t)), (2, .inl b), (3, .inl x3), (4, .inl x4), (5, .inl x5)]) (st' := []) rfl ?_
            refine k_run 3 (pc' := 99) (l' := [(0, .inr (.inr 366)), (1, .inr (.inr t)), (2, .inl b), (3, .inl x3), (4, .inl x4), (5, .inl x5)]) (st' := [.inl (H73.1 366 6), .inr (.inr 366)]) rfl ?_
            have g77 : 0 ≤ (H73.1 366 6) ∧ (H73.1 366 6) ≤ 2000 := kn (x := kx_366) hI74 rfl 6
            have e78 : (H73.1 366 6) = (H66.1 366 6) := (hq75.1 366 6 rfl (by decide) (by decide)).1
            have e79 : (H66.1 366 6) = (H1.1 366 6) := (hq68.1 366 6 rfl (by decide) (by decide)).1
            refine k_run 2 (pc' := 101) (l' := [(0, .inr (.inr 366)), (1, .inr (.inr t)), (2, .inl b), (3, .inl x3), (4, .inl x4), (5, .inl x5)]) (st' := [.inl ((H73.1 366 6) + 1), .inr (.inr 366)]) rfl ?_
            refine k_puti (z := ((H73.1 366 6) + 1)) (a := 366) (x := kx_366) rfl rfl rfl (by decide) (by decide) rfl rfl rfl rfl hI74 (by omega) (show 0 ≤ ((H73.1 366 6) + 1) ∧ ((H73.1 366 6) + 1) ≤ 2000 by omega) (fun H80 hI81 hw82 hv83 => ?_)
            have hf84 : fq [(366, 4), (366, 5), (366, 6)] [367] false H H80 := fq_w hf76 hw82 (fpo (by decide) rfl)
            refine k_run 0 (pc' := 104) (l' := [(0, .inr (.inr 366)), (1, .inr (.inr t)), (2, .inl b), (3, .inl x3), (4, .inl x4), (5, .inl x5)]) (st' := []) rfl ?_
            refine k_run 1 (pc' := 105) (l' := [(0, .inr (.inr 366)), (1, .inr (.inr t)), (2, .inl b), (3, .inl x3), (4, .inl x4), (5, .inl x5)]) (st' := [.inr (.inr t)]) rfl ?_
            refine h_cs (i := 92) (j := 100) (M' := mt_100) (xs := [.inr (.inr t)]) (rest := []) rfl rfl rfl rfl rfl (Nat.le_of_ble_eq_true rfl) (Nat.le_of_ble_eq_true rfl) (by omega) (k_Rewriter_firstCall (by omega) hI81 ht) ?_
            rintro _ _ ⟨z89, rfl, g85, rfl⟩
            refine k_run 0 (pc' := 108) (l' := [(0, .inr (.inr 366)), (1, .inr (.inr t)), (2, .inl b), (3, .inl x3), (4, .inl x4), (5, .inl x5)]) (st' := [.inl z89]) rfl ?_
            refine k_run 2 (pc' := 10) (l' := [(0, .inr (.inr 366)), (1, .inr (.inr t)), (2, .inl b), (3, .inl z89), (4, .inl x4), (5, .inl x5)]) (st' := []) rfl ?_
            have g90 : 0 ≤ (H80.1 366 6) ∧ (H80.1 366 6) ≤ 2000 := kn (x := kx_366) hI81 rfl 6
            refine h_loc [0, 1, 2, 3] rfl ?_
            exact ih.1 H80 hI81 hf84 z89 (by omega) (by omega)
          · refine k_run 0 (pc' := 84) (l' := [(0, .inr (.inr 366)), (1, .inr (.inr t)), (2, .inl b), (3, .inl x3), (4, .inl x4), (5, .inl x5)]) (st' := []) rfl ?_
            refine k_run 1 (pc' := 85) (l' := [(0, .inr (.inr 366)), (1, .inr (.inr t)), (2, .inl b), (3, .inl x3), (4, .inl x4), (5, .inl x5)]) (st' := [.inl 2]) rfl ?_
            refine h_reti (x := 2) rfl rfl ?_
            exact ⟨_, rfl, (by omega), hI67, hf70⟩
        · refine k_run 0 (pc' := 48) (l' := [(0, .inr (.inr 366)), (1, .inr (.inr t)), (2, .inl b), (3, .inl x3), (4, .inl x4), (5, .inl x5)]) (st' := []) rfl ?_
          refine k_run 2 (pc' := 52) (l' := [(0, .inr (.inr 366)), (1, .inr (.inr t)), (2, .inl b), (3, .inl x3), (4, .inl x4), (5, .inl x5)]) (st' := [.inl (H1.1 366 5)]) rfl ?_
          have g91 : -2147483648 ≤ (H1.1 366 5) ∧ (H1.1 366 5) ≤ 2147483647 := kn (x := kx_366) hI1 rfl 5
          refine k_run 4 (pc' := 56) (l' := [(0, .inr (.inr 366)), (1, .inr (.inr t)), (2, .inl b), (3, .inl (H1.1 366 5)), (4, .inl x4), (5, .inl x5)]) (st' := [.inl (H1.1 366 5), .inr (.inr t), .inr (.inr 366)]) rfl ?_
          refine h_cv (i := 96) (j := 94) (b := 366) (M' := mt_94) (xs := [.inl (H1.1 366 5), .inr (.inr t)]) (rest := []) rfl rfl rfl rfl (zs_K (x := kx_366) rfl (by decide)) rfl (Nat.le_of_ble_eq_true rfl) (Nat.le_of_ble_eq_true rfl) (by omega) (k_Rewriter_matchCall (by omega) hI1 ht (by omega)) ?_
          rintro _ H93 ⟨z96, rfl, g92, hI94, hq95⟩
          have hf97 : fq [(366, 4), (366, 5), (366, 6)] [367] false H H93 := fq_t hf1 hq95 rfl rfl rfl
          refine k_run 0 (pc' := 59) (l' := [(0, .inr (.inr 366)), (1, .inr (.inr t)), (2, .inl b), (3, .inl (H1.1 366 5)), (4, .inl x4), (5, .inl x5)]) (st' := [.inl z96]) rfl ?_
          refine k_run 3 (pc' := 33) (l' := [(0, .inr (.inr 366)), (1, .inr (.inr t)), (2, .inl b), (3, .inl (H1.1 366 5)), (4, .inl z96), (5, .inl (x5 + 1))]) (st' := []) rfl ?_
          have g98 : 0 ≤ (H93.1 366 6) ∧ (H93.1 366 6) ≤ 2000 := kn (x := kx_366) hI94 rfl 6
          have e99 : (H93.1 366 6) = (H1.1 366 6) := (hq95.1 366 6 rfl (by decide) (by decide)).1
          exact ih.2 H93 hI94 hf97 (H1.1 366 5) z96 (x5 + 1) (by omega) (by omega) (by omega) (by omega) (by omega) (by omega)
set_option maxRecDepth 100000 in
theorem k_Rewriter_workOut {d : Nat} (hd : 4 ≤ d) {H : hp} (hI : Inv H) {t n : Nat} {b : Int} (ht : isT t n) (hb : -2147483648 ≤ b ∧ b ≤ 2147483647) (hp0 : 0 ≤ b ∧ b ≤ 2000) : hG (zs zK) d mt_99 0 (zargs 0 [.inr (.inr 366), .inr (.inr t), .inl b]) [] H (fun r9 H9 => ∃ z : Int, r9 = some (.inl z) ∧ ((-2147483648 ≤ z ∧ z ≤ 2147483647)) ∧ Inv H9 ∧ fq [(366, 4), (366, 5), (366, 6)] [367] false H H9) := by
  have htb := ht.2.2.2.2
  refine k_run 0 (pc' := 0) (l' := [(0, .inr (.inr 366)), (1, .inr (.inr t)), (2, .inl b)]) (st' := []) rfl ?_
  refine k_run 2 (pc' := 2) (l' := [(0, .inr (.inr 366)), (1, .inr (.inr t)), (2, .inl b)]) (st' := [.inl 0, .inr (.inr 366)]) rfl ?_
  refine k_puti (z := 0) (a := 366) (x := kx_366) rfl rfl rfl (by decide) (by decide) rfl rfl rfl rfl hI (by decide) (show 0 ≤ (0 : Int) ∧ (0 : Int) ≤ 2000 by omega) (fun H1 hI2 hw3 hv4 => ?_)
  have hf5 : fq [(366, 4), (366, 5), (366, 6)] [367] false H H1 := fq_w (fq_rf _ _ _ _) hw3 (fpo (by decide) rfl)
  refine k_run 0 (pc' := 5) (l' := [(0, .inr (.inr 366)), (1, .inr (.inr t)), (2, .inl b)]) (st' := []) rfl ?_
  refine k_run 1 (pc' := 6) (l' := [(0, .inr (.inr 366)), (1, .inr (.inr t)), (2, .inl b)]) (st' := [.inr (.inr t)]) rfl ?_
  refine h_cs (i := 92) (j := 100) (M' := mt_100) (xs := [.inr (.inr t)]) (rest := []) rfl rfl rfl rfl rfl (Nat.le_of_ble_eq_true rfl) (Nat.le_of_ble_eq_true rfl) (by omega) (k_Rewriter_firstCall (by omega) hI2 ht) ?_
  rintro _ _ ⟨z10, rfl, g6, rfl⟩
  refine k_run 0 (pc' := 9) (l' := [(0, .inr (.inr 366)), (1, .inr (.inr t)), (2, .inl b)]) (st' := [.inl z10]) rfl ?_
  refine k_run 1 (pc' := 10) (l' := [(0, .inr (.inr 366)), (1, .inr (.inr t)), (2, .inl b), (3, .inl z10)]) (st' := []) rfl ?_
  have g11 : 0 ≤ (H1.1 366 6) ∧ (H1.1 366 6) ≤ 2000 := kn (x := kx_366) hI2 rfl 6
  exact (k_Rewriter_workOut_cut hd hI ht hb hp0 _).1 H1 hI2 hf5 z10 (by omega) (Nat.lt_succ_self _)
