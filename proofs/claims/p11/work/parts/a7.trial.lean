/-! the class: laws are tried on small values -/
/-! Trial.valuesOf -/
set_option maxRecDepth 100000 in
theorem k_Trial_valuesOf {d : Nat} (hd : 1 ≤ d) {H : hp} (hI : Inv H) {a : Int} {b : Int} (ha : -2147483648 ≤ a ∧ a ≤ 2147483647) (hb : -2147483648 ≤ b ∧ b ≤ 2147483647) (hp0 : -1000 ≤ a ∧ a ≤ 1000) (hp1 : -1000 ≤ b ∧ b ≤ 1000) : hG (zs zK) d mt_108 0 (zargs 0 [.inr (.inr 372), .inl a, .inl b]) [] H (fun r9 H9 => ∃ z : Int, r9 = some (.inl z) ∧ ((-2147483648 ≤ z ∧ z ≤ 2147483647)) ∧ H = H9) := by
  refine k_run 0 (pc' := 0) (l' := [(0, .inr (.inr 372)), (1, .inl a), (2, .inl b)]) (st' := []) rfl ?_
  refine k_run 7 (pc' := 8) (l' := [(0, .inr (.inr 372)), (1, .inl a), (2, .inl b), (3, .inl ((a * 7) + b))]) (st' := [.inl a]) rfl ?_
  refine h_zlt (off := 31) (t := 39) rfl rfl (by omega) (fun c1 => ?_) (fun c1 => ?_)
  · refine k_run 0 (pc' := 39) (l' := [(0, .inr (.inr 372)), (1, .inl a), (2, .inl b), (3, .inl ((a * 7) + b))]) (st' := []) rfl ?_
    refine k_run 1 (pc' := 40) (l' := [(0, .inr (.inr 372)), (1, .inl a), (2, .inl b), (3, .inl ((a * 7) + b))]) (st' := [.inl 0]) rfl ?_
    refine h_reti (x := 0) rfl rfl ?_
    exact ⟨_, rfl, (by omega), rfl⟩
  · refine k_run 0 (pc' := 11) (l' := [(0, .inr (.inr 372)), (1, .inl a), (2, .inl b), (3, .inl ((a * 7) + b))]) (st' := []) rfl ?_
    refine k_run 1 (pc' := 12) (l' := [(0, .inr (.inr 372)), (1, .inl a), (2, .inl b), (3, .inl ((a * 7) + b))]) (st' := [.inl b]) rfl ?_
    refine h_zlt (off := 27) (t := 39) rfl rfl (by omega) (fun c2 => ?_) (fun c2 => ?_)
    · refine k_run 0 (pc' := 39) (l' := [(0, .inr (.inr 372)), (1, .inl a), (2, .inl b), (3, .inl ((a * 7) + b))]) (st' := []) rfl ?_
      refine k_run 1 (pc' := 40) (l' := [(0, .inr (.inr 372)), (1, .inl a), (2, .inl b), (3, .inl ((a * 7) + b))]) (st' := [.inl 0]) rfl ?_
      refine h_reti (x := 0) rfl rfl ?_
      exact ⟨_, rfl, (by omega), rfl⟩
    · refine k_run 0 (pc' := 15) (l' := [(0, .inr (.inr 372)), (1, .inl a), (2, .inl b), (3, .inl ((a * 7) + b))]) (st' := []) rfl ?_
      refine k_run 2 (pc' := 18) (l' := [(0, .inr (.inr 372)), (1, .inl a), (2, .inl b), (3, .inl ((a * 7) + b))]) (st' := [.inl 7, .inl b]) rfl ?_
      refine h_ige (off := 21) (t := 39) rfl rfl (by omega) (by decide) (fun c3 => ?_) (fun c3 => ?_)
      · refine k_run 0 (pc' := 39) (l' := [(0, .inr (.inr 372)), (1, .inl a), (2, .inl b), (3, .inl ((a * 7) + b))]) (st' := []) rfl ?_
        refine k_run 1 (pc' := 40) (l' := [(0, .inr (.inr 372)), (1, .inl a), (2, .inl b), (3, .inl ((a * 7) + b))]) (st' := [.inl 0]) rfl ?_
        refine h_reti (x := 0) rfl rfl ?_
        exact ⟨_, rfl, (by omega), rfl⟩
      · refine k_run 0 (pc' := 21) (l' := [(0, .inr (.inr 372)), (1, .inl a), (2, .inl b), (3, .inl ((a * 7) + b))]) (st' := []) rfl ?_
        refine k_run 3 (pc' := 26) (l' := [(0, .inr (.inr 372)), (1, .inl a), (2, .inl b), (3, .inl ((a * 7) + b))]) (st' := [.inr (.inr 373), .inl ((a * 7) + b)]) rfl ?_
        refine k_alen (c := 373) (x := kx_373) rfl rfl (by decide) rfl ?_
        refine k_run 0 (pc' := 27) (l' := [(0, .inr (.inr 372)), (1, .inl a), (2, .inl b), (3, .inl ((a * 7) + b))]) (st' := [.inl 42, .inl ((a * 7) + b)]) rfl ?_
        refine h_ige (off := 12) (t := 39) rfl rfl (by omega) (by decide) (fun c4 => ?_) (fun c4 => ?_)
        · refine k_run 0 (pc' := 39) (l' := [(0, .inr (.inr 372)), (1, .inl a), (2, .inl b), (3, .inl ((a * 7) + b))]) (st' := []) rfl ?_
          refine k_run 1 (pc' := 40) (l' := [(0, .inr (.inr 372)), (1, .inl a), (2, .inl b), (3, .inl ((a * 7) + b))]) (st' := [.inl 0]) rfl ?_
          refine h_reti (x := 0) rfl rfl ?_
          exact ⟨_, rfl, (by omega), rfl⟩
        · refine k_run 0 (pc' := 30) (l' := [(0, .inr (.inr 372)), (1, .inl a), (2, .inl b), (3, .inl ((a * 7) + b))]) (st' := []) rfl ?_
          refine k_run 3 (pc' := 35) (l' := [(0, .inr (.inr 372)), (1, .inl a), (2, .inl b), (3, .inl ((a * 7) + b))]) (st' := [.inl ((a * 7) + b), .inr (.inr 373)]) rfl ?_
          refine k_ild (c := 373) (j := (((a * 7) + b)).toNat) (i := ((a * 7) + b)) (x := kx_373) rfl rfl (by decide) rfl (by decide) (by omega) (by omega) ?_
          have g5 : -2147483648 ≤ (H.1 373 (((a * 7) + b)).toNat) ∧ (H.1 373 (((a * 7) + b)).toNat) ≤ 2147483647 := kn (x := kx_373) hI rfl (((a * 7) + b)).toNat
          refine k_run 0 (pc' := 36) (l' := [(0, .inr (.inr 372)), (1, .inl a), (2, .inl b), (3, .inl ((a * 7) + b))]) (st' := [.inl (H.1 373 (((a * 7) + b)).toNat)]) rfl ?_
          refine k_run 1 (pc' := 40) (l' := [(0, .inr (.inr 372)), (1, .inl a), (2, .inl b), (3, .inl ((a * 7) + b))]) (st' := [.inl (H.1 373 (((a * 7) + b)).toNat)]) rfl ?_
          refine h_reti (x := (H.1 373 (((a * 7) + b)).toNat)) rfl rfl ?_
          exact ⟨_, rfl, (by omega), rfl⟩

/-! Trial.tuplesOf -/
set_option maxRecDepth 100000 in
theorem k_Trial_tuplesOf {d : Nat} (hd : 1 ≤ d) {H : hp} (hI : Inv H) {a : Int} {b : Int} {c : Int} (ha : -2147483648 ≤ a ∧ a ≤ 2147483647) (hb : -2147483648 ≤ b ∧ b ≤ 2147483647) (hc : -2147483648 ≤ c ∧ c ≤ 2147483647) (hp0 : -1000 ≤ a ∧ a ≤ 1000) (hp1 : -1000 ≤ b ∧ b ≤ 1000) (hp2 : -1000 ≤ c ∧ c ≤ 1000) : hG (zs zK) d mt_109 0 (zargs 0 [.inr (.inr 372), .inl a, .inl b, .inl c]) [] H (fun r9 H9 => ∃ z : Int, r9 = some (.inl z) ∧ ((-2147483648 ≤ z ∧ z ≤ 2147483647)) ∧ H = H9) := by
  refine k_run 0 (pc' := 0) (l' := [(0, .inr (.inr 372)), (1, .inl a), (2, .inl b), (3, .inl c)]) (st' := []) rfl ?_
  refine k_run 11 (pc' := 13) (l' := [(0, .inr (.inr 372)), (1, .inl a), (2, .inl b), (3, .inl c), (4, .inl ((((a * 4) + b) * 7) + c))]) (st' := [.inl a]) rfl ?_
  refine h_zlt (off := 42) (t := 55) rfl rfl (by omega) (fun c1 => ?_) (fun c1 => ?_)
  · refine k_run 0 (pc' := 55) (l' := [(0, .inr (.inr 372)), (1, .inl a), (2, .inl b), (3, .inl c), (4, .inl ((((a * 4) + b) * 7) + c))]) (st' := []) rfl ?_
    refine k_run 1 (pc' := 56) (l' := [(0, .inr (.inr 372)), (1, .inl a), (2, .inl b), (3, .inl c), (4, .inl ((((a * 4) + b) * 7) + c))]) (st' := [.inl 0]) rfl ?_
    refine h_reti (x := 0) rfl rfl ?_
    exact ⟨_, rfl, (by omega), rfl⟩
  · refine k_run 0 (pc' := 16) (l' := [(0, .inr (.inr 372)), (1, .inl a), (2, .inl b), (3, .inl c), (4, .inl ((((a * 4) + b) * 7) + c))]) (st' := []) rfl ?_
    refine k_run 1 (pc' := 17) (l' := [(0, .inr (.inr 372)), (1, .inl a), (2, .inl b), (3, .inl c), (4, .inl ((((a * 4) + b) * 7) + c))]) (st' := [.inl b]) rfl ?_
    refine h_zlt (off := 38) (t := 55) rfl rfl (by omega) (fun c2 => ?_) (fun c2 => ?_)
    · refine k_run 0 (pc' := 55) (l' := [(0, .inr (.inr 372)), (1, .inl a), (2, .inl b), (3, .inl c), (4, .inl ((((a * 4) + b) * 7) + c))]) (st' := []) rfl ?_
      refine k_run 1 (pc' := 56) (l' := [(0, .inr (.inr 372)), (1, .inl a), (2, .inl b), (3, .inl c), (4, .inl ((((a * 4) + b) * 7) + c))]) (st' := [.inl 0]) rfl ?_
      refine h_reti (x := 0) rfl rfl ?_
      exact ⟨_, rfl, (by omega), rfl⟩
    · refine k_run 0 (pc' := 20) (l' := [(0, .inr (.inr 372)), (1, .inl a), (2, .inl b), (3, .inl c), (4, .inl ((((a * 4) + b) * 7) + c))]) (st' := []) rfl ?_
      refine k_run 2 (pc' := 22) (l' := [(0, .inr (.inr 372)), (1, .inl a), (2, .inl b), (3, .inl c), (4, .inl ((((a * 4) + b) * 7) + c))]) (st' := [.inl 4, .inl b]) rfl ?_
      refine h_ige (off := 33) (t := 55) rfl rfl (by omega) (by decide) (fun c3 => ?_) (fun c3 => ?_)
      · refine k_run 0 (pc' := 55) (l' := [(0, .inr (.inr 372)), (1, .inl a), (2, .inl b), (3, .inl c), (4, .inl ((((a * 4) + b) * 7) + c))]) (st' := []) rfl ?_
        refine k_run 1 (pc' := 56) (l' := [(0, .inr (.inr 372)), (1, .inl a), (2, .inl b), (3, .inl c), (4, .inl ((((a * 4) + b) * 7) + c))]) (st' := [.inl 0]) rfl ?_
        refine h_reti (x := 0) rfl rfl ?_
        exact ⟨_, rfl, (by omega), rfl⟩
      · refine k_run 0 (pc' := 25) (l' := [(0, .inr (.inr 372)), (1, .inl a), (2, .inl b), (3, .inl c), (4, .inl ((((a * 4) + b) * 7) + c))]) (st' := []) rfl ?_
        refine k_run 1 (pc' := 26) (l' := [(0, .inr (.inr 372)), (1, .inl a), (2, .inl b), (3, .inl c), (4, .inl ((((a * 4) + b) * 7) + c))]) (st' := [.inl c]) rfl ?_
        refine h_zlt (off := 29) (t := 55) rfl rfl (by omega) (fun c4 => ?_) (fun c4 => ?_)
        · refine k_run 0 (pc' := 55) (l' := [(0, .inr (.inr 372)), (1, .inl a), (2, .inl b), (3, .inl c), (4, .inl ((((a * 4) + b) * 7) + c))]) (st' := []) rfl ?_
          refine k_run 1 (pc' := 56) (l' := [(0, .inr (.inr 372)), (1, .inl a), (2, .inl b), (3, .inl c), (4, .inl ((((a * 4) + b) * 7) + c))]) (st' := [.inl 0]) rfl ?_
          refine h_reti (x := 0) rfl rfl ?_
          exact ⟨_, rfl, (by omega), rfl⟩
        · refine k_run 0 (pc' := 29) (l' := [(0, .inr (.inr 372)), (1, .inl a), (2, .inl b), (3, .inl c), (4, .inl ((((a * 4) + b) * 7) + c))]) (st' := []) rfl ?_
          refine k_run 2 (pc' := 32) (l' := [(0, .inr (.inr 372)), (1, .inl a), (2, .inl b), (3, .inl c), (4, .inl ((((a * 4) + b) * 7) + c))]) (st' := [.inl 7, .inl c]) rfl ?_
          refine h_ige (off := 23) (t := 55) rfl rfl (by omega) (by decide) (fun c5 => ?_) (fun c5 => ?_)
          · refine k_run 0 (pc' := 55) (l' := [(0, .inr (.inr 372)), (1, .inl a), (2, .inl b), (3, .inl c), (4, .inl ((((a * 4) + b) * 7) + c))]) (st' := []) rfl ?_
            refine k_run 1 (pc' := 56) (l' := [(0, .inr (.inr 372)), (1, .inl a), (2, .inl b), (3, .inl c), (4, .inl ((((a * 4) + b) * 7) + c))]) (st' := [.inl 0]) rfl ?_
            refine h_reti (x := 0) rfl rfl ?_
            exact ⟨_, rfl, (by omega), rfl⟩
          · refine k_run 0 (pc' := 35) (l' := [(0, .inr (.inr 372)), (1, .inl a), (2, .inl b), (3, .inl c), (4, .inl ((((a * 4) + b) * 7) + c))]) (st' := []) rfl ?_
            refine k_run 3 (pc' := 41) (l' := [(0, .inr (.inr 372)), (1, .inl a), (2, .inl b), (3, .inl c), (4, .inl ((((a * 4) + b) * 7) + c))]) (st' := [.inr (.inr 374), .inl ((((a * 4) + b) * 7) + c)]) rfl ?_
            refine k_alen (c := 374) (x := kx_374) rfl rfl (by decide) rfl ?_
            refine k_run 0 (pc' := 42) (l' := [(0, .inr (.inr 372)), (1, .inl a), (2, .inl b), (3, .inl c), (4, .inl ((((a * 4) + b) * 7) + c))]) (st' := [.inl 448, .inl ((((a * 4) + b) * 7) + c)]) rfl ?_
            refine h_ige (off := 13) (t := 55) rfl rfl (by omega) (by decide) (fun c6 => ?_) (fun c6 => ?_)
            · refine k_run 0 (pc' := 55) (l' := [(0, .inr (.inr 372)), (1, .inl a), (2, .inl b), (3, .inl c), (4, .inl ((((a * 4) + b) * 7) + c))]) (st' := []) rfl ?_
              refine k_run 1 (pc' := 56) (l' := [(0, .inr (.inr 372)), (1, .inl a), (2, .inl b), (3, .inl c), (4, .inl ((((a * 4) + b) * 7) + c))]) (st' := [.inl 0]) rfl ?_
              refine h_reti (x := 0) rfl rfl ?_
              exact ⟨_, rfl, (by omega), rfl⟩
            · refine k_run 0 (pc' := 45) (l' := [(0, .inr (.inr 372)), (1, .inl a), (2, .inl b), (3, .inl c), (4, .inl ((((a * 4) + b) * 7) + c))]) (st' := []) rfl ?_
              refine k_run 3 (pc' := 51) (l' := [(0, .inr (.inr 372)), (1, .inl a), (2, .inl b), (3, .inl c), (4, .inl ((((a * 4) + b) * 7) + c))]) (st' := [.inl ((((a * 4) + b) * 7) + c), .inr (.inr 374)]) rfl ?_
              refine k_ild (c := 374) (j := (((((a * 4) + b) * 7) + c)).toNat) (i := ((((a * 4) + b) * 7) + c)) (x := kx_374) rfl rfl (by decide) rfl (by decide) (by omega) (by omega) ?_
              have g7 : -2147483648 ≤ (H.1 374 (((((a * 4) + b) * 7) + c)).toNat) ∧ (H.1 374 (((((a * 4) + b) * 7) + c)).toNat) ≤ 2147483647 := kn (x := kx_374) hI rfl (((((a * 4) + b) * 7) + c)).toNat
              refine k_run 0 (pc' := 52) (l' := [(0, .inr (.inr 372)), (1, .inl a), (2, .inl b), (3, .inl c), (4, .inl ((((a * 4) + b) * 7) + c))]) (st' := [.inl (H.1 374 (((((a * 4) + b) * 7) + c)).toNat)]) rfl ?_
              refine k_run 1 (pc' := 56) (l' := [(0, .inr (.inr 372)), (1, .inl a), (2, .inl b), (3, .inl c), (4, .inl ((((a * 4) + b) * 7) + c))]) (st' := [.inl (H.1 374 (((((a * 4) + b) * 7) + c)).toNat)]) rfl ?_
              refine h_reti (x := (H.1 374 (((((a * 4) + b) * 7) + c)).toNat)) rfl rfl ?_
              exact ⟨_, rfl, (by omega), rfl⟩

/-! Trial.countTuples -/
set_option maxRecDepth 100000 in
theorem k_Trial_countTuples_cut {d : Nat} (hd : 2 ≤ d) {H : hp} (hI : Inv H) {a : Int} {b : Int} (ha : -2147483648 ≤ a ∧ a ≤ 2147483647) (hb : -2147483648 ≤ b ∧ b ≤ 2147483647) (hp0 : 0 ≤ a ∧ a < 16) (hp1 : 0 ≤ b ∧ b ≤ 5) : ∀ w : Nat, (∀ (H1 : hp), Inv H1 → fq [] [374] false H H1 → ∀ (x3 : Int) (x4 : Int) , (-2147483648 ≤ x3 ∧ x3 ≤ 2147483647) → (-2147483648 ≤ x4 ∧ x4 ≤ 2147483647) → (x3 ≤ 3) → (x4 ≤ x3) → (-1 ≤ x4) → (((1000 * (x4 + 2) + 500).toNat) < w) → hG (zs zK) d mt_107 20 [(0, .inr (.inr 372)), (1, .inl a), (2, .inl b), (3, .inl x3), (4, .inl x4)] [] H1 (fun r9 H9 => ∃ z : Int, r9 = some (.inl z) ∧ ((-2147483648 ≤ z ∧ z ≤ 2147483647)) ∧ Inv H9 ∧ fq [] [374] false H H9)) ∧ (∀ (H1 : hp), Inv H1 → fq [] [374] false H H1 → ∀ (x3 : Int) (x4 : Int) (x5 : Int) (x6 : Int) , (-2147483648 ≤ x3 ∧ x3 ≤ 2147483647) → (-2147483648 ≤ x4 ∧ x4 ≤ 2147483647) → (-2147483648 ≤ x5 ∧ x5 ≤ 2147483647) → (-2147483648 ≤ x6 ∧ x6 ≤ 2147483647) → (x3 ≤ 3) → (x4 ≤ x3) → (0 ≤ x4) → (1 ≤ x6 ∧ x6 ≤ 8) → (((1000 * (x4 + 2) + 100 - x6).toNat) < w) → hG (zs zK) d mt_107 45 [(0, .inr (.inr 372)), (1, .inl a), (2, .inl b), (3, .inl x3), (4, .inl x4), (5, .inl x5), (6, .inl x6)] [] H1 (fun r9 H9 => ∃ z : Int, r9 = some (.inl z) ∧ ((-2147483648 ≤ z ∧ z ≤ 2147483647)) ∧ Inv H9 ∧ fq [] [374] false H H9)) := by
  intro w
  induction w with
  | zero => exact ⟨fun _ _ _ _ _ _ _ _ _ _ h => absurd h (Nat.not_lt_zero _), fun _ _ _ _ _ _ _ _ _ _ _ _ _ _ _ h => absurd h (Nat.not_lt_zero _)⟩
  | succ w ih =>
    refine ⟨?_, ?_⟩
    · intro H1 hI1 hf1 x3 x4 hx3 hx4 hi0 hi1 hi2 hw
      refine k_run 1 (pc' := 22) (l' := [(0, .inr (.inr 372)), (1, .inl a), (2, .inl b), (3, .inl x3), (4, .inl x4)]) (st' := [.inl x4]) rfl ?_
      refine h_zlt (off := 109) (t := 131) rfl rfl (by omega) (fun c3 => ?_) (fun c3 => ?_)
      · refine k_run 0 (pc' := 131) (l' := [(0, .inr (.inr 372)), (1, .inl a), (2, .inl b), (3, .inl x3), (4, .inl x4)]) (st' := []) rfl ?_
        refine k_run 4 (pc' := 135) (l' := [(0, .inr (.inr 372)), (1, .inl a), (2, .inl b), (3, .inl x3), (4, .inl x4)]) (st' := [.inl b, .inl 0, .inl a, .inr (.inr 372)]) rfl ?_
        refine h_cv (i := 156) (j := 109) (b := 372) (M' := mt_109) (xs := [.inl b, .inl 0, .inl a]) (rest := []) rfl rfl rfl rfl (zs_K (x := kx_372) rfl (by decide)) rfl (Nat.le_of_ble_eq_true rfl) (Nat.le_of_ble_eq_true rfl) (by omega) (k_Trial_tuplesOf (by omega) hI1 (by omega) (by decide) (by omega) (by omega) (by omega) (by omega)) ?_
        rintro _ _ ⟨z8, rfl, g4, rfl⟩
        refine k_run 0 (pc' := 138) (l' := [(0, .inr (.inr 372)), (1, .inl a), (2, .inl b), (3, .inl x3), (4, .inl x4)]) (st' := [.inl z8]) rfl ?_
        refine h_reti (x := z8) rfl rfl ?_
        exact ⟨_, rfl, (by omega), hI1, hf1⟩
      · refine k_run 0 (pc' := 25) (l' := [(0, .inr (.inr 372)), (1, .inl a), (2, .inl b), (3, .inl x3), (4, .inl x4)]) (st' := []) rfl ?_
        refine k_run 2 (pc' := 28) (l' := [(0, .inr (.inr 372)), (1, .inl a), (2, .inl b), (3, .inl x3), (4, .inl x4)]) (st' := [.inl x3, .inl x4]) rfl ?_
        refine h_ine (off := 11) (t := 39) rfl rfl (by omega) (by omega) (fun c9 => ?_) (fun c9 => ?_)
        · refine k_run 0 (pc' := 39) (l' := [(0, .inr (.inr 372)), (1, .inl a), (2, .inl b), (3, .inl x3), (4, .inl x4)]) (st' := []) rfl ?_
          refine k_run 4 (pc' := 45) (l' := [(0, .inr (.inr 372)), (1, .inl a), (2, .inl b), (3, .inl x3), (4, .inl x4), (5, .inl 0), (6, .inl 1)]) (st' := []) rfl ?_
          exact ih.2 H1 hI1 hf1 x3 x4 (0 : Int) (1 : Int) (by omega) (by omega) (by decide) (by decide) (by omega) (by omega) (by omega) (by omega) (by omega)
        · refine k_run 0 (pc' := 31) (l' := [(0, .inr (.inr 372)), (1, .inl a), (2, .inl b), (3, .inl x3), (4, .inl x4)]) (st' := []) rfl ?_
          refine k_run 1 (pc' := 32) (l' := [(0, .inr (.inr 372)), (1, .inl a), (2, .inl b), (3, .inl x3), (4, .inl x4)]) (st' := [.inl b]) rfl ?_
          refine h_zne (off := 7) (t := 39) rfl rfl (by omega) (fun c10 => ?_) (fun c10 => ?_)
          · refine k_run 0 (pc' := 39) (l' := [(0, .inr (.inr 372)), (1, .inl a), (2, .inl b), (3, .inl x3), (4, .inl x4)]) (st' := []) rfl ?_
            refine k_run 4 (pc' := 45) (l' := [(0, .inr (.inr 372)), (1, .inl a), (2, .inl b), (3, .inl x3), (4, .inl x4), (5, .inl 0), (6, .inl 1)]) (st' := []) rfl ?_
            exact ih.2 H1 hI1 hf1 x3 x4 (0 : Int) (1 : Int) (by omega) (by omega) (by decide) (by decide) (by omega) (by omega) (by omega) (by omega) (by omega)
          · refine k_run 0 (pc' := 35) (l' := [(0, .inr (.inr 372)), (1, .inl a), (2, .inl b), (3, .inl x3), (4, .inl x4)]) (st' := []) rfl ?_
            refine k_run 5 (pc' := 45) (l' := [(0, .inr (.inr 372)), (1, .inl a), (2, .inl b), (3, .inl x3), (4, .inl x4), (5, .inl 1), (6, .inl 1)]) (st' := []) rfl ?_
            exact ih.2 H1 hI1 hf1 x3 x4 (1 : Int) (1 : Int) (by omega) (by omega) (by decide) (by decide) (by omega) (by omega) (by omega) (by omega) (by omega)
    · intro H1 hI1 hf1 x3 x4 x5 x6 hx3 hx4 hx5 hx6 hi0 hi1 hi2 hi3 hw
      refine k_run 2 (pc' := 48) (l' := [(0, .inr (.inr 372)), (1, .inl a), (2, .inl b), (3, .inl x3), (4, .inl x4), (5, .inl x5), (6, .inl x6)]) (st' := [.inl x3, .inl x4]) rfl ?_
      refine h_ige (off := 53) (t := 101) rfl rfl (by omega) (by omega) (fun c11 => ?_) (fun c11 => ?_)
      · refine k_run 0 (pc' := 101) (l' := [(0, .inr (.inr 372)), (1, .inl a), (2, .inl b), (3, .inl x3), (4, .inl x4), (5, .inl x5), (6, .inl x6)]) (st' := []) rfl ?_
        refine k_run 13 (pc' := 121) (l' := [(0, .inr (.inr 372)), (1, .inl a), (2, .inl b), (3, .inl x3), (4, .inl x4), (5, .inl x5), (6, .inl x6)]) (st' := [.inl 2001, .inl x5, .inl ((((a * 4) + x4) * 7) + b), .inr (.inr 374)]) rfl ?_
        refine k_min (i := 101) (x := x5) (y := 2001) rfl rfl (Nat.le_of_ble_eq_true rfl) (by omega) (by omega) (by decide) (fun z12 hz12 => ?_)
        refine k_run 0 (pc' := 124) (l' := [(0, .inr (.inr 372)), (1, .inl a), (2, .inl b), (3, .inl x3), (4, .inl x4), (5, .inl x5), (6, .inl x6)]) (st' := [.inl z12, .inl ((((a * 4) + x4) * 7) + b), .inr (.inr 374)]) rfl ?_
        refine k_istw (c := 374) (j := (((((a * 4) + x4) * 7) + b)).toNat) (i := ((((a * 4) + x4) * 7) + b)) (x := kx_374) rfl rfl (by decide) (by decide) rfl (by decide) (by omega) (by omega) hI1 rfl (fun H13 hI14 hw15 => ?_)
        have hf17 : fq [] [374] false H H13 := fq_w hf1 hw15 (fpa (by decide) rfl)
        refine k_run 0 (pc' := 125) (l' := [(0, .inr (.inr 372)), (1, .inl a), (2, .inl b), (3, .inl x3), (4, .inl x4), (5, .inl x5), (6, .inl x6)]) (st' := []) rfl ?_
        refine k_run 2 (pc' := 20) (l' := [(0, .inr (.inr 372)), (1, .inl a), (2, .inl b), (3, .inl x3), (4, .inl (x4 + (-1))), (5, .inl x5), (6, .inl x6)]) (st' := []) rfl ?_
        refine h_loc [0, 1, 2, 3, 4] rfl ?_
        exact ih.1 H13 hI14 hf17 x3 (x4 + (-1)) (by omega) (by omega) (by omega) (by omega) (by omega) (by omega)
      · refine k_run 0 (pc' := 51) (l' := [(0, .inr (.inr 372)), (1, .inl a), (2, .inl b), (3, .inl x3), (4, .inl x4), (5, .inl x5), (6, .inl x6)]) (st' := []) rfl ?_
        refine k_run 2 (pc' := 54) (l' := [(0, .inr (.inr 372)), (1, .inl a), (2, .inl b), (3, .inl x3), (4, .inl x4), (5, .inl x5), (6, .inl x6)]) (st' := [.inl b, .inl x6]) rfl ?_
        refine h_igt (off := 47) (t := 101) rfl rfl (by omega) (by omega) (fun c18 => ?_) (fun c18 => ?_)
        · refine k_run 0 (pc' := 101) (l' := [(0, .inr (.inr 372)), (1, .inl a), (2, .inl b), (3, .inl x3), (4, .inl x4), (5, .inl x5), (6, .inl x6)]) (st' := []) rfl ?_
          refine k_run 13 (pc' := 121) (l' := [(0, .inr (.inr 372)), (1, .inl a), (2, .inl b), (3, .inl x3), (4, .inl x4), (5, .inl x5), (6, .inl x6)]) (st' := [.inl 2001, .inl x5, .inl ((((a * 4) + x4) * 7) + b), .inr (.inr 374)]) rfl ?_
          refine k_min (i := 101) (x := x5) (y := 2001) rfl rfl (Nat.le_of_ble_eq_true rfl) (by omega) (by omega) (by decide) (fun z19 hz19 => ?_)
          refine k_run 0 (pc' := 124) (l' := [(0, .inr (.inr 372)), (1, .inl a), (2, .inl b), (3, .inl x3), (4, .inl x4), (5, .inl x5), (6, .inl x6)]) (st' := [.inl z19, .inl ((((a * 4) + x4) * 7) + b), .inr (.inr 374)]) rfl ?_
          refine k_istw (c := 374) (j := (((((a * 4) + x4) * 7) + b)).toNat) (i := ((((a * 4) + x4) * 7) + b)) (x := kx_374) rfl rfl (by decide) (by decide) rfl (by decide) (by omega) (by omega) hI1 rfl (fun H20 hI21 hw22 => ?_)
          have hf24 : fq [] [374] false H H20 := fq_w hf1 hw22 (fpa (by decide) rfl)
          refine k_run 0 (pc' := 125) (l' := [(0, .inr (.inr 372)), (1, .inl a), (2, .inl b), (3, .inl x3), (4, .inl x4), (5, .inl x5), (6, .inl x6)]) (st' := []) rfl ?_
          refine k_run 2 (pc' := 20) (l' := [(0, .inr (.inr 372)), (1, .inl a), (2, .inl b), (3, .inl x3), (4, .inl (x4 + (-1))), (5, .inl x5), (6, .inl x6)]) (st' := []) rfl ?_
          refine h_loc [0, 1, 2, 3, 4] rfl ?_
          exact ih.1 H20 hI21 hf24 x3 (x4 + (-1)) (by omega) (by omega) (by omega) (by omega) (by omega) (by omega)
        · refine k_run 0 (pc' := 57) (l' := [(0, .inr (.inr 372)), (1, .inl a), (2, .inl b), (3, .inl x3), (4, .inl x4), (5, .inl x5), (6, .inl x6)]) (st' := []) rfl ?_
          refine k_run 7 (pc' := 70) (l' := [(0, .inr (.inr 372)), (1, .inl a), (2, .inl b), (3, .inl x3), (4, .inl x4), (5, .inl x5), (6, .inl x6)]) (st' := [.inl x4, .inl a, .inr (.inr 13), .inr (.inr 372), .inl x5]) rfl ?_
          refine h_cv (i := 150) (j := 45) (b := 13) (M' := mt_45) (xs := [.inl x4, .inl a]) (rest := [.inr (.inr 372), .inl x5]) rfl rfl rfl rfl (zs_K (x := kx_13) rfl (by decide)) rfl (Nat.le_of_ble_eq_true rfl) (Nat.le_of_ble_eq_true rfl) (by omega) (k_Symbols_argument_13 (by omega) hI1 (by omega) (by omega) (by omega)) ?_
          rintro _ _ ⟨z29, rfl, g25, rfl⟩
          refine k_run 0 (pc' := 73) (l' := [(0, .inr (.inr 372)), (1, .inl a), (2, .inl b), (3, .inl x3), (4, .inl x4), (5, .inl x5), (6, .inl x6)]) (st' := [.inl z29, .inr (.inr 372), .inl x5]) rfl ?_
          refine k_run 1 (pc' := 75) (l' := [(0, .inr (.inr 372)), (1, .inl a), (2, .inl b), (3, .inl x3), (4, .inl x4), (5, .inl x5), (6, .inl x6)]) (st' := [.inl x6, .inl z29, .inr (.inr 372), .inl x5]) rfl ?_
          refine h_cv (i := 153) (j := 108) (b := 372) (M' := mt_108) (xs := [.inl x6, .inl z29]) (rest := [.inl x5]) rfl rfl rfl rfl (zs_K (x := kx_372) rfl (by decide)) rfl (Nat.le_of_ble_eq_true rfl) (Nat.le_of_ble_eq_true rfl) (by omega) (k_Trial_valuesOf (by omega) hI1 (by omega) (by omega) (by omega) (by omega)) ?_
          rintro _ _ ⟨z34, rfl, g30, rfl⟩
          refine k_run 0 (pc' := 78) (l' := [(0, .inr (.inr 372)), (1, .inl a), (2, .inl b), (3, .inl x3), (4, .inl x4), (5, .inl x5), (6, .inl x6)]) (st' := [.inl z34, .inl x5]) rfl ?_
          refine k_run 8 (pc' := 88) (l' := [(0, .inr (.inr 372)), (1, .inl a), (2, .inl b), (3, .inl x3), (4, .inl x4), (5, .inl x5), (6, .inl x6)]) (st' := [.inl (b - x6), .inl (x4 + 1), .inl a, .inr (.inr 372), .inl z34, .inl x5]) rfl ?_
          refine h_cv (i := 156) (j := 109) (b := 372) (M' := mt_109) (xs := [.inl (b - x6), .inl (x4 + 1), .inl a]) (rest := [.inl z34, .inl x5]) rfl rfl rfl rfl (zs_K (x := kx_372) rfl (by decide)) rfl (Nat.le_of_ble_eq_true rfl) (Nat.le_of_ble_eq_true rfl) (by omega) (k_Trial_tuplesOf (by omega) hI1 (by omega) (by omega) (by omega) (by omega) (by omega) (by omega)) ?_
          rintro _ _ ⟨z39, rfl, g35, rfl⟩
          refine k_run 0 (pc' := 91) (l' := [(0, .inr (.inr 372)), (1, .inl a), (2, .inl b), (3, .inl x3), (4, .inl x4), (5, .inl x5), (6, .inl x6)]) (st' := [.inl z39, .inl z34, .inl x5]) rfl ?_
          refine k_run 1 (pc' := 92) (l' := [(0, .inr (.inr 372)), (1, .inl a), (2, .inl b), (3, .inl x3), (4, .inl x4), (5, .inl x5), (6, .inl x6)]) (st' := [.inl (z34 * z39), .inl x5]) rfl ?_
          refine k_nrm (fun y40 hy40 => ?_)
          refine k_run 0 (pc' := 92) (l' := [(0, .inr (.inr 372)), (1, .inl a), (2, .inl b), (3, .inl x3), (4, .inl x4), (5, .inl x5), (6, .inl x6)]) (st' := [.inl y40, .inl x5]) rfl ?_
          refine k_run 1 (pc' := 93) (l' := [(0, .inr (.inr 372)), (1, .inl a), (2, .inl b), (3, .inl x3), (4, .inl x4), (5, .inl x5), (6, .inl x6)]) (st' := [.inl (x5 + y40)]) rfl ?_
          refine k_nrm (fun y41 hy41 => ?_)
          refine k_run 0 (pc' := 93) (l' := [(0, .inr (.inr 372)), (1, .inl a), (2, .inl b), (3, .inl x3), (4, .inl x4), (5, .inl x5), (6, .inl x6)]) (st' := [.inl y41]) rfl ?_
          refine k_run 3 (pc' := 45) (l' := [(0, .inr (.inr 372)), (1, .inl a), (2, .inl b), (3, .inl x3), (4, .inl x4), (5, .inl y41), (6, .inl (x6 + 1))]) (st' := []) rfl ?_
          exact ih.2 H1 hI1 hf1 x3 x4 y41 (x6 + 1) (by omega) (by omega) (by omega) (by omega) (by omega) (by omega) (by omega) (by omega) (by omega)
set_option maxRecDepth 100000 in
theorem k_Trial_countTuples {d : Nat} (hd : 2 ≤ d) {H : hp} (hI : Inv H) {a : Int} {b : Int} (ha : -2147483648 ≤ a ∧ a ≤ 2147483647) (hb : -2147483648 ≤ b ∧ b ≤ 2147483647) (hp0 : 0 ≤ a ∧ a < 16) (hp1 : 0 ≤ b ∧ b ≤ 5) : hG (zs zK) d mt_107 0 (zargs 0 [.inr (.inr 372), .inl a, .inl b]) [] H (fun r9 H9 => ∃ z : Int, r9 = some (.inl z) ∧ ((-2147483648 ≤ z ∧ z ≤ 2147483647)) ∧ Inv H9 ∧ fq [] [374] false H H9) := by
  refine k_run 0 (pc' := 0) (l' := [(0, .inr (.inr 372)), (1, .inl a), (2, .inl b)]) (st' := []) rfl ?_
  refine k_run 5 (pc' := 11) (l' := [(0, .inr (.inr 372)), (1, .inl a), (2, .inl b)]) (st' := [.inl a, .inr (.inr 16)]) rfl ?_
  refine k_ild (c := 16) (j := (a).toNat) (i := a) (x := kx_16) rfl rfl (by decide) rfl (by decide) (by omega) (by omega) ?_
  have g1 : 0 ≤ (H.1 16 (a).toNat) ∧ (H.1 16 (a).toNat) ≤ 4 := kn (x := kx_16) hI rfl (a).toNat
  refine k_run 0 (pc' := 12) (l' := [(0, .inr (.inr 372)), (1, .inl a), (2, .inl b)]) (st' := [.inl (H.1 16 (a).toNat)]) rfl ?_
  refine k_run 1 (pc' := 13) (l' := [(0, .inr (.inr 372)), (1, .inl a), (2, .inl b)]) (st' := [.inl 3, .inl (H.1 16 (a).toNat)]) rfl ?_
  refine k_min (i := 101) (x := (H.1 16 (a).toNat)) (y := 3) rfl rfl (Nat.le_of_ble_eq_true rfl) (by omega) (by omega) (by decide) (fun z2 hz2 => ?_)
  refine k_run 0 (pc' := 16) (l' := [(0, .inr (.inr 372)), (1, .inl a), (2, .inl b)]) (st' := [.inl z2]) rfl ?_
  refine k_run 3 (pc' := 20) (l' := [(0, .inr (.inr 372)), (1, .inl a), (2, .inl b), (3, .inl z2), (4, .inl z2)]) (st' := []) rfl ?_
  exact (k_Trial_countTuples_cut hd hI ha hb hp0 hp1 _).1 H hI (fq_rf _ _ _ _) z2 z2 (by omega) (by omega) (by omega) (by omega) (by omega) (Nat.lt_succ_self _)

/-! Trial.countValues -/
set_option maxRecDepth 100000 in
theorem k_Trial_countValues_cut {d : Nat} (hd : 3 ≤ d) {H : hp} (hI : Inv H) {a : Int} (ha : -2147483648 ≤ a ∧ a ≤ 2147483647) (hp0 : 1 ≤ a ∧ a ≤ 6) : ∀ w : Nat, (∀ (H1 : hp), Inv H1 → fq [] [373, 374] false H H1 → ∀ (x2 : Int) , (-2147483648 ≤ x2 ∧ x2 ≤ 2147483647) → (1 ≤ x2 ∧ x2 ≤ 7) → (((10000 * (10 - x2) + 9000).toNat) < w) → hG (zs zK) d mt_106 2 [(0, .inr (.inr 372)), (1, .inl a), (2, .inl x2)] [] H1 (fun r9 H9 => r9 = none ∧ Inv H9 ∧ fq [] [373, 374] false H H9)) ∧ (∀ (H1 : hp), Inv H1 → fq [] [373, 374] false H H1 → ∀ (x2 : Int) (x3 : Int) , (-2147483648 ≤ x2 ∧ x2 ≤ 2147483647) → (-2147483648 ≤ x3 ∧ x3 ≤ 2147483647) → (1 ≤ x2 ∧ x2 ≤ 6) → (0 ≤ x3 ∧ x3 ≤ 100) → (((10000 * (10 - x2) + 5000 - x3).toNat) < w) → hG (zs zK) d mt_106 9 [(0, .inr (.inr 372)), (1, .inl a), (2, .inl x2), (3, .inl x3)] [] H1 (fun r9 H9 => r9 = none ∧ Inv H9 ∧ fq [] [373, 374] false H H9)) ∧ (∀ (H1 : hp), Inv H1 → fq [] [373, 374] false H H1 → ∀ (x2 : Int) (x3 : Int) , (-2147483648 ≤ x2 ∧ x2 ≤ 2147483647) → (-2147483648 ≤ x3 ∧ x3 ≤ 2147483647) → (1 ≤ x2 ∧ x2 ≤ 6) → (0 ≤ x3 ∧ x3 ≤ 100) → (((10000 * (10 - x2) + 1000 - x3).toNat) < w) → hG (zs zK) d mt_106 59 [(0, .inr (.inr 372)), (1, .inl a), (2, .inl x2), (3, .inl x3)] [] H1 (fun r9 H9 => r9 = none ∧ Inv H9 ∧ fq [] [373, 374] false H H9)) := by
  intro w
  induction w with
  | zero => exact ⟨fun _ _ _ _ _ _ h => absurd h (Nat.not_lt_zero _), fun _ _ _ _ _ _ _ _ _ h => absurd h (Nat.not_lt_zero _), fun _ _ _ _ _ _ _ _ _ h => absurd h (Nat.not_lt_zero _)⟩
  | succ w ih =>
    refine ⟨?_, ?_, ?_⟩
    · intro H1 hI1 hf1 x2 hx2 hi0 hw
      refine k_run 2 (pc' := 4) (l' := [(0, .inr (.inr 372)), (1, .inl a), (2, .inl x2)]) (st' := [.inl a, .inl x2]) rfl ?_
      refine h_igt (off := 148) (t := 152) rfl rfl (by omega) (by omega) (fun c1 => ?_) (fun c1 => ?_)
      · refine k_run 0 (pc' := 152) (l' := [(0, .inr (.inr 372)), (1, .inl a), (2, .inl x2)]) (st' := []) rfl ?_
        refine h_ret rfl rfl ?_
        exact ⟨rfl, hI1, hf1⟩
      · refine k_run 0 (pc' := 7) (l' := [(0, .inr (.inr 372)), (1, .inl a), (2, .inl x2)]) (st' := []) rfl ?_
        refine k_run 2 (pc' := 9) (l' := [(0, .inr (.inr 372)), (1, .inl a), (2, .inl x2), (3, .inl 0)]) (st' := []) rfl ?_
        exact ih.2.1 H1 hI1 hf1 x2 (0 : Int) (by omega) (by decide) (by omega) (by omega) (by omega)
    · intro H1 hI1 hf1 x2 x3 hx2 hx3 hi0 hi1 hw
      refine k_run 5 (pc' := 20) (l' := [(0, .inr (.inr 372)), (1, .inl a), (2, .inl x2), (3, .inl x3)]) (st' := [.inl (H1.1 8 4), .inl x3]) rfl ?_
      have g2 : 0 ≤ (H1.1 8 4) ∧ (H1.1 8 4) ≤ 6 := kn (x := kx_8) hI1 rfl 4
      have e3 : (H1.1 8 4) = (H.1 8 4) := (hf1.1 8 4 rfl (by decide) (by decide)).1
      refine h_ige (off := 37) (t := 57) rfl rfl (by omega) (by omega) (fun c4 => ?_) (fun c4 => ?_)
      · refine k_run 0 (pc' := 57) (l' := [(0, .inr (.inr 372)), (1, .inl a), (2, .inl x2), (3, .inl x3)]) (st' := []) rfl ?_
        refine k_run 2 (pc' := 59) (l' := [(0, .inr (.inr 372)), (1, .inl a), (2, .inl x2), (3, .inl 0)]) (st' := []) rfl ?_
        exact ih.2.2 H1 hI1 hf1 x2 (0 : Int) (by omega) (by decide) (by omega) (by omega) (by omega)
      · refine k_run 0 (pc' := 23) (l' := [(0, .inr (.inr 372)), (1, .inl a), (2, .inl x2), (3, .inl x3)]) (st' := []) rfl ?_
        refine k_run 9 (pc' := 37) (l' := [(0, .inr (.inr 372)), (1, .inl a), (2, .inl x2), (3, .inl x3)]) (st' := [.inl (H1.1 372 9), .inl ((x3 * 7) + x2), .inr (.inr 373)]) rfl ?_
        have g5 : 0 ≤ (H1.1 372 9) ∧ (H1.1 372 9) ≤ 1 := kn (x := kx_372) hI1 rfl 9
        have e6 : (H1.1 372 9) = (H.1 372 9) := (hf1.1 372 9 rfl (by decide) (by decide)).1
        refine h_zeq (off := 12) (t := 49) rfl rfl (by omega) (fun c7 => ?_) (fun c7 => ?_)
        · refine k_run 0 (pc' := 49) (l' := [(0, .inr (.inr 372)), (1, .inl a), (2, .inl x2), (3, .inl x3)]) (st' := [.inl ((x3 * 7) + x2), .inr (.inr 373)]) rfl ?_
          refine k_run 1 (pc' := 50) (l' := [(0, .inr (.inr 372)), (1, .inl a), (2, .inl x2), (3, .inl x3)]) (st' := [.inl 0, .inl ((x3 * 7) + x2), .inr (.inr 373)]) rfl ?_
          refine k_istw (c := 373) (j := (((x3 * 7) + x2)).toNat) (i := ((x3 * 7) + x2)) (x := kx_373) rfl rfl (by decide) (by decide) rfl (by decide) (by omega) (by omega) hI1 rfl (fun H8 hI9 hw10 => ?_)
          have hf12 : fq [] [373, 374] false H H8 := fq_w hf1 hw10 (fpa (by decide) rfl)
          refine k_run 0 (pc' := 51) (l' := [(0, .inr (.inr 372)), (1, .inl a), (2, .inl x2), (3, .inl x3)]) (st' := []) rfl ?_
          refine k_run 2 (pc' := 9) (l' := [(0, .inr (.inr 372)), (1, .inl a), (2, .inl x2), (3, .inl (x3 + 1))]) (st' := []) rfl ?_
          exact ih.2.1 H8 hI9 hf12 x2 (x3 + 1) (by omega) (by omega) (by omega) (by omega) (by omega)
        · refine k_run 0 (pc' := 40) (l' := [(0, .inr (.inr 372)), (1, .inl a), (2, .inl x2), (3, .inl x3)]) (st' := [.inl ((x3 * 7) + x2), .inr (.inr 373)]) rfl ?_
          refine k_run 2 (pc' := 42) (l' := [(0, .inr (.inr 372)), (1, .inl a), (2, .inl x2), (3, .inl x3)]) (st' := [.inl 1, .inl x2, .inl ((x3 * 7) + x2), .inr (.inr 373)]) rfl ?_
          refine h_ine (off := 7) (t := 49) rfl rfl (by omega) (by decide) (fun c13 => ?_) (fun c13 => ?_)
          · refine k_run 0 (pc' := 49) (l' := [(0, .inr (.inr 372)), (1, .inl a), (2, .inl x2), (3, .inl x3)]) (st' := [.inl ((x3 * 7) + x2), .inr (.inr 373)]) rfl ?_
            refine k_run 1 (pc' := 50) (l' := [(0, .inr (.inr 372)), (1, .inl a), (2, .inl x2), (3, .inl x3)]) (st' := [.inl 0, .inl ((x3 * 7) + x2), .inr (.inr 373)]) rfl ?_
            refine k_istw (c := 373) (j := (((x3 * 7) + x2)).toNat) (i := ((x3 * 7) + x2)) (x := kx_373) rfl rfl (by decide) (by decide) rfl (by decide) (by omega) (by omega) hI1 rfl (fun H14 hI15 hw16 => ?_)
            have hf18 : fq [] [373, 374] false H H14 := fq_w hf1 hw16 (fpa (by decide) rfl)
            refine k_run 0 (pc' := 51) (l' := [(0, .inr (.inr 372)), (1, .inl a), (2, .inl x2), (3, .inl x3)]) (st' := []) rfl ?_
            refine k_run 2 (pc' := 9) (l' := [(0, .inr (.inr 372)), (1, .inl a), (2, .inl x2), (3, .inl (x3 + 1))]) (st' := []) rfl ?_
            exact ih.2.1 H14 hI15 hf18 x2 (x3 + 1) (by omega) (by omega) (by omega) (by omega) (by omega)
          · refine k_run 0 (pc' := 45) (l' := [(0, .inr (.inr 372)), (1, .inl a), (2, .inl x2), (3, .inl x3)]) (st' := [.inl ((x3 * 7) + x2), .inr (.inr 373)]) rfl ?_
            refine k_run 2 (pc' := 50) (l' := [(0, .inr (.inr 372)), (1, .inl a), (2, .inl x2), (3, .inl x3)]) (st' := [.inl 1, .inl ((x3 * 7) + x2), .inr (.inr 373)]) rfl ?_
            refine k_istw (c := 373) (j := (((x3 * 7) + x2)).toNat) (i := ((x3 * 7) + x2)) (x := kx_373) rfl rfl (by decide) (by decide) rfl (by decide) (by omega) (by omega) hI1 rfl (fun H19 hI20 hw21 => ?_)
            have hf23 : fq [] [373, 374] false H H19 := fq_w hf1 hw21 (fpa (by decide) rfl)
            refine k_run 0 (pc' := 51) (l' := [(0, .inr (.inr 372)), (1, .inl a), (2, .inl x2), (3, .inl x3)]) (st' := []) rfl ?_
            refine k_run 2 (pc' := 9) (l' := [(0, .inr (.inr 372)), (1, .inl a), (2, .inl x2), (3, .inl (x3 + 1))]) (st' := []) rfl ?_
            exact ih.2.1 H19 hI20 hf23 x2 (x3 + 1) (by omega) (by omega) (by omega) (by omega) (by omega)
    · intro H1 hI1 hf1 x2 x3 hx2 hx3 hi0 hi1 hw
      refine k_run 5 (pc' := 70) (l' := [(0, .inr (.inr 372)), (1, .inl a), (2, .inl x2), (3, .inl x3)]) (st' := [.inl (H1.1 13 4), .inl x3]) rfl ?_
      have g24 : 0 ≤ (H1.1 13 4) ∧ (H1.1 13 4) ≤ 16 := kn (x := kx_13) hI1 rfl 4
      have e25 : (H1.1 13 4) = (H.1 13 4) := (hf1.1 13 4 rfl (by decide) (by decide)).1
      refine h_ige (off := 76) (t := 146) rfl rfl (by omega) (by omega) (fun c26 => ?_) (fun c26 => ?_)
      · refine k_run 0 (pc' := 146) (l' := [(0, .inr (.inr 372)), (1, .inl a), (2, .inl x2), (3, .inl x3)]) (st' := []) rfl ?_
        refine k_run 2 (pc' := 2) (l' := [(0, .inr (.inr 372)), (1, .inl a), (2, .inl (x2 + 1)), (3, .inl x3)]) (st' := []) rfl ?_
        refine h_loc [0, 1, 2] rfl ?_
        exact ih.1 H1 hI1 hf1 (x2 + 1) (by omega) (by omega) (by omega)
      · refine k_run 0 (pc' := 73) (l' := [(0, .inr (.inr 372)), (1, .inl a), (2, .inl x2), (3, .inl x3)]) (st' := []) rfl ?_
        refine k_run 5 (pc' := 84) (l' := [(0, .inr (.inr 372)), (1, .inl a), (2, .inl x2), (3, .inl x3)]) (st' := [.inl x3, .inr (.inr 15)]) rfl ?_
        refine k_ild (c := 15) (j := (x3).toNat) (i := x3) (x := kx_15) rfl rfl (by decide) rfl (by decide) (by omega) (by omega) ?_
        have g27 : -2 ≤ (H1.1 15 (x3).toNat) ∧ (H1.1 15 (x3).toNat) ≤ 100 := kn (x := kx_15) hI1 rfl (x3).toNat
        have e28 : (H1.1 15 (x3).toNat) = (H.1 15 (x3).toNat) := (hf1.1 15 (x3).toNat rfl (by decide) (fun q => by simp at q)).1
        refine k_run 0 (pc' := 85) (l' := [(0, .inr (.inr 372)), (1, .inl a), (2, .inl x2), (3, .inl x3)]) (st' := [.inl (H1.1 15 (x3).toNat)]) rfl ?_
        refine k_run 10 (pc' := 97) (l' := [(0, .inr (.inr 372)), (1, .inl a), (2, .inl x2), (3, .inl x3), (4, .inl (((H1.1 15 (x3).toNat) * 7) + x2))]) (st' := [.inl (x2 - 1), .inl x3, .inr (.inr 372)]) rfl ?_
        refine h_cv (i := 144) (j := 107) (b := 372) (M' := mt_107) (xs := [.inl (x2 - 1), .inl x3]) (rest := []) rfl rfl rfl rfl (zs_K (x := kx_372) rfl (by decide)) rfl (Nat.le_of_ble_eq_true rfl) (Nat.le_of_ble_eq_true rfl) (by omega) (k_Trial_countTuples (by omega) hI1 (by omega) (by omega) (by omega) (by omega)) ?_
        rintro _ H30 ⟨z33, rfl, g29, hI31, hq32⟩
        have hf34 : fq [] [373, 374] false H H30 := fq_t hf1 hq32 rfl rfl rfl
        refine k_run 0 (pc' := 100) (l' := [(0, .inr (.inr 372)), (1, .inl a), (2, .inl x2), (3, .inl x3), (4, .inl (((H1.1 15 (x3).toNat) * 7) + x2))]) (st' := [.inl z33]) rfl ?_
        refine k_run 2 (pc' := 104) (l' := [(0, .inr (.inr 372)), (1, .inl a), (2, .inl x2), (3, .inl x3), (4, .inl (((H1.1 15 (x3).toNat) * 7) + x2)), (5, .inl z33)]) (st' := [.inl (((H1.1 15 (x3).toNat) * 7) + x2)]) rfl ?_
        refine h_zlt (off := 36) (t := 140) rfl rfl (by omega) (fun c35 => ?_) (fun c35 => ?_)
        · refine k_run 0 (pc' := 140) (l' := [(0, .inr (.inr 372)), (1, .inl a), (2, .inl x2), (3, .inl x3), (4, .inl (((H1.1 15 (x3).toNat) * 7) + x2)), (5, .inl z33)]) (st' := []) rfl ?_
          refine k_run 2 (pc' := 59) (l' := [(0, .inr (.inr 372)), (1, .inl a), (2, .inl x2), (3, .inl (x3 + 1)), (4, .inl (((H1.1 15 (x3).toNat) * 7) + x2)), (5, .inl z33)]) (st' := []) rfl ?_
          refine h_loc [0, 1, 2, 3] rfl ?_
          exact ih.2.2 H30 hI31 hf34 x2 (x3 + 1) (by omega) (by omega) (by omega) (by omega) (by omega)
        · refine k_run 0 (pc' := 107) (l' := [(0, .inr (.inr 372)), (1, .inl a), (2, .inl x2), (3, .inl x3), (4, .inl (((H1.1 15 (x3).toNat) * 7) + x2)), (5, .inl z33)]) (st' := []) rfl ?_
          refine k_run 3 (pc' := 113) (l' := [(0, .inr (.inr 372)), (1, .inl a), (2, .inl x2), (3, .inl x3), (4, .inl (((H1.1 15 (x3).toNat) * 7) + x2)), (5, .inl z33)]) (st' := [.inr (.inr 373), .inl (((H1.1 15 (x3).toNat) * 7) + x2)]) rfl ?_
          refine k_alen (c := 373) (x := kx_373) rfl rfl (by decide) rfl ?_
          refine k_run 0 (pc' := 114) (l' := [(0, .inr (.inr 372)), (1, .inl a), (2, .inl x2), (3, .inl x3), (4, .inl (((H1.1 15 (x3).toNat) * 7) + x2)), (5, .inl z33)]) (st' := [.inl 42, .inl (((H1.1 15 (x3).toNat) * 7) + x2)]) rfl ?_
          refine h_ige (off := 26) (t := 140) rfl rfl (by omega) (by decide) (fun c36 => ?_) (fun c36 => ?_)
          · refine k_run 0 (pc' := 140) (l' := [(0, .inr (.inr 372)), (1, .inl a), (2, .inl x2), (3, .inl x3), (4, .inl (((H1.1 15 (x3).toNat) * 7) + x2)), (5, .inl z33)]) (st' := []) rfl ?_
            refine k_run 2 (pc' := 59) (l' := [(0, .inr (.inr 372)), (1, .inl a), (2, .inl x2), (3, .inl (x3 + 1)), (4, .inl (((H1.1 15 (x3).toNat) * 7) + x2)), (5, .inl z33)]) (st' := []) rfl ?_
            refine h_loc [0, 1, 2, 3] rfl ?_
            exact ih.2.2 H30 hI31 hf34 x2 (x3 + 1) (by omega) (by omega) (by omega) (by omega) (by omega)
          · refine k_run 0 (pc' := 117) (l' := [(0, .inr (.inr 372)), (1, .inl a), (2, .inl x2), (3, .inl x3), (4, .inl (((H1.1 15 (x3).toNat) * 7) + x2)), (5, .inl z33)]) (st' := []) rfl ?_
            refine k_run 6 (pc' := 129) (l' := [(0, .inr (.inr 372)), (1, .inl a), (2, .inl x2), (3, .inl x3), (4, .inl (((H1.1 15 (x3).toNat) * 7) + x2)), (5, .inl z33)]) (st' := [.inl (((H1.1 15 (x3).toNat) * 7) + x2), .inr (.inr 373), .inl (((H1.1 15 (x3).toNat) * 7) + x2), .inr (.inr 373)]) rfl ?_
            refine k_ild (c := 373) (j := ((((H1.1 15 (x3).toNat) * 7) + x2)).toNat) (i := (((H1.1 15 (x3).toNat) * 7) + x2)) (x := kx_373) rfl rfl (by decide) rfl (by decide) (by omega) (by omega) ?_
            have g37 : -2147483648 ≤ (H30.1 373 ((((H1.1 15 (x3).toNat) * 7) + x2)).toNat) ∧ (H30.1 373 ((((H1.1 15 (x3).toNat) * 7) + x2)).toNat) ≤ 2147483647 := kn (x := kx_373) hI31 rfl ((((H1.1 15 (x3).toNat) * 7) + x2)).toNat
            have e38 : (H30.1 373 ((((H1.1 15 (x3).toNat) * 7) + x2)).toNat) = (H1.1 373 ((((H1.1 15 (x3).toNat) * 7) + x2)).toNat) := (hq32.1 373 ((((H1.1 15 (x3).toNat) * 7) + x2)).toNat rfl (by decide) (fun q => by simp at q)).1
            refine k_run 0 (pc' := 130) (l' := [(0, .inr (.inr 372)), (1, .inl a), (2, .inl x2), (3, .inl x3), (4, .inl (((H1.1 15 (x3).toNat) * 7) + x2)), (5, .inl z33)]) (st' := [.inl (H30.1 373 ((((H1.1 15 (x3).toNat) * 7) + x2)).toNat), .inl (((H1.1 15 (x3).toNat) * 7) + x2), .inr (.inr 373)]) rfl ?_
            refine k_run 2 (pc' := 133) (l' := [(0, .inr (.inr 372)), (1, .inl a), (2, .inl x2), (3, .inl x3), (4, .inl (((H1.1 15 (x3).toNat) * 7) + x2)), (5, .inl z33)]) (st' := [.inl ((H30.1 373 ((((H1.1 15 (x3).toNat) * 7) + x2)).toNat) + z33), .inl (((H1.1 15 (x3).toNat) * 7) + x2), .inr (.inr 373)]) rfl ?_
            refine k_nrm (fun y39 hy39 => ?_)
            refine k_run 0 (pc' := 133) (l' := [(0, .inr (.inr 372)), (1, .inl a), (2, .inl x2), (3, .inl x3), (4, .inl (((H1.1 15 (x3).toNat) * 7) + x2)), (5, .inl z33)]) (st' := [.inl y39, .inl (((H1.1 15 (x3).toNat) * 7) + x2), .inr (.inr 373)]) rfl ?_
            refine k_run 1 (pc' := 136) (l' := [(0, .inr (.inr 372)), (1, .inl a), (2, .inl x2), (3, .inl x3), (4, .inl (((H1.1 15 (x3).toNat) * 7) + x2)), (5, .inl z33)]) (st' := [.inl 2001, .inl y39, .inl (((H1.1 15 (x3).toNat) * 7) + x2), .inr (.inr 373)]) rfl ?_
            refine k_min (i := 101) (x := y39) (y := 2001) rfl rfl (Nat.le_of_ble_eq_true rfl) (by omega) (by omega) (by decide) (fun z40 hz40 => ?_)
            refine k_run 0 (pc' := 139) (l' := [(0, .inr (.inr 372)), (1, .inl a), (2, .inl x2), (3, .inl x3), (4, .inl (((H1.1 15 (x3).toNat) * 7) + x2)), (5, .inl z33)]) (st' := [.inl z40, .inl (((H1.1 15 (x3).toNat) * 7) + x2), .inr (.inr 373)]) rfl ?_
            refine k_istw (c := 373) (j := ((((H1.1 15 (x3).toNat) * 7) + x2)).toNat) (i := (((H1.1 15 (x3).toNat) * 7) + x2)) (x := kx_373) rfl rfl (by decide) (by decide) rfl (by decide) (by omega) (by omega) hI31 rfl (fun H41 hI42 hw43 => ?_)
            have hf45 : fq [] [373, 374] false H H41 := fq_w hf34 hw43 (fpa (by decide) rfl)
            refine k_run 0 (pc' := 140) (l' := [(0, .inr (.inr 372)), (1, .inl a), (2, .inl x2), (3, .inl x3), (4, .inl (((H1.1 15 (x3).toNat) * 7) + x2)), (5, .inl z33)]) (st' := []) rfl ?_
            refine k_run 2 (pc' := 59) (l' := [(0, .inr (.inr 372)), (1, .inl a), (2, .inl x2), (3, .inl (x3 + 1)), (4, .inl (((H1.1 15 (x3).toNat) * 7) + x2)), (5, .inl z33)]) (st' := []) rfl ?_
            refine h_loc [0, 1, 2, 3] rfl ?_
            exact ih.2.2 H41 hI42 hf45 x2 (x3 + 1) (by omega) (by omega) (by omega) (by omega) (by omega)
set_option maxRecDepth 100000 in
theorem k_Trial_countValues {d : Nat} (hd : 3 ≤ d) {H : hp} (hI : Inv H) {a : Int} (ha : -2147483648 ≤ a ∧ a ≤ 2147483647) (hp0 : 1 ≤ a ∧ a ≤ 6) : hG (zs zK) d mt_106 0 (zargs 0 [.inr (.inr 372), .inl a]) [] H (fun r9 H9 => r9 = none ∧ Inv H9 ∧ fq [] [373, 374] false H H9) := by
  refine k_run 0 (pc' := 0) (l' := [(0, .inr (.inr 372)), (1, .inl a)]) (st' := []) rfl ?_
  refine k_run 2 (pc' := 2) (l' := [(0, .inr (.inr 372)), (1, .inl a), (2, .inl 1)]) (st' := []) rfl ?_
  exact (k_Trial_countValues_cut hd hI ha hp0 _).1 H hI (fq_rf _ _ _ _) (1 : Int) (by decide) (by omega) (Nat.lt_succ_self _)

/-! Trial.countRows -/
set_option maxRecDepth 100000 in
theorem k_Trial_countRows_cut {d : Nat} (hd : 2 ≤ d) {H : hp} (hI : Inv H) {e : Nat} {b : Int} (he : isE e) (hb : -2147483648 ≤ b ∧ b ≤ 2147483647) (hp0 : 1 ≤ b ∧ b ≤ 6) : ∀ w : Nat, (∀ (H1 : hp), Inv H1 → fq [] [375] false H H1 → ∀ (x3 : Int) (x4 : Int) , (-2147483648 ≤ x3 ∧ x3 ≤ 2147483647) → (-2147483648 ≤ x4 ∧ x4 ≤ 2147483647) → (0 ≤ x4 ∧ x4 ≤ 6) → (((1000 * (100 - x4) + 500).toNat) < w) → hG (zs zK) d mt_110 5 [(0, .inr (.inr 372)), (1, .inr (.inr e)), (2, .inl b), (3, .inl x3), (4, .inl x4)] [] H1 (fun r9 H9 => ∃ z : Int, r9 = some (.inl z) ∧ ((-2147483648 ≤ z ∧ z ≤ 2147483647)) ∧ Inv H9 ∧ fq [] [375] false H H9)) ∧ (∀ (H1 : hp), Inv H1 → fq [] [375] false H H1 → ∀ (x3 : Int) (x4 : Int) (x5 : Int) (x6 : Int) , (-2147483648 ≤ x3 ∧ x3 ≤ 2147483647) → (-2147483648 ≤ x4 ∧ x4 ≤ 2147483647) → (-2147483648 ≤ x5 ∧ x5 ≤ 2147483647) → (-2147483648 ≤ x6 ∧ x6 ≤ 2147483647) → (0 ≤ x4 ∧ x4 < 6) → (1 ≤ x6 ∧ x6 ≤ 7) → (((1000 * (100 - x4) + 100 - x6).toNat) < w) → hG (zs zK) d mt_110 27 [(0, .inr (.inr 372)), (1, .inr (.inr e)), (2, .inl b), (3, .inl x3), (4, .inl x4), (5, .inl x5), (6, .inl x6)] [] H1 (fun r9 H9 => ∃ z : Int, r9 = some (.inl z) ∧ ((-2147483648 ≤ z ∧ z ≤ 2147483647)) ∧ Inv H9 ∧ fq [] [375] false H H9)) := by
  intro w
  induction w with
  | zero => exact ⟨fun _ _ _ _ _ _ _ _ h => absurd h (Nat.not_lt_zero _), fun _ _ _ _ _ _ _ _ _ _ _ _ _ h => absurd h (Nat.not_lt_zero _)⟩
  | succ w ih =>
    refine ⟨?_, ?_⟩
    · intro H1 hI1 hf1 x3 x4 hx3 hx4 hi0 hw
      refine k_run 2 (pc' := 8) (l' := [(0, .inr (.inr 372)), (1, .inr (.inr e)), (2, .inl b), (3, .inl x3), (4, .inl x4)]) (st' := [.inr (.inr e), .inl x4]) rfl ?_
      refine k_get (a := e) (x := (kEo e)) (v := .inl (H1.1 e 3)) rfl rfl he.1 (iE0 he) rfl rfl rfl ?_
      have g1 : 0 ≤ (H1.1 e 3) ∧ (H1.1 e 3) ≤ 40 := kn hI1 he.1 3
      have e2 : (H1.1 e 3) = (H.1 e 3) := (hf1.2 rfl e 3 (iEt he)).1
      refine k_run 0 (pc' := 11) (l' := [(0, .inr (.inr 372)), (1, .inr (.inr e)), (2, .inl b), (3, .inl x3), (4, .inl x4)]) (st' := [.inl (H1.1 e 3), .inl x4]) rfl ?_
      refine h_ige (off := 83) (t := 94) rfl rfl (by omega) (by omega) (fun c3 => ?_) (fun c3 => ?_)
      · refine k_run 0 (pc' := 94) (l' := [(0, .inr (.inr 372)), (1, .inr (.inr e)), (2, .inl b), (3, .inl x3), (4, .inl x4)]) (st' := []) rfl ?_
        refine k_run 1 (pc' := 95) (l' := [(0, .inr (.inr 372)), (1, .inr (.inr e)), (2, .inl b), (3, .inl x3), (4, .inl x4)]) (st' := [.inl x3]) rfl ?_
        refine h_reti (x := x3) rfl rfl ?_
        exact ⟨_, rfl, (by omega), hI1, hf1⟩
      · refine k_run 0 (pc' := 14) (l' := [(0, .inr (.inr 372)), (1, .inr (.inr e)), (2, .inl b), (3, .inl x3), (4, .inl x4)]) (st' := []) rfl ?_
        refine k_run 2 (pc' := 18) (l' := [(0, .inr (.inr 372)), (1, .inr (.inr e)), (2, .inl b), (3, .inl x3), (4, .inl x4)]) (st' := [.inl 6, .inl x4]) rfl ?_
        refine h_ige (off := 76) (t := 94) rfl rfl (by omega) (by decide) (fun c4 => ?_) (fun c4 => ?_)
        · refine k_run 0 (pc' := 94) (l' := [(0, .inr (.inr 372)), (1, .inr (.inr e)), (2, .inl b), (3, .inl x3), (4, .inl x4)]) (st' := []) rfl ?_
          refine k_run 1 (pc' := 95) (l' := [(0, .inr (.inr 372)), (1, .inr (.inr e)), (2, .inl b), (3, .inl x3), (4, .inl x4)]) (st' := [.inl x3]) rfl ?_
          refine h_reti (x := x3) rfl rfl ?_
          exact ⟨_, rfl, (by omega), hI1, hf1⟩
        · refine k_run 0 (pc' := 21) (l' := [(0, .inr (.inr 372)), (1, .inr (.inr e)), (2, .inl b), (3, .inl x3), (4, .inl x4)]) (st' := []) rfl ?_
          refine k_run 4 (pc' := 27) (l' := [(0, .inr (.inr 372)), (1, .inr (.inr e)), (2, .inl b), (3, .inl x3), (4, .inl x4), (5, .inl 0), (6, .inl 1)]) (st' := []) rfl ?_
          exact ih.2 H1 hI1 hf1 x3 x4 (0 : Int) (1 : Int) (by omega) (by omega) (by decide) (by decide) (by omega) (by omega) (by omega)
    · intro H1 hI1 hf1 x3 x4 x5 x6 hx3 hx4 hx5 hx6 hi0 hi1 hw
      refine k_run 2 (pc' := 30) (l' := [(0, .inr (.inr 372)), (1, .inr (.inr e)), (2, .inl b), (3, .inl x3), (4, .inl x4), (5, .inl x5), (6, .inl x6)]) (st' := [.inl b, .inl x6]) rfl ?_
      refine h_igt (off := 27) (t := 57) rfl rfl (by omega) (by omega) (fun c5 => ?_) (fun c5 => ?_)
      · refine k_run 0 (pc' := 57) (l' := [(0, .inr (.inr 372)), (1, .inr (.inr e)), (2, .inl b), (3, .inl x3), (4, .inl x4), (5, .inl x5), (6, .inl x6)]) (st' := []) rfl ?_
        refine k_run 5 (pc' := 68) (l' := [(0, .inr (.inr 372)), (1, .inr (.inr e)), (2, .inl b), (3, .inl x3), (4, .inl x4), (5, .inl x5), (6, .inl x6)]) (st' := [.inl 2001, .inl x5, .inl x4, .inr (.inr 375)]) rfl ?_
        refine k_min (i := 101) (x := x5) (y := 2001) rfl rfl (Nat.le_of_ble_eq_true rfl) (by omega) (by omega) (by decide) (fun z6 hz6 => ?_)
        refine k_run 0 (pc' := 71) (l' := [(0, .inr (.inr 372)), (1, .inr (.inr e)), (2, .inl b), (3, .inl x3), (4, .inl x4), (5, .inl x5), (6, .inl x6)]) (st' := [.inl z6, .inl x4, .inr (.inr 375)]) rfl ?_
        refine k_istw (c := 375) (j := (x4).toNat) (i := x4) (x := kx_375) rfl rfl (by decide) (by decide) rfl (by decide) (by omega) (by omega) hI1 rfl (fun H7 hI8 hw9 => ?_)
        have hf11 : fq [] [375] false H H7 := fq_w hf1 hw9 (fpa (by decide) rfl)
        refine k_run 0 (pc' := 72) (l' := [(0, .inr (.inr 372)), (1, .inr (.inr e)), (2, .inl b), (3, .inl x3), (4, .inl x4), (5, .inl x5), (6, .inl x6)]) (st' := []) rfl ?_
        refine k_run 4 (pc' := 79) (l' := [(0, .inr (.inr 372)), (1, .inr (.inr e)), (2, .inl b), (3, .inl x3), (4, .inl x4), (5, .inl x5), (6, .inl x6)]) (st' := [.inl x4, .inr (.inr 375), .inl x3]) rfl ?_
        refine k_ild (c := 375) (j := (x4).toNat) (i := x4) (x := kx_375) rfl rfl (by decide) rfl (by decide) (by omega) (by omega) ?_
        have g12 : -2147483648 ≤ (H7.1 375 (x4).toNat) ∧ (H7.1 375 (x4).toNat) ≤ 2147483647 := kn (x := kx_375) hI8 rfl (x4).toNat
        refine k_run 0 (pc' := 80) (l' := [(0, .inr (.inr 372)), (1, .inr (.inr e)), (2, .inl b), (3, .inl x3), (4, .inl x4), (5, .inl x5), (6, .inl x6)]) (st' := [.inl (H7.1 375 (x4).toNat), .inl x3]) rfl ?_
        refine k_run 1 (pc' := 81) (l' := [(0, .inr (.inr 372)), (1, .inr (.inr e)), (2, .inl b), (3, .inl x3), (4, .inl x4), (5, .inl x5), (6, .inl x6)]) (st' := [.inl (x3 * (H7.1 375 (x4).toNat))]) rfl ?_
        refine k_nrm (fun y13 hy13 => ?_)
        refine k_run 0 (pc' := 81) (l' := [(0, .inr (.inr 372)), (1, .inr (.inr e)), (2, .inl b), (3, .inl x3), (4, .inl x4), (5, .inl x5), (6, .inl x6)]) (st' := [.inl y13]) rfl ?_
        refine k_run 1 (pc' := 84) (l' := [(0, .inr (.inr 372)), (1, .inr (.inr e)), (2, .inl b), (3, .inl x3), (4, .inl x4), (5, .inl x5), (6, .inl x6)]) (st' := [.inl 2001, .inl y13]) rfl ?_
        refine k_min (i := 101) (x := y13) (y := 2001) rfl rfl (Nat.le_of_ble_eq_true rfl) (by omega) (by omega) (by decide) (fun z14 hz14 => ?_)
        refine k_run 0 (pc' := 87) (l' := [(0, .inr (.inr 372)), (1, .inr (.inr e)), (2, .inl b), (3, .inl x3), (4, .inl x4), (5, .inl x5), (6, .inl x6)]) (st' := [.inl z14]) rfl ?_
        refine k_run 3 (pc' := 5) (l' := [(0, .inr (.inr 372)), (1, .inr (.inr e)), (2, .inl b), (3, .inl z14), (4, .inl (x4 + 1)), (5, .inl x5), (6, .inl x6)]) (st' := []) rfl ?_
        refine h_loc [0, 1, 2, 3, 4] rfl ?_
        exact ih.1 H7 hI8 hf11 z14 (x4 + 1) (by omega) (by omega) (by omega) (by omega)
      · refine k_run 0 (pc' := 33) (l' := [(0, .inr (.inr 372)), (1, .inr (.inr e)), (2, .inl b), (3, .inl x3), (4, .inl x4), (5, .inl x5), (6, .inl x6)]) (st' := []) rfl ?_
        refine k_run 3 (pc' := 37) (l' := [(0, .inr (.inr 372)), (1, .inr (.inr e)), (2, .inl b), (3, .inl x3), (4, .inl x4), (5, .inl x5), (6, .inl x6)]) (st' := [.inr (.inr e), .inr (.inr 372), .inl x5]) rfl ?_
        refine k_get (a := e) (x := (kEo e)) (v := .inr (.inr (e + 5))) rfl rfl he.1 (iE0 he) rfl rfl rfl ?_
        refine k_run 0 (pc' := 40) (l' := [(0, .inr (.inr 372)), (1, .inr (.inr e)), (2, .inl b), (3, .inl x3), (4, .inl x4), (5, .inl x5), (6, .inl x6)]) (st' := [.inr (.inr (e + 5)), .inr (.inr 372), .inl x5]) rfl ?_
        refine k_run 1 (pc' := 42) (l' := [(0, .inr (.inr 372)), (1, .inr (.inr e)), (2, .inl b), (3, .inl x3), (4, .inl x4), (5, .inl x5), (6, .inl x6)]) (st' := [.inl x4, .inr (.inr (e + 5)), .inr (.inr 372), .inl x5]) rfl ?_
        refine k_ild (c := (e + 5)) (j := (x4).toNat) (i := x4) (x := kEt) rfl he.2.1 (iE5 he) rfl (by decide) (by omega) (by omega) ?_
        have g15 : -2 ≤ (H1.1 (e + 5) (x4).toNat) ∧ (H1.1 (e + 5) (x4).toNat) ≤ 100 := kn hI1 he.2.1 (x4).toNat
        refine k_run 0 (pc' := 43) (l' := [(0, .inr (.inr 372)), (1, .inr (.inr e)), (2, .inl b), (3, .inl x3), (4, .inl x4), (5, .inl x5), (6, .inl x6)]) (st' := [.inl (H1.1 (e + 5) (x4).toNat), .inr (.inr 372), .inl x5]) rfl ?_
        refine k_run 1 (pc' := 45) (l' := [(0, .inr (.inr 372)), (1, .inr (.inr e)), (2, .inl b), (3, .inl x3), (4, .inl x4), (5, .inl x5), (6, .inl x6)]) (st' := [.inl x6, .inl (H1.1 (e + 5) (x4).toNat), .inr (.inr 372), .inl x5]) rfl ?_
        refine h_cv (i := 153) (j := 108) (b := 372) (M' := mt_108) (xs := [.inl x6, .inl (H1.1 (e + 5) (x4).toNat)]) (rest := [.inl x5]) rfl rfl rfl rfl (zs_K (x := kx_372) rfl (by decide)) rfl (Nat.le_of_ble_eq_true rfl) (Nat.le_of_ble_eq_true rfl) (by omega) (k_Trial_valuesOf (by omega) hI1 (by omega) (by omega) (by omega) (by omega)) ?_
        rintro _ _ ⟨z20, rfl, g16, rfl⟩
        refine k_run 0 (pc' := 48) (l' := [(0, .inr (.inr 372)), (1, .inr (.inr e)), (2, .inl b), (3, .inl x3), (4, .inl x4), (5, .inl x5), (6, .inl x6)]) (st' := [.inl z20, .inl x5]) rfl ?_
        refine k_run 1 (pc' := 49) (l' := [(0, .inr (.inr 372)), (1, .inr (.inr e)), (2, .inl b), (3, .inl x3), (4, .inl x4), (5, .inl x5), (6, .inl x6)]) (st' := [.inl (x5 + z20)]) rfl ?_
        refine k_nrm (fun y21 hy21 => ?_)
        refine k_run 0 (pc' := 49) (l' := [(0, .inr (.inr 372)), (1, .inr (.inr e)), (2, .inl b), (3, .inl x3), (4, .inl x4), (5, .inl x5), (6, .inl x6)]) (st' := [.inl y21]) rfl ?_
        refine k_run 3 (pc' := 27) (l' := [(0, .inr (.inr 372)), (1, .inr (.inr e)), (2, .inl b), (3, .inl x3), (4, .inl x4), (5, .inl y21), (6, .inl (x6 + 1))]) (st' := []) rfl ?_
        exact ih.2 H1 hI1 hf1 x3 x4 y21 (x6 + 1) (by omega) (by omega) (by omega) (by omega) (by omega) (by omega) (by omega)
set_option maxRecDepth 100000 in
theorem k_Trial_countRows {d : Nat} (hd : 2 ≤ d) {H : hp} (hI : Inv H) {e : Nat} {b : Int} (he : isE e) (hb : -2147483648 ≤ b ∧ b ≤ 2147483647) (hp0 : 1 ≤ b ∧ b ≤ 6) : hG (zs zK) d mt_110 0 (zargs 0 [.inr (.inr 372), .inr (.inr e), .inl b]) [] H (fun r9 H9 => ∃ z : Int, r9 = some (.inl z) ∧ ((-2147483648 ≤ z ∧ z ≤ 2147483647)) ∧ Inv H9 ∧ fq [] [375] false H H9) := by
  refine k_run 0 (pc' := 0) (l' := [(0, .inr (.inr 372)), (1, .inr (.inr e)), (2, .inl b)]) (st' := []) rfl ?_
  refine k_run 4 (pc' := 5) (l' := [(0, .inr (.inr 372)), (1, .inr (.inr e)), (2, .inl b), (3, .inl 1), (4, .inl 0)]) (st' := []) rfl ?_
  exact (k_Trial_countRows_cut hd hI he hb hp0 _).1 H hI (fq_rf _ _ _ _) (1 : Int) (0 : Int) (by decide) (by decide) (by omega) (Nat.lt_succ_self _)

/-- the value with b ≤ m names is put -/
def PVc (m : Nat) : Prop := ∀ {d : Nat} (_ : 2 * m + 6 ≤ d) {H : hp} (_ : Inv H) {a b c : Int} {t n : Nat} (_ : -2147483648 ≤ a ∧ a ≤ 2147483647) (_ : -2147483648 ≤ b ∧ b ≤ 2147483647) (_ : -2147483648 ≤ c ∧ c ≤ 2147483647) (_ : isT t n) (_ : -2 ≤ a ∧ a ≤ 100) (_ : b ≤ (m : Int) ∧ 0 ≤ b ∧ b ≤ 6), hG (zs zK) d mt_112 0 (zargs 0 [.inr (.inr 372), .inl a, .inl b, .inl c, .inr (.inr t)]) [] H (fun r9 H9 => r9 = none ∧ Inv H9 ∧ fq [] [] false H H9)

/-! Trial.putArguments -/
set_option maxRecDepth 100000 in
theorem k_putArguments_cut {m : Nat} {d : Nat} (hd : 2 * m + 7 ≤ d) {H : hp} (hI : Inv H) {a : Int} {b : Int} {c : Int} {t n : Nat} (ha : -2147483648 ≤ a ∧ a ≤ 2147483647) (hb : -2147483648 ≤ b ∧ b ≤ 2147483647) (hc : -2147483648 ≤ c ∧ c ≤ 2147483647) (ht : isT t n) (hp0 : 0 ≤ a ∧ a < 16) (hp1 : b ≤ (m : Int) ∧ 0 ≤ b ∧ b ≤ 6) (hR : PVc m) : ∀ w : Nat, (∀ (H1 : hp), Inv H1 → fq [] [] false H H1 → ∀ (x5 : Int) (x6 : Int) (x7 : Int) , (-2147483648 ≤ x5 ∧ x5 ≤ 2147483647) → (-2147483648 ≤ x6 ∧ x6 ≤ 2147483647) → (-2147483648 ≤ x7 ∧ x7 ≤ 2147483647) → (0 ≤ x7 ∧ x7 ≤ 100) → (0 ≤ x6 ∧ x6 ≤ b) → (((1000 * (100 - x7) + 500).toNat) < w) → hG (zs zK) d mt_113 9 [(0, .inr (.inr 372)), (1, .inl a), (2, .inl b), (3, .inl c), (4, .inr (.inr t)), (5, .inl x5), (6, .inl x6), (7, .inl x7)] [] H1 (fun r9 H9 => r9 = none ∧ Inv H9 ∧ fq [] [] false H H9)) ∧ (∀ (H1 : hp), Inv H1 → fq [] [] false H H1 → ∀ (x5 : Int) (x6 : Int) (x7 : Int) (x8 : Int) (x9 : Int) (x10 : Int) , (-2147483648 ≤ x5 ∧ x5 ≤ 2147483647) → (-2147483648 ≤ x6 ∧ x6 ≤ 2147483647) → (-2147483648 ≤ x7 ∧ x7 ≤ 2147483647) → (-2147483648 ≤ x8 ∧ x8 ≤ 2147483647) → (-2147483648 ≤ x9 ∧ x9 ≤ 2147483647) → (-2147483648 ≤ x10 ∧ x10 ≤ 2147483647) → (0 ≤ x7 ∧ x7 < 4) → (1 ≤ x6 ∧ x6 ≤ b) → (1 ≤ x9 ∧ x9 ≤ x6) → (-2 ≤ x8 ∧ x8 ≤ 100) → (((1000 * (100 - x7) + 100 - x9).toNat) < w) → hG (zs zK) d mt_113 75 [(0, .inr (.inr 372)), (1, .inl a), (2, .inl b), (3, .inl c), (4, .inr (.inr t)), (5, .inl x5), (6, .inl x6), (7, .inl x7), (8, .inl x8), (9, .inl x9), (10, .inl x10)] [] H1 (fun r9 H9 => r9 = none ∧ Inv H9 ∧ fq [] [] false H H9)) := by
  intro w
  induction w with
  | zero => exact ⟨fun _ _ _ _ _ _ _ _ _ _ _ h => absurd h (Nat.not_lt_zero _), fun _ _ _ _ _ _ _ _ _ _ _ _ _ _ _ _ _ _ _ h => absurd h (Nat.not_lt_zero _)⟩
  | succ w ih =>
    refine ⟨?_, ?_⟩
    · intro H1 hI1 hf1 x5 x6 x7 hx5 hx6 hx7 hi0 hi1 hw
      have htb := ht.2.2.2.2
      refine k_run 6 (pc' := 22) (l' := [(0, .inr (.inr 372)), (1, .inl a), (2, .inl b), (3, .inl c), (4, .inr (.inr t)), (5, .inl x5), (6, .inl x6), (7, .inl x7)]) (st' := [.inl a, .inr (.inr 16), .inl x7]) rfl ?_
      refine k_ild (c := 16) (j := (a).toNat) (i := a) (x := kx_16) rfl rfl (by decide) rfl (by decide) (by omega) (by omega) ?_
      have g1 : 0 ≤ (H1.1 16 (a).toNat) ∧ (H1.1 16 (a).toNat) ≤ 4 := kn (x := kx_16) hI1 rfl (a).toNat
      have e2 : (H1.1 16 (a).toNat) = (H.1 16 (a).toNat) := (hf1.1 16 (a).toNat rfl (by decide) (fun q => by simp at q)).1
      refine k_run 0 (pc' := 23) (l' := [(0, .inr (.inr 372)), (1, .inl a), (2, .inl b), (3, .inl c), (4, .inr (.inr t)), (5, .inl x5), (6, .inl x6), (7, .inl x7)]) (st' := [.inl (H1.1 16 (a).toNat), .inl x7]) rfl ?_
      refine h_ige (off := 159) (t := 182) rfl rfl (by omega) (by omega) (fun c3 => ?_) (fun c3 => ?_)
      · refine k_run 0 (pc' := 182) (l' := [(0, .inr (.inr 372)), (1, .inl a), (2, .inl b), (3, .inl c), (4, .inr (.inr t)), (5, .inl x5), (6, .inl x6), (7, .inl x7)]) (st' := []) rfl ?_
        refine h_ret rfl rfl ?_
        exact ⟨rfl, hI1, hf1⟩
      · refine k_run 0 (pc' := 26) (l' := [(0, .inr (.inr 372)), (1, .inl a), (2, .inl b), (3, .inl c), (4, .inr (.inr t)), (5, .inl x5), (6, .inl x6), (7, .inl x7)]) (st' := []) rfl ?_
        refine k_run 2 (pc' := 29) (l' := [(0, .inr (.inr 372)), (1, .inl a), (2, .inl b), (3, .inl c), (4, .inr (.inr t)), (5, .inl x5), (6, .inl x6), (7, .inl x7)]) (st' := [.inl 1, .inl x6]) rfl ?_
        refine h_ilt (off := 153) (t := 182) rfl rfl (by omega) (by decide) (fun c4 => ?_) (fun c4 => ?_)
        · refine k_run 0 (pc' := 182) (l' := [(0, .inr (.inr 372)), (1, .inl a), (2, .inl b), (3, .inl c), (4, .inr (.inr t)), (5, .inl x5), (6, .inl x6), (7, .inl x7)]) (st' := []) rfl ?_
          refine h_ret rfl rfl ?_
          exact ⟨rfl, hI1, hf1⟩
        · refine k_run 0 (pc' := 32) (l' := [(0, .inr (.inr 372)), (1, .inl a), (2, .inl b), (3, .inl c), (4, .inr (.inr t)), (5, .inl x5), (6, .inl x6), (7, .inl x7)]) (st' := []) rfl ?_
          refine k_run 5 (pc' := 42) (l' := [(0, .inr (.inr 372)), (1, .inl a), (2, .inl b), (3, .inl c), (4, .inr (.inr t)), (5, .inl x5), (6, .inl x6), (7, .inl x7)]) (st' := [.inl x7, .inl a, .inr (.inr 13)]) rfl ?_
          refine h_cv (i := 150) (j := 45) (b := 13) (M' := mt_45) (xs := [.inl x7, .inl a]) (rest := []) rfl rfl rfl rfl (zs_K (x := kx_13) rfl (by decide)) rfl (Nat.le_of_ble_eq_true rfl) (Nat.le_of_ble_eq_true rfl) (by omega) (k_Symbols_argument_13 (by omega) hI1 (by omega) (by omega) (by omega)) ?_
          rintro _ _ ⟨z9, rfl, g5, rfl⟩
          refine k_run 0 (pc' := 45) (l' := [(0, .inr (.inr 372)), (1, .inl a), (2, .inl b), (3, .inl c), (4, .inr (.inr t)), (5, .inl x5), (6, .inl x6), (7, .inl x7)]) (st' := [.inl z9]) rfl ?_
          refine k_run 6 (pc' := 55) (l' := [(0, .inr (.inr 372)), (1, .inl a), (2, .inl b), (3, .inl c), (4, .inr (.inr t)), (5, .inl x5), (6, .inl x6), (7, .inl x7), (8, .inl z9), (9, .inl 1)]) (st' := [.inl 1, .inl z9, .inr (.inr 372)]) rfl ?_
          refine h_cv (i := 153) (j := 108) (b := 372) (M' := mt_108) (xs := [.inl 1, .inl z9]) (rest := []) rfl rfl rfl rfl (zs_K (x := kx_372) rfl (by decide)) rfl (Nat.le_of_ble_eq_true rfl) (Nat.le_of_ble_eq_true rfl) (by omega) (k_Trial_valuesOf (by omega) hI1 (by omega) (by decide) (by omega) (by omega)) ?_
          rintro _ _ ⟨z14, rfl, g10, rfl⟩
          refine k_run 0 (pc' := 58) (l' := [(0, .inr (.inr 372)), (1, .inl a), (2, .inl b), (3, .inl c), (4, .inr (.inr t)), (5, .inl x5), (6, .inl x6), (7, .inl x7), (8, .inl z9), (9, .inl 1)]) (st' := [.inl z14]) rfl ?_
          refine k_run 8 (pc' := 69) (l' := [(0, .inr (.inr 372)), (1, .inl a), (2, .inl b), (3, .inl c), (4, .inr (.inr t)), (5, .inl x5), (6, .inl x6), (7, .inl x7), (8, .inl z9), (9, .inl 1)]) (st' := [.inl (x6 - 1), .inl (x7 + 1), .inl a, .inr (.inr 372), .inl z14]) rfl ?_
          refine h_cv (i := 156) (j := 109) (b := 372) (M' := mt_109) (xs := [.inl (x6 - 1), .inl (x7 + 1), .inl a]) (rest := [.inl z14]) rfl rfl rfl rfl (zs_K (x := kx_372) rfl (by decide)) rfl (Nat.le_of_ble_eq_true rfl) (Nat.le_of_ble_eq_true rfl) (by omega) (k_Trial_tuplesOf (by omega) hI1 (by omega) (by omega) (by omega) (by omega) (by omega) (by omega)) ?_
          rintro _ _ ⟨z19, rfl, g15, rfl⟩
          refine k_run 0 (pc' := 72) (l' := [(0, .inr (.inr 372)), (1, .inl a), (2, .inl b), (3, .inl c), (4, .inr (.inr t)), (5, .inl x5), (6, .inl x6), (7, .inl x7), (8, .inl z9), (9, .inl 1)]) (st' := [.inl z19, .inl z14]) rfl ?_
          refine k_run 1 (pc' := 73) (l' := [(0, .inr (.inr 372)), (1, .inl a), (2, .inl b), (3, .inl c), (4, .inr (.inr t)), (5, .inl x5), (6, .inl x6), (7, .inl x7), (8, .inl z9), (9, .inl 1)]) (st' := [.inl (z14 * z19)]) rfl ?_
          refine k_nrm (fun y20 hy20 => ?_)
          refine k_run 0 (pc' := 73) (l' := [(0, .inr (.inr 372)), (1, .inl a), (2, .inl b), (3, .inl c), (4, .inr (.inr t)), (5, .inl x5), (6, .inl x6), (7, .inl x7), (8, .inl z9), (9, .inl 1)]) (st' := [.inl y20]) rfl ?_
          refine k_run 1 (pc' := 75) (l' := [(0, .inr (.inr 372)), (1, .inl a), (2, .inl b), (3, .inl c), (4, .inr (.inr t)), (5, .inl x5), (6, .inl x6), (7, .inl x7), (8, .inl z9), (9, .inl 1), (10, .inl y20)]) (st' := []) rfl ?_
          exact ih.2 H1 hI1 hf1 x5 x6 x7 z9 (1 : Int) y20 (by omega) (by omega) (by omega) (by omega) (by decide) (by omega) (by omega) (by omega) (by omega) (by omega) (by omega)
    · intro H1 hI1 hf1 x5 x6 x7 x8 x9 x10 hx5 hx6 hx7 hx8 hx9 hx10 hi0 hi1 hi2 hi3 hw
      have htb := ht.2.2.2.2
      refine k_run 2 (pc' := 79) (l' := [(0, .inr (.inr 372)), (1, .inl a), (2, .inl b), (3, .inl c), (4, .inr (.inr t)), (5, .inl x5), (6, .inl x6), (7, .inl x7), (8, .inl x8), (9, .inl x9), (10, .inl x10)]) (st' := [.inl x6, .inl x9]) rfl ?_
      refine h_ige (off := 48) (t := 127) rfl rfl (by omega) (by omega) (fun c21 => ?_) (fun c21 => ?_)
      · refine k_run 0 (pc' := 127) (l' := [(0, .inr (.inr 372)), (1, .inl a), (2, .inl b), (3, .inl c), (4, .inr (.inr t)), (5, .inl x5), (6, .inl x6), (7, .inl x7), (8, .inl x8), (9, .inl x9), (10, .inl x10)]) (st' := []) rfl ?_
        refine k_run 8 (pc' := 138) (l' := [(0, .inr (.inr 372)), (1, .inl a), (2, .inl b), (3, .inl c), (4, .inr (.inr t)), (5, .inl x5), (6, .inl x6), (7, .inl x7), (8, .inl x8), (9, .inl x9), (10, .inl x10)]) (st' := [.inl (x6 - x9), .inl (x7 + 1), .inl a, .inr (.inr 372)]) rfl ?_
        refine h_cv (i := 156) (j := 109) (b := 372) (M' := mt_109) (xs := [.inl (x6 - x9), .inl (x7 + 1), .inl a]) (rest := []) rfl rfl rfl rfl (zs_K (x := kx_372) rfl (by decide)) rfl (Nat.le_of_ble_eq_true rfl) (Nat.le_of_ble_eq_true rfl) (by omega) (k_Trial_tuplesOf (by omega) hI1 (by omega) (by omega) (by omega) (by omega) (by omega) (by omega)) ?_
        rintro _ _ ⟨z26, rfl, g22, rfl⟩
        refine k_run 0 (pc' := 141) (l' := [(0, .inr (.inr 372)), (1, .inl a), (2, .inl b), (3, .inl c), (4, .inr (.inr t)), (5, .inl x5), (6, .inl x6), (7, .inl x7), (8, .inl x8), (9, .inl x9), (10, .inl x10)]) (st' := [.inl z26]) rfl ?_
        refine k_run 1 (pc' := 142) (l' := [(0, .inr (.inr 372)), (1, .inl a), (2, .inl b), (3, .inl c), (4, .inr (.inr t)), (5, .inl x5), (6, .inl x6), (7, .inl x7), (8, .inl x8), (9, .inl x9), (10, .inl x10)]) (st' := [.inl 1, .inl z26]) rfl ?_
        refine k_max (i := 70) (x := z26) (y := 1) rfl rfl (Nat.le_of_ble_eq_true rfl) (by omega) (by omega) (by decide) (fun z27 hz27 => ?_)
        refine k_run 0 (pc' := 145) (l' := [(0, .inr (.inr 372)), (1, .inl a), (2, .inl b), (3, .inl c), (4, .inr (.inr t)), (5, .inl x5), (6, .inl x6), (7, .inl x7), (8, .inl x8), (9, .inl x9), (10, .inl x10)]) (st' := [.inl z27]) rfl ?_
        refine k_run 6 (pc' := 156) (l' := [(0, .inr (.inr 372)), (1, .inl a), (2, .inl b), (3, .inl c), (4, .inr (.inr t)), (5, .inl x5), (6, .inl x6), (7, .inl x7), (8, .inl x8), (9, .inl x9), (10, .inl x10), (11, .inl z27)]) (st' := [.inl z27, .inl x5, .inl x9, .inl x8, .inr (.inr 372)]) rfl ?_
        refine h_idiv (x := x5) (y := z27) rfl (by omega) (by omega) (by omega : z27 ≠ 0) ?_
        refine k_nrm (fun y28 hy28 => ?_)
        refine k_run 0 (pc' := 157) (l' := [(0, .inr (.inr 372)), (1, .inl a), (2, .inl b), (3, .inl c), (4, .inr (.inr t)), (5, .inl x5), (6, .inl x6), (7, .inl x7), (8, .inl x8), (9, .inl x9), (10, .inl x10), (11, .inl z27)]) (st' := [.inl y28, .inl x9, .inl x8, .inr (.inr 372)]) rfl ?_
        refine k_run 1 (pc' := 159) (l' := [(0, .inr (.inr 372)), (1, .inl a), (2, .inl b), (3, .inl c), (4, .inr (.inr t)), (5, .inl x5), (6, .inl x6), (7, .inl x7), (8, .inl x8), (9, .inl x9), (10, .inl x10), (11, .inl z27)]) (st' := [.inr (.inr t), .inl y28, .inl x9, .inl x8, .inr (.inr 372)]) rfl ?_
        refine h_cv (i := 161) (j := 112) (b := 372) (M' := mt_112) (xs := [.inr (.inr t), .inl y28, .inl x9, .inl x8]) (rest := []) rfl rfl rfl rfl (zs_K (x := kx_372) rfl (by decide)) rfl (Nat.le_of_ble_eq_true rfl) (Nat.le_of_ble_eq_true rfl) (by omega) (hR (by omega) hI1 (by omega) (by omega) (by omega) ht (by omega) (by omega)) ?_
        rintro _ H30 ⟨rfl, hI31, hq32⟩
        have hf33 : fq [] [] false H H30 := fq_t hf1 hq32 rfl rfl rfl
        refine k_run 0 (pc' := 162) (l' := [(0, .inr (.inr 372)), (1, .inl a), (2, .inl b), (3, .inl c), (4, .inr (.inr t)), (5, .inl x5), (6, .inl x6), (7, .inl x7), (8, .inl x8), (9, .inl x9), (10, .inl x10), (11, .inl z27)]) (st' := []) rfl ?_
        refine k_run 2 (pc' := 166) (l' := [(0, .inr (.inr 372)), (1, .inl a), (2, .inl b), (3, .inl c), (4, .inr (.inr t)), (5, .inl x5), (6, .inl x6), (7, .inl x7), (8, .inl x8), (9, .inl x9), (10, .inl x10), (11, .inl z27)]) (st' := [.inl z27, .inl x5]) rfl ?_
        refine h_irem (x := x5) (y := z27) rfl (by omega) (by omega) (by omega : z27 ≠ 0) ?_
        refine k_nrm (fun y34 hy34 => ?_)
        refine k_run 0 (pc' := 167) (l' := [(0, .inr (.inr 372)), (1, .inl a), (2, .inl b), (3, .inl c), (4, .inr (.inr t)), (5, .inl x5), (6, .inl x6), (7, .inl x7), (8, .inl x8), (9, .inl x9), (10, .inl x10), (11, .inl z27)]) (st' := [.inl y34]) rfl ?_
        refine k_run 7 (pc' := 9) (l' := [(0, .inr (.inr 372)), (1, .inl a), (2, .inl b), (3, .inl c), (4, .inr (.inr t)), (5, .inl y34), (6, .inl (x6 - x9)), (7, .inl (x7 + 1)), (8, .inl x8), (9, .inl x9), (10, .inl x10), (11, .inl z27)]) (st' := []) rfl ?_
        refine h_loc [0, 1, 2, 3, 4, 5, 6, 7] rfl ?_
        exact ih.1 H30 hI31 hf33 y34 (x6 - x9) (x7 + 1) (by omega) (by omega) (by omega) (by omega) (by omega) (by omega)
      · refine k_run 0 (pc' := 82) (l' := [(0, .inr (.inr 372)), (1, .inl a), (2, .inl b), (3, .inl c), (4, .inr (.inr t)), (5, .inl x5), (6, .inl x6), (7, .inl x7), (8, .inl x8), (9, .inl x9), (10, .inl x10)]) (st' := []) rfl ?_
        refine k_run 2 (pc' := 86) (l' := [(0, .inr (.inr 372)), (1, .inl a), (2, .inl b), (3, .inl c), (4, .inr (.inr t)), (5, .inl x5), (6, .inl x6), (7, .inl x7), (8, .inl x8), (9, .inl x9), (10, .inl x10)]) (st' := [.inl x10, .inl x5]) rfl ?_
        refine h_ilt (off := 41) (t := 127) rfl rfl (by omega) (by omega) (fun c35 => ?_) (fun c35 => ?_)
        · refine k_run 0 (pc' := 127) (l' := [(0, .inr (.inr 372)), (1, .inl a), (2, .inl b), (3, .inl c), (4, .inr (.inr t)), (5, .inl x5), (6, .inl x6), (7, .inl x7), (8, .inl x8), (9, .inl x9), (10, .inl x10)]) (st' := []) rfl ?_
          refine k_run 8 (pc' := 138) (l' := [(0, .inr (.inr 372)), (1, .inl a), (2, .inl b), (3, .inl c), (4, .inr (.inr t)), (5, .inl x5), (6, .inl x6), (7, .inl x7), (8, .inl x8), (9, .inl x9), (10, .inl x10)]) (st' := [.inl (x6 - x9), .inl (x7 + 1), .inl a, .inr (.inr 372)]) rfl ?_
          refine h_cv (i := 156) (j := 109) (b := 372) (M' := mt_109) (xs := [.inl (x6 - x9), .inl (x7 + 1), .inl a]) (rest := []) rfl rfl rfl rfl (zs_K (x := kx_372) rfl (by decide)) rfl (Nat.le_of_ble_eq_true rfl) (Nat.le_of_ble_eq_true rfl) (by omega) (k_Trial_tuplesOf (by omega) hI1 (by omega) (by omega) (by omega) (by omega) (by omega) (by omega)) ?_
          rintro _ _ ⟨z40, rfl, g36, rfl⟩
          refine k_run 0 (pc' := 141) (l' := [(0, .inr (.inr 372)), (1, .inl a), (2, .inl b), (3, .inl c), (4, .inr (.inr t)), (5, .inl x5), (6, .inl x6), (7, .inl x7), (8, .inl x8), (9, .inl x9), (10, .inl x10)]) (st' := [.inl z40]) rfl ?_
          refine k_run 1 (pc' := 142) (l' := [(0, .inr (.inr 372)), (1, .inl a), (2, .inl b), (3, .inl c), (4, .inr (.inr t)), (5, .inl x5), (6, .inl x6), (7, .inl x7), (8, .inl x8), (9, .inl x9), (10, .inl x10)]) (st' := [.inl 1, .inl z40]) rfl ?_
          refine k_max (i := 70) (x := z40) (y := 1) rfl rfl (Nat.le_of_ble_eq_true rfl) (by omega) (by omega) (by decide) (fun z41 hz41 => ?_)
          refine k_run 0 (pc' := 145) (l' := [(0, .inr (.inr 372)), (1, .inl a), (2, .inl b), (3, .inl c), (4, .inr (.inr t)), (5, .inl x5), (6, .inl x6), (7, .inl x7), (8, .inl x8), (9, .inl x9), (10, .inl x10)]) (st' := [.inl z41]) rfl ?_
          refine k_run 6 (pc' := 156) (l' := [(0, .inr (.inr 372)), (1, .inl a), (2, .inl b), (3, .inl c), (4, .inr (.inr t)), (5, .inl x5), (6, .inl x6), (7, .inl x7), (8, .inl x8), (9, .inl x9), (10, .inl x10), (11, .inl z41)]) (st' := [.inl z41, .inl x5, .inl x9, .inl x8, .inr (.inr 372)]) rfl ?_
          refine h_idiv (x := x5) (y := z41) rfl (by omega) (by omega) (by omega : z41 ≠ 0) ?_
          refine k_nrm (fun y42 hy42 => ?_)
          refine k_run 0 (pc' := 157) (l' := [(0, .inr (.inr 372)), (1, .inl a), (2, .inl b), (3, .inl c), (4, .inr (.inr t)), (5, .inl x5), (6, .inl x6), (7, .inl x7), (8, .inl x8), (9, .inl x9), (10, .inl x10), (11, .inl z41)]) (st' := [.inl y42, .inl x9, .inl x8, .inr (.inr 372)]) rfl ?_
          refine k_run 1 (pc' := 159) (l' := [(0, .inr (.inr 372)), (1, .inl a), (2, .inl b), (3, .inl c), (4, .inr (.inr t)), (5, .inl x5), (6, .inl x6), (7, .inl x7), (8, .inl x8), (9, .inl x9), (10, .inl x10), (11, .inl z41)]) (st' := [.inr (.inr t), .inl y42, .inl x9, .inl x8, .inr (.inr 372)]) rfl ?_
          refine h_cv (i := 161) (j := 112) (b := 372) (M' := mt_112) (xs := [.inr (.inr t), .inl y42, .inl x9, .inl x8]) (rest := []) rfl rfl rfl rfl (zs_K (x := kx_372) rfl (by decide)) rfl (Nat.le_of_ble_eq_true rfl) (Nat.le_of_ble_eq_true rfl) (by omega) (hR (by omega) hI1 (by omega) (by omega) (by omega) ht (by omega) (by omega)) ?_
          rintro _ H44 ⟨rfl, hI45, hq46⟩
          have hf47 : fq [] [] false H H44 := fq_t hf1 hq46 rfl rfl rfl
          refine k_run 0 (pc' := 162) (l' := [(0, .inr (.inr 372)), (1, .inl a), (2, .inl b), (3, .inl c), (4, .inr (.inr t)), (5, .inl x5), (6, .inl x6), (7, .inl x7), (8, .inl x8), (9, .inl x9), (10, .inl x10), (11, .inl z41)]) (st' := []) rfl ?_
          refine k_run 2 (pc' := 166) (l' := [(0, .inr (.inr 372)), (1, .inl a), (2, .inl b), (3, .inl c), (4, .inr (.inr t)), (5, .inl x5), (6, .inl x6), (7, .inl x7), (8, .inl x8), (9, .inl x9), (10, .inl x10), (11, .inl z41)]) (st' := [.inl z41, .inl x5]) rfl ?_
          refine h_irem (x := x5) (y := z41) rfl (by omega) (by omega) (by omega : z41 ≠ 0) ?_
          refine k_nrm (fun y48 hy48 => ?_)
          refine k_run 0 (pc' := 167) (l' := [(0, .inr (.inr 372)), (1, .inl a), (2, .inl b), (3, .inl c), (4, .inr (.inr t)), (5, .inl x5), (6, .inl x6), (7, .inl x7), (8, .inl x8), (9, .inl x9), (10, .inl x10), (11, .inl z41)]) (st' := [.inl y48]) rfl ?_
          refine k_run 7 (pc' := 9) (l' := [(0, .inr (.inr 372)), (1, .inl a), (2, .inl b), (3, .inl c), (4, .inr (.inr t)), (5, .inl y48), (6, .inl (x6 - x9)), (7, .inl (x7 + 1)), (8, .inl x8), (9, .inl x9), (10, .inl x10), (11, .inl z41)]) (st' := []) rfl ?_
          refine h_loc [0, 1, 2, 3, 4, 5, 6, 7] rfl ?_
          exact ih.1 H44 hI45 hf47 y48 (x6 - x9) (x7 + 1) (by omega) (by omega) (by omega) (by omega) (by omega) (by omega)
        · refine k_run 0 (pc' := 89) (l' := [(0, .inr (.inr 372)), (1, .inl a), (2, .inl b), (3, .inl c), (4, .inr (.inr t)), (5, .inl x5), (6, .inl x6), (7, .inl x7), (8, .inl x8), (9, .inl x9), (10, .inl x10)]) (st' := []) rfl ?_
          refine k_run 3 (pc' := 94) (l' := [(0, .inr (.inr 372)), (1, .inl a), (2, .inl b), (3, .inl c), (4, .inr (.inr t)), (5, .inl x5), (6, .inl x6), (7, .inl x7), (8, .inl x8), (9, .inl x9), (10, .inl x10)]) (st' := [.inl (x5 - x10)]) rfl ?_
          refine k_nrm (fun y49 hy49 => ?_)
          refine k_run 0 (pc' := 94) (l' := [(0, .inr (.inr 372)), (1, .inl a), (2, .inl b), (3, .inl c), (4, .inr (.inr t)), (5, .inl x5), (6, .inl x6), (7, .inl x7), (8, .inl x8), (9, .inl x9), (10, .inl x10)]) (st' := [.inl y49]) rfl ?_
          refine k_run 5 (pc' := 104) (l' := [(0, .inr (.inr 372)), (1, .inl a), (2, .inl b), (3, .inl c), (4, .inr (.inr t)), (5, .inl y49), (6, .inl x6), (7, .inl x7), (8, .inl x8), (9, .inl (x9 + 1)), (10, .inl x10)]) (st' := [.inl (x9 + 1), .inl x8, .inr (.inr 372)]) rfl ?_
          refine h_cv (i := 153) (j := 108) (b := 372) (M' := mt_108) (xs := [.inl (x9 + 1), .inl x8]) (rest := []) rfl rfl rfl rfl (zs_K (x := kx_372) rfl (by decide)) rfl (Nat.le_of_ble_eq_true rfl) (Nat.le_of_ble_eq_true rfl) (by omega) (k_Trial_valuesOf (by omega) hI1 (by omega) (by omega) (by omega) (by omega)) ?_
          rintro _ _ ⟨z54, rfl, g50, rfl⟩
          refine k_run 0 (pc' := 107) (l' := [(0, .inr (.inr 372)), (1, .inl a), (2, .inl b), (3, .inl c), (4, .inr (.inr t)), (5, .inl y49), (6, .inl x6), (7, .inl x7), (8, .inl x8), (9, .inl (x9 + 1)), (10, .inl x10)]) (st' := [.inl z54]) rfl ?_
          refine k_run 8 (pc' := 118) (l' := [(0, .inr (.inr 372)), (1, .inl a), (2, .inl b), (3, .inl c), (4, .inr (.inr t)), (5, .inl y49), (6, .inl x6), (7, .inl x7), (8, .inl x8), (9, .inl (x9 + 1)), (10, .inl x10)]) (st' := [.inl (x6 - (x9 + 1)), .inl (x7 + 1), .inl a, .inr (.inr 372), .inl z54]) rfl ?_
          refine h_cv (i := 156) (j := 109) (b := 372) (M' := mt_109) (xs := [.inl (x6 - (x9 + 1)), .inl (x7 + 1), .inl a]) (rest := [.inl z54]) rfl rfl rfl rfl (zs_K (x := kx_372) rfl (by decide)) rfl (Nat.le_of_ble_eq_true rfl) (Nat.le_of_ble_eq_true rfl) (by omega) (k_Trial_tuplesOf (by omega) hI1 (by omega) (by omega) (by omega) (by omega) (by omega) (by omega)) ?_
          rintro _ _ ⟨z59, rfl, g55, rfl⟩
          refine k_run 0 (pc' := 121) (l' := [(0, .inr (.inr 372)), (1, .inl a), (2, .inl b), (3, .inl c), (4, .inr (.inr t)), (5, .inl y49), (6, .inl x6), (7, .inl x7), (8, .inl x8), (9, .inl (x9 + 1)), (10, .inl x10)]) (st' := [.inl z59, .inl z54]) rfl ?_
          refine k_run 1 (pc' := 122) (l' := [(0, .inr (.inr 372)), (1, .inl a), (2, .inl b), (3, .inl c), (4, .inr (.inr t)), (5, .inl y49), (6, .inl x6), (7, .inl x7), (8, .inl x8), (9, .inl (x9 + 1)), (10, .inl x10)]) (st' := [.inl (z54 * z59)]) rfl ?_
          refine k_nrm (fun y60 hy60 => ?_)
          refine k_run 0 (pc' := 122) (l' := [(0, .inr (.inr 372)), (1, .inl a), (2, .inl b), (3, .inl c), (4, .inr (.inr t)), (5, .inl y49), (6, .inl x6), (7, .inl x7), (8, .inl x8), (9, .inl (x9 + 1)), (10, .inl x10)]) (st' := [.inl y60]) rfl ?_
          refine k_run 2 (pc' := 75) (l' := [(0, .inr (.inr 372)), (1, .inl a), (2, .inl b), (3, .inl c), (4, .inr (.inr t)), (5, .inl y49), (6, .inl x6), (7, .inl x7), (8, .inl x8), (9, .inl (x9 + 1)), (10, .inl y60)]) (st' := []) rfl ?_
          exact ih.2 H1 hI1 hf1 y49 x6 x7 x8 (x9 + 1) y60 (by omega) (by omega) (by omega) (by omega) (by omega) (by omega) (by omega) (by omega) (by omega) (by omega) (by omega)
set_option maxRecDepth 100000 in
theorem k_putArguments {m : Nat} {d : Nat} (hd : 2 * m + 7 ≤ d) {H : hp} (hI : Inv H) {a : Int} {b : Int} {c : Int} {t n : Nat} (ha : -2147483648 ≤ a ∧ a ≤ 2147483647) (hb : -2147483648 ≤ b ∧ b ≤ 2147483647) (hc : -2147483648 ≤ c ∧ c ≤ 2147483647) (ht : isT t n) (hp0 : 0 ≤ a ∧ a < 16) (hp1 : b ≤ (m : Int) ∧ 0 ≤ b ∧ b ≤ 6) (hR : PVc m) : hG (zs zK) d mt_113 0 (zargs 0 [.inr (.inr 372), .inl a, .inl b, .inl c, .inr (.inr t)]) [] H (fun r9 H9 => r9 = none ∧ Inv H9 ∧ fq [] [] false H H9) := by
  have htb := ht.2.2.2.2
  refine k_run 0 (pc' := 0) (l' := [(0, .inr (.inr 372)), (1, .inl a), (2, .inl b), (3, .inl c), (4, .inr (.inr t))]) (st' := []) rfl ?_
  refine k_run 6 (pc' := 9) (l' := [(0, .inr (.inr 372)), (1, .inl a), (2, .inl b), (3, .inl c), (4, .inr (.inr t)), (5, .inl c), (6, .inl b), (7, .inl 0)]) (st' := []) rfl ?_
  exact (k_putArguments_cut hd hI ha hb hc ht hp0 hp1 hR _).1 H hI (fq_rf _ _ _ _) c b (0 : Int) (by omega) (by omega) (by decide) (by omega) (by omega) (Nat.lt_succ_self _)

/-! Trial.putValue -/
set_option maxRecDepth 100000 in
theorem k_putValue_cut {m : Nat} {d : Nat} (hd : 2 * m + 6 ≤ d) {H : hp} (hI : Inv H) {a : Int} {b : Int} {c : Int} {t n : Nat} (ha : -2147483648 ≤ a ∧ a ≤ 2147483647) (hb : -2147483648 ≤ b ∧ b ≤ 2147483647) (hc : -2147483648 ≤ c ∧ c ≤ 2147483647) (ht : isT t n) (hp0 : -2 ≤ a ∧ a ≤ 100) (hp1 : b ≤ (m : Int) ∧ 0 ≤ b ∧ b ≤ 6) (hR : ∀ m1, m1 < m → PVc m1) : ∀ w : Nat, (∀ (H1 : hp), Inv H1 → fq [] [] false H H1 → ∀ (x5 : Int) (x6 : Int) , (-2147483648 ≤ x5 ∧ x5 ≤ 2147483647) → (-2147483648 ≤ x6 ∧ x6 ≤ 2147483647) → (0 ≤ x6 ∧ x6 ≤ 100) → (((1000 - x6).toNat) < w) → hG (zs zK) d mt_112 33 [(0, .inr (.inr 372)), (1, .inl a), (2, .inl b), (3, .inl c), (4, .inr (.inr t)), (5, .inl x5), (6, .inl x6)] [] H1 (fun r9 H9 => r9 = none ∧ Inv H9 ∧ fq [] [] false H H9)) := by
  intro w
  induction w with
  | zero => exact fun _ _ _ _ _ _ _ _ h => absurd h (Nat.not_lt_zero _)
  | succ w ih =>
    intro H1 hI1 hf1 x5 x6 hx5 hx6 hi0 hw
    have htb := ht.2.2.2.2
    refine k_run 5 (pc' := 45) (l' := [(0, .inr (.inr 372)), (1, .inl a), (2, .inl b), (3, .inl c), (4, .inr (.inr t)), (5, .inl x5), (6, .inl x6)]) (st' := [.inl (H1.1 13 4), .inl x6]) rfl ?_
    have g11 : 0 ≤ (H1.1 13 4) ∧ (H1.1 13 4) ≤ 16 := kn (x := kx_13) hI1 rfl 4
    have e12 : (H1.1 13 4) = (H.1 13 4) := (hf1.1 13 4 rfl (by decide) (by decide)).1
    refine h_ige (off := 89) (t := 134) rfl rfl (by omega) (by omega) (fun c13 => ?_) (fun c13 => ?_)
    · refine k_run 0 (pc' := 134) (l' := [(0, .inr (.inr 372)), (1, .inl a), (2, .inl b), (3, .inl c), (4, .inr (.inr t)), (5, .inl x5), (6, .inl x6)]) (st' := []) rfl ?_
      refine h_ret rfl rfl ?_
      exact ⟨rfl, hI1, hf1⟩
    · refine k_run 0 (pc' := 48) (l' := [(0, .inr (.inr 372)), (1, .inl a), (2, .inl b), (3, .inl c), (4, .inr (.inr t)), (5, .inl x5), (6, .inl x6)]) (st' := []) rfl ?_
      refine k_run 2 (pc' := 50) (l' := [(0, .inr (.inr 372)), (1, .inl a), (2, .inl b), (3, .inl c), (4, .inr (.inr t)), (5, .inl x5), (6, .inl x6)]) (st' := [.inl 1, .inl b]) rfl ?_
      refine h_ilt (off := 84) (t := 134) rfl rfl (by omega) (by decide) (fun c14 => ?_) (fun c14 => ?_)
      · refine k_run 0 (pc' := 134) (l' := [(0, .inr (.inr 372)), (1, .inl a), (2, .inl b), (3, .inl c), (4, .inr (.inr t)), (5, .inl x5), (6, .inl x6)]) (st' := []) rfl ?_
        refine h_ret rfl rfl ?_
        exact ⟨rfl, hI1, hf1⟩
      · refine k_run 0 (pc' := 53) (l' := [(0, .inr (.inr 372)), (1, .inl a), (2, .inl b), (3, .inl c), (4, .inr (.inr t)), (5, .inl x5), (6, .inl x6)]) (st' := []) rfl ?_
        refine k_run 5 (pc' := 65) (l' := [(0, .inr (.inr 372)), (1, .inl a), (2, .inl b), (3, .inl c), (4, .inr (.inr t)), (5, .inl x5), (6, .inl x6)]) (st' := [.inl x6, .inr (.inr 15)]) rfl ?_
        refine k_ild (c := 15) (j := (x6).toNat) (i := x6) (x := kx_15) rfl rfl (by decide) rfl (by decide) (by omega) (by omega) ?_
        have g15 : -2 ≤ (H1.1 15 (x6).toNat) ∧ (H1.1 15 (x6).toNat) ≤ 100 := kn (x := kx_15) hI1 rfl (x6).toNat
        have e16 : (H1.1 15 (x6).toNat) = (H.1 15 (x6).toNat) := (hf1.1 15 (x6).toNat rfl (by decide) (fun q => by simp at q)).1
        refine k_run 0 (pc' := 66) (l' := [(0, .inr (.inr 372)), (1, .inl a), (2, .inl b), (3, .inl c), (4, .inr (.inr t)), (5, .inl x5), (6, .inl x6)]) (st' := [.inl (H1.1 15 (x6).toNat)]) rfl ?_
        refine k_run 1 (pc' := 67) (l' := [(0, .inr (.inr 372)), (1, .inl a), (2, .inl b), (3, .inl c), (4, .inr (.inr t)), (5, .inl x5), (6, .inl x6)]) (st' := [.inl a, .inl (H1.1 15 (x6).toNat)]) rfl ?_
        refine h_ine (off := 16) (t := 83) rfl rfl (by omega) (by omega) (fun c17 => ?_) (fun c17 => ?_)
        · refine k_run 0 (pc' := 83) (l' := [(0, .inr (.inr 372)), (1, .inl a), (2, .inl b), (3, .inl c), (4, .inr (.inr t)), (5, .inl x5), (6, .inl x6)]) (st' := []) rfl ?_
          refine k_run 4 (pc' := 90) (l' := [(0, .inr (.inr 372)), (1, .inl a), (2, .inl b), (3, .inl c), (4, .inr (.inr t)), (5, .inl x5), (6, .inl x6), (7, .inl 0)]) (st' := [.inl 0, .inl x5]) rfl ?_
          refine h_ige (off := 31) (t := 121) rfl rfl (by omega) (by decide) (fun c18 => ?_) (fun c18 => ?_)
          · refine k_run 0 (pc' := 121) (l' := [(0, .inr (.inr 372)), (1, .inl a), (2, .inl b), (3, .inl c), (4, .inr (.inr t)), (5, .inl x5), (6, .inl x6), (7, .inl 0)]) (st' := []) rfl ?_
            refine k_run 3 (pc' := 126) (l' := [(0, .inr (.inr 372)), (1, .inl a), (2, .inl b), (3, .inl c), (4, .inr (.inr t)), (5, .inl x5), (6, .inl x6), (7, .inl 0)]) (st' := [.inl (x5 - 0)]) rfl ?_
            refine k_nrm (fun y19 hy19 => ?_)
            refine k_run 0 (pc' := 126) (l' := [(0, .inr (.inr 372)), (1, .inl a), (2, .inl b), (3, .inl c), (4, .inr (.inr t)), (5, .inl x5), (6, .inl x6), (7, .inl 0)]) (st' := [.inl y19]) rfl ?_
            refine k_run 3 (pc' := 33) (l' := [(0, .inr (.inr 372)), (1, .inl a), (2, .inl b), (3, .inl c), (4, .inr (.inr t)), (5, .inl y19), (6, .inl (x6 + 1)), (7, .inl 0)]) (st' := []) rfl ?_
            refine h_loc [0, 1, 2, 3, 4, 5, 6] rfl ?_
            exact ih H1 hI1 hf1 y19 (x6 + 1) (by omega) (by omega) (by omega) (by omega)
          · refine k_run 0 (pc' := 93) (l' := [(0, .inr (.inr 372)), (1, .inl a), (2, .inl b), (3, .inl c), (4, .inr (.inr t)), (5, .inl x5), (6, .inl x6), (7, .inl 0)]) (st' := []) rfl ?_
            refine k_run 4 (pc' := 101) (l' := [(0, .inr (.inr 372)), (1, .inl a), (2, .inl b), (3, .inl c), (4, .inr (.inr t)), (5, .inl x5), (6, .inl x6), (7, .inl 0)]) (st' := [.inl x6, .inr (.inr 7), .inr (.inr t)]) rfl ?_
            refine h_cv (i := 165) (j := 38) (b := 7) (M' := mt_38) (xs := [.inl x6]) (rest := [.inr (.inr t)]) rfl rfl rfl rfl (zs_K (x := kx_7) rfl (by decide)) rfl (Nat.le_of_ble_eq_true rfl) (Nat.le_of_ble_eq_true rfl) (by omega) (k_Program_codeOfConstructor (by omega) hI1 (by omega)) ?_
            rintro _ _ ⟨z24, rfl, g20, rfl⟩
            refine k_run 0 (pc' := 104) (l' := [(0, .inr (.inr 372)), (1, .inl a), (2, .inl b), (3, .inl c), (4, .inr (.inr t)), (5, .inl x5), (6, .inl x6), (7, .inl 0)]) (st' := [.inl z24, .inr (.inr t)]) rfl ?_
            refine h_cv (i := 125) (j := 52) (b := t) (M' := mt_52) (xs := [.inl z24]) (rest := []) rfl rfl rfl rfl (by rw [zs_K ht.1 (iT0 ht)]; rfl) rfl (Nat.le_of_ble_eq_true rfl) (Nat.le_of_ble_eq_true rfl) (by omega) (k_Term_put (by omega) hI1 ht (by omega)) ?_
            rintro _ H26 ⟨rfl, hI27, hq28⟩
            have hf29 : fq [] [] false H H26 := fq_t hf1 hq28 rfl rfl rfl
            refine k_run 0 (pc' := 107) (l' := [(0, .inr (.inr 372)), (1, .inl a), (2, .inl b), (3, .inl c), (4, .inr (.inr t)), (5, .inl x5), (6, .inl x6), (7, .inl 0)]) (st' := []) rfl ?_
            refine k_run 7 (pc' := 117) (l' := [(0, .inr (.inr 372)), (1, .inl a), (2, .inl b), (3, .inl c), (4, .inr (.inr t)), (5, .inl x5), (6, .inl x6), (7, .inl 0)]) (st' := [.inr (.inr t), .inl x5, .inl (b - 1), .inl x6, .inr (.inr 372)]) rfl ?_
            refine h_cv (i := 168) (j := 113) (b := 372) (M' := mt_113) (xs := [.inr (.inr t), .inl x5, .inl (b - 1), .inl x6]) (rest := []) rfl rfl rfl rfl (zs_K (x := kx_372) rfl (by decide)) rfl (Nat.le_of_ble_eq_true rfl) (Nat.le_of_ble_eq_true rfl) (by omega) (k_putArguments (by omega) hI27 (by omega) (by omega) (by omega) ht (by omega) (by omega) (m := m - 1) (hR (m - 1) (by omega))) ?_
            rintro _ H31 ⟨rfl, hI32, hq33⟩
            have hf34 : fq [] [] false H H31 := fq_t hf29 hq33 rfl rfl rfl
            refine k_run 0 (pc' := 120) (l' := [(0, .inr (.inr 372)), (1, .inl a), (2, .inl b), (3, .inl c), (4, .inr (.inr t)), (5, .inl x5), (6, .inl x6), (7, .inl 0)]) (st' := []) rfl ?_
            refine h_ret rfl rfl ?_
            exact ⟨rfl, hI32, hf34⟩
        · refine k_run 0 (pc' := 70) (l' := [(0, .inr (.inr 372)), (1, .inl a), (2, .inl b), (3, .inl c), (4, .inr (.inr t)), (5, .inl x5), (6, .inl x6)]) (st' := []) rfl ?_
          refine k_run 6 (pc' := 77) (l' := [(0, .inr (.inr 372)), (1, .inl a), (2, .inl b), (3, .inl c), (4, .inr (.inr t)), (5, .inl x5), (6, .inl x6)]) (st' := [.inl (b - 1), .inl 0, .inl x6, .inr (.inr 372)]) rfl ?_
          refine h_cv (i := 156) (j := 109) (b := 372) (M' := mt_109) (xs := [.inl (b - 1), .inl 0, .inl x6]) (rest := []) rfl rfl rfl rfl (zs_K (x := kx_372) rfl (by decide)) rfl (Nat.le_of_ble_eq_true rfl) (Nat.le_of_ble_eq_true rfl) (by omega) (k_Trial_tuplesOf (by omega) hI1 (by omega) (by decide) (by omega) (by omega) (by omega) (by omega)) ?_
          rintro _ _ ⟨z39, rfl, g35, rfl⟩
          refine k_run 0 (pc' := 80) (l' := [(0, .inr (.inr 372)), (1, .inl a), (2, .inl b), (3, .inl c), (4, .inr (.inr t)), (5, .inl x5), (6, .inl x6)]) (st' := [.inl z39]) rfl ?_
          refine k_run 4 (pc' := 90) (l' := [(0, .inr (.inr 372)), (1, .inl a), (2, .inl b), (3, .inl c), (4, .inr (.inr t)), (5, .inl x5), (6, .inl x6), (7, .inl z39)]) (st' := [.inl z39, .inl x5]) rfl ?_
          refine h_ige (off := 31) (t := 121) rfl rfl (by omega) (by omega) (fun c40 => ?_) (fun c40 => ?_)
          · refine k_run 0 (pc' := 121) (l' := [(0, .inr (.inr 372)), (1, .inl a), (2, .inl b), (3, .inl c), (4, .inr (.inr t)), (5, .inl x5), (6, .inl x6), (7, .inl z39)]) (st' := []) rfl ?_
            refine k_run 3 (pc' := 126) (l' := [(0, .inr (.inr 372)), (1, .inl a), (2, .inl b), (3, .inl c), (4, .inr (.inr t)), (5, .inl x5), (6, .inl x6), (7, .inl z39)]) (st' := [.inl (x5 - z39)]) rfl ?_
            refine k_nrm (fun y41 hy41 => ?_)
            refine k_run 0 (pc' := 126) (l' := [(0, .inr (.inr 372)), (1, .inl a), (2, .inl b), (3, .inl c), (4, .inr (.inr t)), (5, .inl x5), (6, .inl x6), (7, .inl z39)]) (st' := [.inl y41]) rfl ?_
            refine k_run 3 (pc' := 33) (l' := [(0, .inr (.inr 372)), (1, .inl a), (2, .inl b), (3, .inl c), (4, .inr (.inr t)), (5, .inl y41), (6, .inl (x6 + 1)), (7, .inl z39)]) (st' := []) rfl ?_
            refine h_loc [0, 1, 2, 3, 4, 5, 6] rfl ?_
            exact ih H1 hI1 hf1 y41 (x6 + 1) (by omega) (by omega) (by omega) (by omega)
          · refine k_run 0 (pc' := 93) (l' := [(0, .inr (.inr 372)), (1, .inl a), (2, .inl b), (3, .inl c), (4, .inr (.inr t)), (5, .inl x5), (6, .inl x6), (7, .inl z39)]) (st' := []) rfl ?_
            refine k_run 4 (pc' := 101) (l' := [(0, .inr (.inr 372)), (1, .inl a), (2, .inl b), (3, .inl c), (4, .inr (.inr t)), (5, .inl x5), (6, .inl x6), (7, .inl z39)]) (st' := [.inl x6, .inr (.inr 7), .inr (.inr t)]) rfl ?_
            refine h_cv (i := 165) (j := 38) (b := 7) (M' := mt_38) (xs := [.inl x6]) (rest := [.inr (.inr t)]) rfl rfl rfl rfl (zs_K (x := kx_7) rfl (by decide)) rfl (Nat.le_of_ble_eq_true rfl) (Nat.le_of_ble_eq_true rfl) (by omega) (k_Program_codeOfConstructor (by omega) hI1 (by omega)) ?_
            rintro _ _ ⟨z46, rfl, g42, rfl⟩
            refine k_run 0 (pc' := 104) (l' := [(0, .inr (.inr 372)), (1, .inl a), (2, .inl b), (3, .inl c), (4, .inr (.inr t)), (5, .inl x5), (6, .inl x6), (7, .inl z39)]) (st' := [.inl z46, .inr (.inr t)]) rfl ?_
            refine h_cv (i := 125) (j := 52) (b := t) (M' := mt_52) (xs := [.inl z46]) (rest := []) rfl rfl rfl rfl (by rw [zs_K ht.1 (iT0 ht)]; rfl) rfl (Nat.le_of_ble_eq_true rfl) (Nat.le_of_ble_eq_true rfl) (by omega) (k_Term_put (by omega) hI1 ht (by omega)) ?_
            rintro _ H48 ⟨rfl, hI49, hq50⟩
            have hf51 : fq [] [] false H H48 := fq_t hf1 hq50 rfl rfl rfl
            refine k_run 0 (pc' := 107) (l' := [(0, .inr (.inr 372)), (1, .inl a), (2, .inl b), (3, .inl c), (4, .inr (.inr t)), (5, .inl x5), (6, .inl x6), (7, .inl z39)]) (st' := []) rfl ?_
            refine k_run 7 (pc' := 117) (l' := [(0, .inr (.inr 372)), (1, .inl a), (2, .inl b), (3, .inl c), (4, .inr (.inr t)), (5, .inl x5), (6, .inl x6), (7, .inl z39)]) (st' := [.inr (.inr t), .inl x5, .inl (b - 1), .inl x6, .inr (.inr 372)]) rfl ?_
            refine h_cv (i := 168) (j := 113) (b := 372) (M' := mt_113) (xs := [.inr (.inr t), .inl x5, .inl (b - 1), .inl x6]) (rest := []) rfl rfl rfl rfl (zs_K (x := kx_372) rfl (by decide)) rfl (Nat.le_of_ble_eq_true rfl) (Nat.le_of_ble_eq_true rfl) (by omega) (k_putArguments (by omega) hI49 (by omega) (by omega) (by omega) ht (by omega) (by omega) (m := m - 1) (hR (m - 1) (by omega))) ?_
            rintro _ H53 ⟨rfl, hI54, hq55⟩
            have hf56 : fq [] [] false H H53 := fq_t hf51 hq55 rfl rfl rfl
            refine k_run 0 (pc' := 120) (l' := [(0, .inr (.inr 372)), (1, .inl a), (2, .inl b), (3, .inl c), (4, .inr (.inr t)), (5, .inl x5), (6, .inl x6), (7, .inl z39)]) (st' := []) rfl ?_
            refine h_ret rfl rfl ?_
            exact ⟨rfl, hI54, hf56⟩
set_option maxRecDepth 100000 in
theorem k_putValue {m : Nat} {d : Nat} (hd : 2 * m + 6 ≤ d) {H : hp} (hI : Inv H) {a : Int} {b : Int} {c : Int} {t n : Nat} (ha : -2147483648 ≤ a ∧ a ≤ 2147483647) (hb : -2147483648 ≤ b ∧ b ≤ 2147483647) (hc : -2147483648 ≤ c ∧ c ≤ 2147483647) (ht : isT t n) (hp0 : -2 ≤ a ∧ a ≤ 100) (hp1 : b ≤ (m : Int) ∧ 0 ≤ b ∧ b ≤ 6) (hR : ∀ m1, m1 < m → PVc m1) : hG (zs zK) d mt_112 0 (zargs 0 [.inr (.inr 372), .inl a, .inl b, .inl c, .inr (.inr t)]) [] H (fun r9 H9 => r9 = none ∧ Inv H9 ∧ fq [] [] false H H9) := by
  have htb := ht.2.2.2.2
  refine k_run 0 (pc' := 0) (l' := [(0, .inr (.inr 372)), (1, .inl a), (2, .inl b), (3, .inl c), (4, .inr (.inr t))]) (st' := []) rfl ?_
  refine k_run 4 (pc' := 7) (l' := [(0, .inr (.inr 372)), (1, .inl a), (2, .inl b), (3, .inl c), (4, .inr (.inr t)), (5, .inl c)]) (st' := [.inl (H.1 372 9)]) rfl ?_
  have g1 : 0 ≤ (H.1 372 9) ∧ (H.1 372 9) ≤ 1 := kn (x := kx_372) hI rfl 9
  refine h_zeq (off := 23) (t := 30) rfl rfl (by omega) (fun c2 => ?_) (fun c2 => ?_)
  · refine k_run 0 (pc' := 30) (l' := [(0, .inr (.inr 372)), (1, .inl a), (2, .inl b), (3, .inl c), (4, .inr (.inr t)), (5, .inl c)]) (st' := []) rfl ?_
    refine k_run 2 (pc' := 33) (l' := [(0, .inr (.inr 372)), (1, .inl a), (2, .inl b), (3, .inl c), (4, .inr (.inr t)), (5, .inl c), (6, .inl 0)]) (st' := []) rfl ?_
    exact (k_putValue_cut hd hI ha hb hc ht hp0 hp1 hR _) H hI (fq_rf _ _ _ _) c (0 : Int) (by omega) (by decide) (by omega) (Nat.lt_succ_self _)
  · refine k_run 0 (pc' := 10) (l' := [(0, .inr (.inr 372)), (1, .inl a), (2, .inl b), (3, .inl c), (4, .inr (.inr t)), (5, .inl c)]) (st' := []) rfl ?_
    refine k_run 2 (pc' := 12) (l' := [(0, .inr (.inr 372)), (1, .inl a), (2, .inl b), (3, .inl c), (4, .inr (.inr t)), (5, .inl c)]) (st' := [.inl 1, .inl b]) rfl ?_
    refine h_ine (off := 18) (t := 30) rfl rfl (by omega) (by decide) (fun c3 => ?_) (fun c3 => ?_)
    · refine k_run 0 (pc' := 30) (l' := [(0, .inr (.inr 372)), (1, .inl a), (2, .inl b), (3, .inl c), (4, .inr (.inr t)), (5, .inl c)]) (st' := []) rfl ?_
      refine k_run 2 (pc' := 33) (l' := [(0, .inr (.inr 372)), (1, .inl a), (2, .inl b), (3, .inl c), (4, .inr (.inr t)), (5, .inl c), (6, .inl 0)]) (st' := []) rfl ?_
      exact (k_putValue_cut hd hI ha hb hc ht hp0 hp1 hR _) H hI (fq_rf _ _ _ _) c (0 : Int) (by omega) (by decide) (by omega) (Nat.lt_succ_self _)
    · refine k_run 0 (pc' := 15) (l' := [(0, .inr (.inr 372)), (1, .inl a), (2, .inl b), (3, .inl c), (4, .inr (.inr t)), (5, .inl c)]) (st' := []) rfl ?_
      refine k_run 1 (pc' := 17) (l' := [(0, .inr (.inr 372)), (1, .inl a), (2, .inl b), (3, .inl c), (4, .inr (.inr t)), (5, .inl c)]) (st' := [.inl c]) rfl ?_
      refine h_zne (off := 10) (t := 27) rfl rfl (by omega) (fun c4 => ?_) (fun c4 => ?_)
      · refine k_run 0 (pc' := 27) (l' := [(0, .inr (.inr 372)), (1, .inl a), (2, .inl b), (3, .inl c), (4, .inr (.inr t)), (5, .inl c)]) (st' := []) rfl ?_
        refine k_run 1 (pc' := 30) (l' := [(0, .inr (.inr 372)), (1, .inl a), (2, .inl b), (3, .inl c), (4, .inr (.inr t)), (5, .inl (c + (-1)))]) (st' := []) rfl ?_
        refine k_nrml 5 rfl rfl rfl (fun y5 hy5 => ?_)
        refine k_run 0 (pc' := 30) (l' := [(0, .inr (.inr 372)), (1, .inl a), (2, .inl b), (3, .inl c), (4, .inr (.inr t)), (5, .inl y5)]) (st' := []) rfl ?_
        refine k_run 2 (pc' := 33) (l' := [(0, .inr (.inr 372)), (1, .inl a), (2, .inl b), (3, .inl c), (4, .inr (.inr t)), (5, .inl y5), (6, .inl 0)]) (st' := []) rfl ?_
        exact (k_putValue_cut hd hI ha hb hc ht hp0 hp1 hR _) H hI (fq_rf _ _ _ _) y5 (0 : Int) (by omega) (by decide) (by omega) (Nat.lt_succ_self _)
      · refine k_run 0 (pc' := 20) (l' := [(0, .inr (.inr 372)), (1, .inl a), (2, .inl b), (3, .inl c), (4, .inr (.inr t)), (5, .inl c)]) (st' := []) rfl ?_
        refine k_run 2 (pc' := 23) (l' := [(0, .inr (.inr 372)), (1, .inl a), (2, .inl b), (3, .inl c), (4, .inr (.inr t)), (5, .inl c)]) (st' := [.inl 0, .inr (.inr t)]) rfl ?_
        refine h_cv (i := 125) (j := 52) (b := t) (M' := mt_52) (xs := [.inl 0]) (rest := []) rfl rfl rfl rfl (by rw [zs_K ht.1 (iT0 ht)]; rfl) rfl (Nat.le_of_ble_eq_true rfl) (Nat.le_of_ble_eq_true rfl) (by omega) (k_Term_put (by omega) hI ht (by decide)) ?_
        rintro _ H7 ⟨rfl, hI8, hq9⟩
        have hf10 : fq [] [] false H H7 := fq_t (fq_rf _ _ _ _) hq9 rfl rfl rfl
        refine k_run 0 (pc' := 26) (l' := [(0, .inr (.inr 372)), (1, .inl a), (2, .inl b), (3, .inl c), (4, .inr (.inr t)), (5, .inl c)]) (st' := []) rfl ?_
        refine h_ret rfl rfl ?_
        exact ⟨rfl, hI8, hf10⟩

theorem k_PV : ∀ m, PVc m := by
  intro m
  induction m using Nat.strongRecOn with
  | ind m hR =>
    have h4 : PVc m := fun hd _ hI _ _ _ _ _ ha hb hc ht hp hq => k_putValue hd hI ha hb hc ht hp hq hR
    exact @h4
theorem k_Trial_putValue {d : Nat} (hd : 18 ≤ d) {H : hp} (hI : Inv H) {a b c : Int} {t n : Nat} (ha : -2147483648 ≤ a ∧ a ≤ 2147483647) (hb : -2147483648 ≤ b ∧ b ≤ 2147483647) (hc : -2147483648 ≤ c ∧ c ≤ 2147483647) (ht : isT t n) (hp0 : -2 ≤ a ∧ a ≤ 100) (hp1 : 0 ≤ b ∧ b ≤ 6) : hG (zs zK) d mt_112 0 (zargs 0 [.inr (.inr 372), .inl a, .inl b, .inl c, .inr (.inr t)]) [] H (fun r9 H9 => r9 = none ∧ Inv H9 ∧ fq [] [] false H H9) := k_PV 6 (by omega) hI ha hb hc ht hp0 (by omega)

/-! Trial.setValues -/
set_option maxRecDepth 100000 in
theorem k_Trial_setValues_cut {d : Nat} (hd : 19 ≤ d) {H : hp} (hI : Inv H) {e : Nat} {a : Int} (he : isE e) (ha : -2147483648 ≤ a ∧ a ≤ 2147483647) : ∀ w : Nat, (∀ (H1 : hp), Inv H1 → fq [] [] false H H1 → ∀ (x3 : Int) (x4 : Int) , (-2147483648 ≤ x3 ∧ x3 ≤ 2147483647) → (-2147483648 ≤ x4 ∧ x4 ≤ 2147483647) → (x4 ≤ 5) → (-1 ≤ x4) → (((1000 * (x4 + 2) + 500).toNat) < w) → hG (zs zK) d mt_111 15 [(0, .inr (.inr 372)), (1, .inr (.inr e)), (2, .inl a), (3, .inl x3), (4, .inl x4)] [] H1 (fun r9 H9 => r9 = none ∧ Inv H9 ∧ fq [] [] false H H9)) ∧ (∀ (H1 : hp), Inv H1 → fq [] [] false H H1 → ∀ (x3 : Int) (x4 : Int) (x5 : Int) (x6 : Int) (x7 : Int) , (-2147483648 ≤ x3 ∧ x3 ≤ 2147483647) → (-2147483648 ≤ x4 ∧ x4 ≤ 2147483647) → (-2147483648 ≤ x5 ∧ x5 ≤ 2147483647) → (-2147483648 ≤ x6 ∧ x6 ≤ 2147483647) → (-2147483648 ≤ x7 ∧ x7 ≤ 2147483647) → (0 ≤ x4 ∧ x4 ≤ 5) → (1 ≤ x7 ∧ x7 ≤ 6) → (((1000 * (x4 + 2) + 100 - x7).toNat) < w) → hG (zs zK) d mt_111 47 [(0, .inr (.inr 372)), (1, .inr (.inr e)), (2, .inl a), (3, .inl x3), (4, .inl x4), (5, .inl x5), (6, .inl x6), (7, .inl x7)] [] H1 (fun r9 H9 => r9 = none ∧ Inv H9 ∧ fq [] [] false H H9)) := by
  intro w
  induction w with
  | zero => exact ⟨fun _ _ _ _ _ _ _ _ _ h => absurd h (Nat.not_lt_zero _), fun _ _ _ _ _ _ _ _ _ _ _ _ _ _ _ h => absurd h (Nat.not_lt_zero _)⟩
  | succ w ih =>
    refine ⟨?_, ?_⟩
    · intro H1 hI1 hf1 x3 x4 hx3 hx4 hi0 hi1 hw
      refine k_run 1 (pc' := 17) (l' := [(0, .inr (.inr 372)), (1, .inr (.inr e)), (2, .inl a), (3, .inl x3), (4, .inl x4)]) (st' := [.inl x4]) rfl ?_
      refine h_zlt (off := 118) (t := 135) rfl rfl (by omega) (fun c3 => ?_) (fun c3 => ?_)
      · refine k_run 0 (pc' := 135) (l' := [(0, .inr (.inr 372)), (1, .inr (.inr e)), (2, .inl a), (3, .inl x3), (4, .inl x4)]) (st' := []) rfl ?_
        refine h_ret rfl rfl ?_
        exact ⟨rfl, hI1, hf1⟩
      · refine k_run 0 (pc' := 20) (l' := [(0, .inr (.inr 372)), (1, .inr (.inr e)), (2, .inl a), (3, .inl x3), (4, .inl x4)]) (st' := []) rfl ?_
        refine k_run 3 (pc' := 26) (l' := [(0, .inr (.inr 372)), (1, .inr (.inr e)), (2, .inl a), (3, .inl x3), (4, .inl x4)]) (st' := [.inl x4, .inr (.inr 375)]) rfl ?_
        refine k_ild (c := 375) (j := (x4).toNat) (i := x4) (x := kx_375) rfl rfl (by decide) rfl (by decide) (by omega) (by omega) ?_
        have g4 : -2147483648 ≤ (H1.1 375 (x4).toNat) ∧ (H1.1 375 (x4).toNat) ≤ 2147483647 := kn (x := kx_375) hI1 rfl (x4).toNat
        have e5 : (H1.1 375 (x4).toNat) = (H.1 375 (x4).toNat) := (hf1.1 375 (x4).toNat rfl (by decide) (fun q => by simp at q)).1
        refine k_run 0 (pc' := 27) (l' := [(0, .inr (.inr 372)), (1, .inr (.inr e)), (2, .inl a), (3, .inl x3), (4, .inl x4)]) (st' := [.inl (H1.1 375 (x4).toNat)]) rfl ?_
        refine k_run 1 (pc' := 28) (l' := [(0, .inr (.inr 372)), (1, .inr (.inr e)), (2, .inl a), (3, .inl x3), (4, .inl x4)]) (st' := [.inl 1, .inl (H1.1 375 (x4).toNat)]) rfl ?_
        refine k_max (i := 70) (x := (H1.1 375 (x4).toNat)) (y := 1) rfl rfl (Nat.le_of_ble_eq_true rfl) (by omega) (by omega) (by decide) (fun z6 hz6 => ?_)
        refine k_run 0 (pc' := 31) (l' := [(0, .inr (.inr 372)), (1, .inr (.inr e)), (2, .inl a), (3, .inl x3), (4, .inl x4)]) (st' := [.inl z6]) rfl ?_
        refine k_run 3 (pc' := 36) (l' := [(0, .inr (.inr 372)), (1, .inr (.inr e)), (2, .inl a), (3, .inl x3), (4, .inl x4), (5, .inl z6)]) (st' := [.inl z6, .inl x3]) rfl ?_
        refine h_irem (x := x3) (y := z6) rfl (by omega) (by omega) (by omega : z6 ≠ 0) ?_
        refine k_nrm (fun y7 hy7 => ?_)
        refine k_run 0 (pc' := 37) (l' := [(0, .inr (.inr 372)), (1, .inr (.inr e)), (2, .inl a), (3, .inl x3), (4, .inl x4), (5, .inl z6)]) (st' := [.inl y7]) rfl ?_
        refine k_run 3 (pc' := 42) (l' := [(0, .inr (.inr 372)), (1, .inr (.inr e)), (2, .inl a), (3, .inl x3), (4, .inl x4), (5, .inl z6), (6, .inl y7)]) (st' := [.inl z6, .inl x3]) rfl ?_
        refine h_idiv (x := x3) (y := z6) rfl (by omega) (by omega) (by omega : z6 ≠ 0) ?_
        refine k_nrm (fun y8 hy8 => ?_)
        refine k_run 0 (pc' := 43) (l' := [(0, .inr (.inr 372)), (1, .inr (.inr e)), (2, .inl a), (3, .inl x3), (4, .inl x4), (5, .inl z6), (6, .inl y7)]) (st' := [.inl y8]) rfl ?_
        refine k_run 3 (pc' := 47) (l' := [(0, .inr (.inr 372)), (1, .inr (.inr e)), (2, .inl a), (3, .inl y8), (4, .inl x4), (5, .inl z6), (6, .inl y7), (7, .inl 1)]) (st' := []) rfl ?_
        exact ih.2 H1 hI1 hf1 y8 x4 z6 y7 (1 : Int) (by omega) (by omega) (by omega) (by omega) (by decide) (by omega) (by omega) (by omega)
    · intro H1 hI1 hf1 x3 x4 x5 x6 x7 hx3 hx4 hx5 hx6 hx7 hi0 hi1 hw
      refine k_run 2 (pc' := 51) (l' := [(0, .inr (.inr 372)), (1, .inr (.inr e)), (2, .inl a), (3, .inl x3), (4, .inl x4), (5, .inl x5), (6, .inl x6), (7, .inl x7)]) (st' := [.inl 6, .inl x7]) rfl ?_
      refine h_ige (off := 45) (t := 96) rfl rfl (by omega) (by decide) (fun c9 => ?_) (fun c9 => ?_)
      · refine k_run 0 (pc' := 96) (l' := [(0, .inr (.inr 372)), (1, .inr (.inr e)), (2, .inl a), (3, .inl x3), (4, .inl x4), (5, .inl x5), (6, .inl x6), (7, .inl x7)]) (st' := []) rfl ?_
        refine k_run 3 (pc' := 102) (l' := [(0, .inr (.inr 372)), (1, .inr (.inr e)), (2, .inl a), (3, .inl x3), (4, .inl x4), (5, .inl x5), (6, .inl x6), (7, .inl x7)]) (st' := [.inl x4, .inr (.inr 376)]) rfl ?_
        refine k_ald (c := 376) (j := (x4).toNat) (i := x4) (x := kx_376) rfl rfl (by decide) rfl (by decide) (by omega) (by omega) hI1 (fun h10 => ?_)
        obtain ⟨t11, et13⟩ : ∃ t9, t9 = H1.2 376 (x4).toNat := ⟨_, rfl⟩
        rw [← et13] at h10 ⊢
        obtain ⟨n14, k12⟩ := (show (∃ n, isT t11 n) ∧ 369 < t11 from h10).1
        have k12b := k12.2.2.2.2
        refine k_run 0 (pc' := 103) (l' := [(0, .inr (.inr 372)), (1, .inr (.inr e)), (2, .inl a), (3, .inl x3), (4, .inl x4), (5, .inl x5), (6, .inl x6), (7, .inl x7)]) (st' := [.inr (.inr t11)]) rfl ?_
        refine k_run 1 (pc' := 104) (l' := [(0, .inr (.inr 372)), (1, .inr (.inr e)), (2, .inl a), (3, .inl x3), (4, .inl x4), (5, .inl x5), (6, .inl x6), (7, .inl x7)]) (st' := [.inl 0, .inr (.inr t11)]) rfl ?_
        refine k_puti (z := 0) (a := t11) (x := (kTo t11 n14)) rfl rfl k12.1 (iT0 k12) k12.2.2.1 rfl rfl rfl rfl hI1 (by decide) (show 0 ≤ (0 : Int) ∧ (0 : Int) ≤ n14 by omega) (fun H15 hI16 hw17 hv18 => ?_)
        have hf19 : fq [] [] false H H15 := fq_w hf1 hw17 (fpT k12)
        refine k_run 0 (pc' := 107) (l' := [(0, .inr (.inr 372)), (1, .inr (.inr e)), (2, .inl a), (3, .inl x3), (4, .inl x4), (5, .inl x5), (6, .inl x6), (7, .inl x7)]) (st' := []) rfl ?_
        refine k_run 2 (pc' := 109) (l' := [(0, .inr (.inr 372)), (1, .inr (.inr e)), (2, .inl a), (3, .inl x3), (4, .inl x4), (5, .inl x5), (6, .inl x6), (7, .inl x7)]) (st' := [.inr (.inr e), .inr (.inr 372)]) rfl ?_
        refine k_get (a := e) (x := (kEo e)) (v := .inr (.inr (e + 5))) rfl rfl he.1 (iE0 he) rfl rfl rfl ?_
        refine k_run 0 (pc' := 112) (l' := [(0, .inr (.inr 372)), (1, .inr (.inr e)), (2, .inl a), (3, .inl x3), (4, .inl x4), (5, .inl x5), (6, .inl x6), (7, .inl x7)]) (st' := [.inr (.inr (e + 5)), .inr (.inr 372)]) rfl ?_
        refine k_run 1 (pc' := 114) (l' := [(0, .inr (.inr 372)), (1, .inr (.inr e)), (2, .inl a), (3, .inl x3), (4, .inl x4), (5, .inl x5), (6, .inl x6), (7, .inl x7)]) (st' := [.inl x4, .inr (.inr (e + 5)), .inr (.inr 372)]) rfl ?_
        refine k_ild (c := (e + 5)) (j := (x4).toNat) (i := x4) (x := kEt) rfl he.2.1 (iE5 he) rfl (by decide) (by omega) (by omega) ?_
        have g20 : -2 ≤ (H15.1 (e + 5) (x4).toNat) ∧ (H15.1 (e + 5) (x4).toNat) ≤ 100 := kn hI16 he.2.1 (x4).toNat
        refine k_run 0 (pc' := 115) (l' := [(0, .inr (.inr 372)), (1, .inr (.inr e)), (2, .inl a), (3, .inl x3), (4, .inl x4), (5, .inl x5), (6, .inl x6), (7, .inl x7)]) (st' := [.inl (H15.1 (e + 5) (x4).toNat), .inr (.inr 372)]) rfl ?_
        refine k_run 5 (pc' := 125) (l' := [(0, .inr (.inr 372)), (1, .inr (.inr e)), (2, .inl a), (3, .inl x3), (4, .inl x4), (5, .inl x5), (6, .inl x6), (7, .inl x7)]) (st' := [.inl x4, .inr (.inr 376), .inl x6, .inl x7, .inl (H15.1 (e + 5) (x4).toNat), .inr (.inr 372)]) rfl ?_
        refine k_ald (c := 376) (j := (x4).toNat) (i := x4) (x := kx_376) rfl rfl (by decide) rfl (by decide) (by omega) (by omega) hI16 (fun h21 => ?_)
        obtain ⟨t22, et24⟩ : ∃ t9, t9 = H15.2 376 (x4).toNat := ⟨_, rfl⟩
        rw [← et24] at h21 ⊢
        obtain ⟨n25, k23⟩ := (show (∃ n, isT t22 n) ∧ 369 < t22 from h21).1
        have k23b := k23.2.2.2.2
        refine k_run 0 (pc' := 126) (l' := [(0, .inr (.inr 372)), (1, .inr (.inr e)), (2, .inl a), (3, .inl x3), (4, .inl x4), (5, .inl x5), (6, .inl x6), (7, .inl x7)]) (st' := [.inr (.inr t22), .inl x6, .inl x7, .inl (H15.1 (e + 5) (x4).toNat), .inr (.inr 372)]) rfl ?_
        refine h_cv (i := 161) (j := 112) (b := 372) (M' := mt_112) (xs := [.inr (.inr t22), .inl x6, .inl x7, .inl (H15.1 (e + 5) (x4).toNat)]) (rest := []) rfl rfl rfl rfl (zs_K (x := kx_372) rfl (by decide)) rfl (Nat.le_of_ble_eq_true rfl) (Nat.le_of_ble_eq_true rfl) (by omega) (k_Trial_putValue (by omega) hI16 (by omega) (by omega) (by omega) k23 (by omega) (by omega)) ?_
        rintro _ H27 ⟨rfl, hI28, hq29⟩
        have hf30 : fq [] [] false H H27 := fq_t hf19 hq29 rfl rfl rfl
        refine k_run 0 (pc' := 129) (l' := [(0, .inr (.inr 372)), (1, .inr (.inr e)), (2, .inl a), (3, .inl x3), (4, .inl x4), (5, .inl x5), (6, .inl x6), (7, .inl x7)]) (st' := []) rfl ?_
        refine k_run 2 (pc' := 15) (l' := [(0, .inr (.inr 372)), (1, .inr (.inr e)), (2, .inl a), (3, .inl x3), (4, .inl (x4 + (-1))), (5, .inl x5), (6, .inl x6), (7, .inl x7)]) (st' := []) rfl ?_
        refine h_loc [0, 1, 2, 3, 4] rfl ?_
        exact ih.1 H27 hI28 hf30 x3 (x4 + (-1)) (by omega) (by omega) (by omega) (by omega) (by omega)
      · refine k_run 0 (pc' := 54) (l' := [(0, .inr (.inr 372)), (1, .inr (.inr e)), (2, .inl a), (3, .inl x3), (4, .inl x4), (5, .inl x5), (6, .inl x6), (7, .inl x7)]) (st' := []) rfl ?_
        refine k_run 3 (pc' := 58) (l' := [(0, .inr (.inr 372)), (1, .inr (.inr e)), (2, .inl a), (3, .inl x3), (4, .inl x4), (5, .inl x5), (6, .inl x6), (7, .inl x7)]) (st' := [.inr (.inr e), .inr (.inr 372), .inl x6]) rfl ?_
        refine k_get (a := e) (x := (kEo e)) (v := .inr (.inr (e + 5))) rfl rfl he.1 (iE0 he) rfl rfl rfl ?_
        refine k_run 0 (pc' := 61) (l' := [(0, .inr (.inr 372)), (1, .inr (.inr e)), (2, .inl a), (3, .inl x3), (4, .inl x4), (5, .inl x5), (6, .inl x6), (7, .inl x7)]) (st' := [.inr (.inr (e + 5)), .inr (.inr 372), .inl x6]) rfl ?_
        refine k_run 1 (pc' := 63) (l' := [(0, .inr (.inr 372)), (1, .inr (.inr e)), (2, .inl a), (3, .inl x3), (4, .inl x4), (5, .inl x5), (6, .inl x6), (7, .inl x7)]) (st' := [.inl x4, .inr (.inr (e + 5)), .inr (.inr 372), .inl x6]) rfl ?_
        refine k_ild (c := (e + 5)) (j := (x4).toNat) (i := x4) (x := kEt) rfl he.2.1 (iE5 he) rfl (by decide) (by omega) (by omega) ?_
        have g31 : -2 ≤ (H1.1 (e + 5) (x4).toNat) ∧ (H1.1 (e + 5) (x4).toNat) ≤ 100 := kn hI1 he.2.1 (x4).toNat
        refine k_run 0 (pc' := 64) (l' := [(0, .inr (.inr 372)), (1, .inr (.inr e)), (2, .inl a), (3, .inl x3), (4, .inl x4), (5, .inl x5), (6, .inl x6), (7, .inl x7)]) (st' := [.inl (H1.1 (e + 5) (x4).toNat), .inr (.inr 372), .inl x6]) rfl ?_
        refine k_run 1 (pc' := 66) (l' := [(0, .inr (.inr 372)), (1, .inr (.inr e)), (2, .inl a), (3, .inl x3), (4, .inl x4), (5, .inl x5), (6, .inl x6), (7, .inl x7)]) (st' := [.inl x7, .inl (H1.1 (e + 5) (x4).toNat), .inr (.inr 372), .inl x6]) rfl ?_
        refine h_cv (i := 153) (j := 108) (b := 372) (M' := mt_108) (xs := [.inl x7, .inl (H1.1 (e + 5) (x4).toNat)]) (rest := [.inl x6]) rfl rfl rfl rfl (zs_K (x := kx_372) rfl (by decide)) rfl (Nat.le_of_ble_eq_true rfl) (Nat.le_of_ble_eq_true rfl) (by omega) (k_Trial_valuesOf (by omega) hI1 (by omega) (by omega) (by omega) (by omega)) ?_
        rintro _ _ ⟨z36, rfl, g32, rfl⟩
        refine k_run 0 (pc' := 69) (l' := [(0, .inr (.inr 372)), (1, .inr (.inr e)), (2, .inl a), (3, .inl x3), (4, .inl x4), (5, .inl x5), (6, .inl x6), (7, .inl x7)]) (st' := [.inl z36, .inl x6]) rfl ?_
        refine h_ilt (off := 27) (t := 96) rfl rfl (by omega) (by omega) (fun c37 => ?_) (fun c37 => ?_)
        · refine k_run 0 (pc' := 96) (l' := [(0, .inr (.inr 372)), (1, .inr (.inr e)), (2, .inl a), (3, .inl x3), (4, .inl x4), (5, .inl x5), (6, .inl x6), (7, .inl x7)]) (st' := []) rfl ?_
          refine k_run 3 (pc' := 102) (l' := [(0, .inr (.inr 372)), (1, .inr (.inr e)), (2, .inl a), (3, .inl x3), (4, .inl x4), (5, .inl x5), (6, .inl x6), (7, .inl x7)]) (st' := [.inl x4, .inr (.inr 376)]) rfl ?_
          refine k_ald (c := 376) (j := (x4).toNat) (i := x4) (x := kx_376) rfl rfl (by decide) rfl (by decide) (by omega) (by omega) hI1 (fun h38 => ?_)
          obtain ⟨t39, et41⟩ : ∃ t9, t9 = H1.2 376 (x4).toNat := ⟨_, rfl⟩
          rw [← et41] at h38 ⊢
          obtain ⟨n42, k40⟩ := (show (∃ n, isT t39 n) ∧ 369 < t39 from h38).1
          have k40b := k40.2.2.2.2
          refine k_run 0 (pc' := 103) (l' := [(0, .inr (.inr 372)), (1, .inr (.inr e)), (2, .inl a), (3, .inl x3), (4, .inl x4), (5, .inl x5), (6, .inl x6), (7, .inl x7)]) (st' := [.inr (.inr t39)]) rfl ?_
          refine k_run 1 (pc' := 104) (l' := [(0, .inr (.inr 372)), (1, .inr (.inr e)), (2, .inl a), (3, .inl x3), (4, .inl x4), (5, .inl x5), (6, .inl x6), (7, .inl x7)]) (st' := [.inl 0, .inr (.inr t39)]) rfl ?_
          refine k_puti (z := 0) (a := t39) (x := (kTo t39 n42)) rfl rfl k40.1 (iT0 k40) k40.2.2.1 rfl rfl rfl rfl hI1 (by decide) (show 0 ≤ (0 : Int) ∧ (0 : Int) ≤ n42 by omega) (fun H43 hI44 hw45 hv46 => ?_)
          have hf47 : fq [] [] false H H43 := fq_w hf1 hw45 (fpT k40)
          refine k_run 0 (pc' := 107) (l' := [(0, .inr (.inr 372)), (1, .inr (.inr e)), (2, .inl a), (3, .inl x3), (4, .inl x4), (5, .inl x5), (6, .inl x6), (7, .inl x7)]) (st' := []) rfl ?_
          refine k_run 2 (pc' := 109) (l' := [(0, .inr (.inr 372)), (1, .inr (.inr e)), (2, .inl a), (3, .inl x3), (4, .inl x4), (5, .inl x5), (6, .inl x6), (7, .inl x7)]) (st' := [.inr (.inr e), .inr (.inr 372)]) rfl ?_
          refine k_get (a := e) (x := (kEo e)) (v := .inr (.inr (e + 5))) rfl rfl he.1 (iE0 he) rfl rfl rfl ?_
          refine k_run 0 (pc' := 112) (l' := [(0, .inr (.inr 372)), (1, .inr (.inr e)), (2, .inl a), (3, .inl x3), (4, .inl x4), (5, .inl x5), (6, .inl x6), (7, .inl x7)]) (st' := [.inr (.inr (e + 5)), .inr (.inr 372)]) rfl ?_
          refine k_run 1 (pc' := 114) (l' := [(0, .inr (.inr 372)), (1, .inr (.inr e)), (2, .inl a), (3, .inl x3), (4, .inl x4), (5, .inl x5), (6, .inl x6), (7, .inl x7)]) (st' := [.inl x4, .inr (.inr (e + 5)), .inr (.inr 372)]) rfl ?_
          refine k_ild (c := (e + 5)) (j := (x4).toNat) (i := x4) (x := kEt) rfl he.2.1 (iE5 he) rfl (by decide) (by omega) (by omega) ?_
          have g48 : -2 ≤ (H43.1 (e + 5) (x4).toNat) ∧ (H43.1 (e + 5) (x4).toNat) ≤ 100 := kn hI44 he.2.1 (x4).toNat
          refine k_run 0 (pc' := 115) (l' := [(0, .inr (.inr 372)), (1, .inr (.inr e)), (2, .inl a), (3, .inl x3), (4, .inl x4), (5, .inl x5), (6, .inl x6), (7, .inl x7)]) (st' := [.inl (H43.1 (e + 5) (x4).toNat), .inr (.inr 372)]) rfl ?_
          refine k_run 5 (pc' := 125) (l' := [(0, .inr (.inr 372)), (1, .inr (.inr e)), (2, .inl a), (3, .inl x3), (4, .inl x4), (5, .inl x5), (6, .inl x6), (7, .inl x7)]) (st' := [.inl x4, .inr (.inr 376), .inl x6, .inl x7, .inl (H43.1 (e + 5) (x4).toNat), .inr (.inr 372)]) rfl ?_
          refine k_ald (c := 376) (j := (x4).toNat) (i := x4) (x := kx_376) rfl rfl (by decide) rfl (by decide) (by omega) (by omega) hI44 (fun h49 => ?_)
          obtain ⟨t50, et52⟩ : ∃ t9, t9 = H43.2 376 (x4).toNat := ⟨_, rfl⟩
          rw [← et52] at h49 ⊢
          obtain ⟨n53, k51⟩ := (show (∃ n, isT t50 n) ∧ 369 < t50 from h49).1
          have k51b := k51.2.2.2.2
          refine k_run 0 (pc' := 126) (l' := [(0, .inr (.inr 372)), (1, .inr (.inr e)), (2, .inl a), (3, .inl x3), (4, .inl x4), (5, .inl x5), (6, .inl x6), (7, .inl x7)]) (st' := [.inr (.inr t50), .inl x6, .inl x7, .inl (H43.1 (e + 5) (x4).toNat), .inr (.inr 372)]) rfl ?_
          refine h_cv (i := 161) (j := 112) (b := 372) (M' := mt_112) (xs := [.inr (.inr t50), .inl x6, .inl x7, .inl (H43.1 (e + 5) (x4).toNat)]) (rest := []) rfl rfl rfl rfl (zs_K (x := kx_372) rfl (by decide)) rfl (Nat.le_of_ble_eq_true rfl) (Nat.le_of_ble_eq_true rfl) (by omega) (k_Trial_putValue (by omega) hI44 (by omega) (by omega) (by omega) k51 (by omega) (by omega)) ?_
          rintro _ H55 ⟨rfl, hI56, hq57⟩
          have hf58 : fq [] [] false H H55 := fq_t hf47 hq57 rfl rfl rfl
          refine k_run 0 (pc' := 129) (l' := [(0, .inr (.inr 372)), (1, .inr (.inr e)), (2, .inl a), (3, .inl x3), (4, .inl x4), (5, .inl x5), (6, .inl x6), (7, .inl x7)]) (st' := []) rfl ?_
          refine k_run 2 (pc' := 15) (l' := [(0, .inr (.inr 372)), (1, .inr (.inr e)), (2, .inl a), (3, .inl x3), (4, .inl (x4 + (-1))), (5, .inl x5), (6, .inl x6), (7, .inl x7)]) (st' := []) rfl ?_
          refine h_loc [0, 1, 2, 3, 4] rfl ?_
          exact ih.1 H55 hI56 hf58 x3 (x4 + (-1)) (by omega) (by omega) (by omega) (by omega) (by omega)
        · refine k_run 0 (pc' := 72) (l' := [(0, .inr (.inr 372)), (1, .inr (.inr e)), (2, .inl a), (3, .inl x3), (4, .inl x4), (5, .inl x5), (6, .inl x6), (7, .inl x7)]) (st' := []) rfl ?_
          refine k_run 3 (pc' := 76) (l' := [(0, .inr (.inr 372)), (1, .inr (.inr e)), (2, .inl a), (3, .inl x3), (4, .inl x4), (5, .inl x5), (6, .inl x6), (7, .inl x7)]) (st' := [.inr (.inr e), .inr (.inr 372), .inl x6]) rfl ?_
          refine k_get (a := e) (x := (kEo e)) (v := .inr (.inr (e + 5))) rfl rfl he.1 (iE0 he) rfl rfl rfl ?_
          refine k_run 0 (pc' := 79) (l' := [(0, .inr (.inr 372)), (1, .inr (.inr e)), (2, .inl a), (3, .inl x3), (4, .inl x4), (5, .inl x5), (6, .inl x6), (7, .inl x7)]) (st' := [.inr (.inr (e + 5)), .inr (.inr 372), .inl x6]) rfl ?_
          refine k_run 1 (pc' := 81) (l' := [(0, .inr (.inr 372)), (1, .inr (.inr e)), (2, .inl a), (3, .inl x3), (4, .inl x4), (5, .inl x5), (6, .inl x6), (7, .inl x7)]) (st' := [.inl x4, .inr (.inr (e + 5)), .inr (.inr 372), .inl x6]) rfl ?_
          refine k_ild (c := (e + 5)) (j := (x4).toNat) (i := x4) (x := kEt) rfl he.2.1 (iE5 he) rfl (by decide) (by omega) (by omega) ?_
          refine k_run 0 (pc' := 82) (l' := [(0, .inr (.inr 372)), (1, .inr (.inr e)), (2, .inl a), (3, .inl x3), (4, .inl x4), (5, .inl x5), (6, .inl x6), (7, .inl x7)]) (st' := [.inl (H1.1 (e + 5) (x4).toNat), .inr (.inr 372), .inl x6]) rfl ?_
          refine k_run 1 (pc' := 84) (l' := [(0, .inr (.inr 372)), (1, .inr (.inr e)), (2, .inl a), (3, .inl x3), (4, .inl x4), (5, .inl x5), (6, .inl x6), (7, .inl x7)]) (st' := [.inl x7, .inl (H1.1 (e + 5) (x4).toNat), .inr (.inr 372), .inl x6]) rfl ?_
          refine h_cv (i := 153) (j := 108) (b := 372) (M' := mt_108) (xs := [.inl x7, .inl (H1.1 (e + 5) (x4).toNat)]) (rest := [.inl x6]) rfl rfl rfl rfl (zs_K (x := kx_372) rfl (by decide)) rfl (Nat.le_of_ble_eq_true rfl) (Nat.le_of_ble_eq_true rfl) (by omega) (k_Trial_valuesOf (by omega) hI1 (by omega) (by omega) (by omega) (by omega)) ?_
          rintro _ _ ⟨z63, rfl, g59, rfl⟩
          refine k_run 0 (pc' := 87) (l' := [(0, .inr (.inr 372)), (1, .inr (.inr e)), (2, .inl a), (3, .inl x3), (4, .inl x4), (5, .inl x5), (6, .inl x6), (7, .inl x7)]) (st' := [.inl z63, .inl x6]) rfl ?_
          refine k_run 1 (pc' := 88) (l' := [(0, .inr (.inr 372)), (1, .inr (.inr e)), (2, .inl a), (3, .inl x3), (4, .inl x4), (5, .inl x5), (6, .inl x6), (7, .inl x7)]) (st' := [.inl (x6 - z63)]) rfl ?_
          refine k_nrm (fun y64 hy64 => ?_)
          refine k_run 0 (pc' := 88) (l' := [(0, .inr (.inr 372)), (1, .inr (.inr e)), (2, .inl a), (3, .inl x3), (4, .inl x4), (5, .inl x5), (6, .inl x6), (7, .inl x7)]) (st' := [.inl y64]) rfl ?_
          refine k_run 3 (pc' := 47) (l' := [(0, .inr (.inr 372)), (1, .inr (.inr e)), (2, .inl a), (3, .inl x3), (4, .inl x4), (5, .inl x5), (6, .inl y64), (7, .inl (x7 + 1))]) (st' := []) rfl ?_
          exact ih.2 H1 hI1 hf1 x3 x4 x5 y64 (x7 + 1) (by omega) (by omega) (by omega) (by omega) (by omega) (by omega) (by omega) (by omega)
set_option maxRecDepth 100000 in
theorem k_Trial_setValues {d : Nat} (hd : 19 ≤ d) {H : hp} (hI : Inv H) {e : Nat} {a : Int} (he : isE e) (ha : -2147483648 ≤ a ∧ a ≤ 2147483647) : hG (zs zK) d mt_111 0 (zargs 0 [.inr (.inr 372), .inr (.inr e), .inl a]) [] H (fun r9 H9 => r9 = none ∧ Inv H9 ∧ fq [] [] false H H9) := by
  refine k_run 0 (pc' := 0) (l' := [(0, .inr (.inr 372)), (1, .inr (.inr e)), (2, .inl a)]) (st' := []) rfl ?_
  refine k_run 3 (pc' := 3) (l' := [(0, .inr (.inr 372)), (1, .inr (.inr e)), (2, .inl a), (3, .inl a)]) (st' := [.inr (.inr e)]) rfl ?_
  refine k_get (a := e) (x := (kEo e)) (v := .inl (H.1 e 3)) rfl rfl he.1 (iE0 he) rfl rfl rfl ?_
  have g1 : 0 ≤ (H.1 e 3) ∧ (H.1 e 3) ≤ 40 := kn hI he.1 3
  refine k_run 0 (pc' := 6) (l' := [(0, .inr (.inr 372)), (1, .inr (.inr e)), (2, .inl a), (3, .inl a)]) (st' := [.inl (H.1 e 3)]) rfl ?_
  refine k_run 1 (pc' := 8) (l' := [(0, .inr (.inr 372)), (1, .inr (.inr e)), (2, .inl a), (3, .inl a)]) (st' := [.inl 6, .inl (H.1 e 3)]) rfl ?_
  refine k_min (i := 101) (x := (H.1 e 3)) (y := 6) rfl rfl (Nat.le_of_ble_eq_true rfl) (by omega) (by omega) (by decide) (fun z2 hz2 => ?_)
  refine k_run 0 (pc' := 11) (l' := [(0, .inr (.inr 372)), (1, .inr (.inr e)), (2, .inl a), (3, .inl a)]) (st' := [.inl z2]) rfl ?_
  refine k_run 3 (pc' := 15) (l' := [(0, .inr (.inr 372)), (1, .inr (.inr e)), (2, .inl a), (3, .inl a), (4, .inl (z2 - 1))]) (st' := []) rfl ?_
  exact (k_Trial_setValues_cut hd hI he ha _).1 H hI (fq_rf _ _ _ _) a (z2 - 1) (by omega) (by omega) (by omega) (by omega) (Nat.lt_succ_self _)

/-! Trial.fill -/
set_option maxRecDepth 100000 in
theorem k_Trial_fill_cut {d : Nat} (hd : 2 ≤ d) {H : hp} (hI : Inv H) {t n : Nat} {u m : Nat} (ht : isT t n) (hu : isT u m) : ∀ w : Nat, (∀ (H1 : hp), Inv H1 → fq [] [] false H H1 → ∀ (x3 : Int) , (-2147483648 ≤ x3 ∧ x3 ≤ 2147483647) → (0 ≤ x3) → (((1000 - x3).toNat) < w) → hG (zs zK) d mt_105 7 [(0, .inr (.inr 372)), (1, .inr (.inr t)), (2, .inr (.inr u)), (3, .inl x3)] [] H1 (fun r9 H9 => r9 = none ∧ Inv H9 ∧ fq [] [] false H H9)) := by
  intro w
  induction w with
  | zero => exact fun _ _ _ _ _ _ h => absurd h (Nat.not_lt_zero _)
  | succ w ih =>
    intro H1 hI1 hf1 x3 hx3 hi0 hw
    have htb := ht.2.2.2.2
    have hub := hu.2.2.2.2
    refine k_run 2 (pc' := 9) (l' := [(0, .inr (.inr 372)), (1, .inr (.inr t)), (2, .inr (.inr u)), (3, .inl x3)]) (st' := [.inr (.inr t), .inl x3]) rfl ?_
    refine k_get (a := t) (x := (kTo t n)) (v := .inl (H1.1 t 1)) rfl rfl ht.1 (iT0 ht) rfl rfl rfl ?_
    have g6 : 0 ≤ (H1.1 t 1) ∧ (H1.1 t 1) ≤ n := kn hI1 ht.1 1
    refine k_run 0 (pc' := 12) (l' := [(0, .inr (.inr 372)), (1, .inr (.inr t)), (2, .inr (.inr u)), (3, .inl x3)]) (st' := [.inl (H1.1 t 1), .inl x3]) rfl ?_
    refine h_ige (off := 79) (t := 91) rfl rfl (by omega) (by omega) (fun c7 => ?_) (fun c7 => ?_)
    · refine k_run 0 (pc' := 91) (l' := [(0, .inr (.inr 372)), (1, .inr (.inr t)), (2, .inr (.inr u)), (3, .inl x3)]) (st' := []) rfl ?_
      refine h_ret rfl rfl ?_
      exact ⟨rfl, hI1, hf1⟩
    · refine k_run 0 (pc' := 15) (l' := [(0, .inr (.inr 372)), (1, .inr (.inr t)), (2, .inr (.inr u)), (3, .inl x3)]) (st' := []) rfl ?_
      refine k_run 1 (pc' := 16) (l' := [(0, .inr (.inr 372)), (1, .inr (.inr t)), (2, .inr (.inr u)), (3, .inl x3)]) (st' := [.inr (.inr t)]) rfl ?_
      refine k_get (a := t) (x := (kTo t n)) (v := .inr (.inr (t + 1))) rfl rfl ht.1 (iT0 ht) rfl rfl rfl ?_
      refine k_run 0 (pc' := 19) (l' := [(0, .inr (.inr 372)), (1, .inr (.inr t)), (2, .inr (.inr u)), (3, .inl x3)]) (st' := [.inr (.inr (t + 1))]) rfl ?_
      refine k_run 1 (pc' := 20) (l' := [(0, .inr (.inr 372)), (1, .inr (.inr t)), (2, .inr (.inr u)), (3, .inl x3)]) (st' := [.inl x3, .inr (.inr (t + 1))]) rfl ?_
      refine k_ild (c := (t + 1)) (j := (x3).toNat) (i := x3) (x := (kTc n)) rfl ht.2.1 (iT1 ht) rfl (by omega) (by omega) (by omega) ?_
      have g8 : -2147483648 ≤ (H1.1 (t + 1) (x3).toNat) ∧ (H1.1 (t + 1) (x3).toNat) ≤ 2147483647 := kn hI1 ht.2.1 (x3).toNat
      refine k_run 0 (pc' := 21) (l' := [(0, .inr (.inr 372)), (1, .inr (.inr t)), (2, .inr (.inr u)), (3, .inl x3)]) (st' := [.inl (H1.1 (t + 1) (x3).toNat)]) rfl ?_
      refine h_cs (i := 114) (j := 50) (M' := mt_50) (xs := [.inl (H1.1 (t + 1) (x3).toNat)]) (rest := []) rfl rfl rfl rfl rfl (Nat.le_of_ble_eq_true rfl) (Nat.le_of_ble_eq_true rfl) (by omega) (k_Term_indexOf (by omega)  (by omega)) ?_
      rintro _ _ ⟨z13, rfl, g9, rfl⟩
      refine k_run 0 (pc' := 24) (l' := [(0, .inr (.inr 372)), (1, .inr (.inr t)), (2, .inr (.inr u)), (3, .inl x3)]) (st' := [.inl z13]) rfl ?_
      refine k_run 2 (pc' := 27) (l' := [(0, .inr (.inr 372)), (1, .inr (.inr t)), (2, .inr (.inr u)), (3, .inl x3), (4, .inl z13)]) (st' := [.inr (.inr t)]) rfl ?_
      refine k_get (a := t) (x := (kTo t n)) (v := .inr (.inr (t + 1))) rfl rfl ht.1 (iT0 ht) rfl rfl rfl ?_
      refine k_run 0 (pc' := 30) (l' := [(0, .inr (.inr 372)), (1, .inr (.inr t)), (2, .inr (.inr u)), (3, .inl x3), (4, .inl z13)]) (st' := [.inr (.inr (t + 1))]) rfl ?_
      refine k_run 1 (pc' := 31) (l' := [(0, .inr (.inr 372)), (1, .inr (.inr t)), (2, .inr (.inr u)), (3, .inl x3), (4, .inl z13)]) (st' := [.inl x3, .inr (.inr (t + 1))]) rfl ?_
      refine k_ild (c := (t + 1)) (j := (x3).toNat) (i := x3) (x := (kTc n)) rfl ht.2.1 (iT1 ht) rfl (by omega) (by omega) (by omega) ?_
      refine k_run 0 (pc' := 32) (l' := [(0, .inr (.inr 372)), (1, .inr (.inr t)), (2, .inr (.inr u)), (3, .inl x3), (4, .inl z13)]) (st' := [.inl (H1.1 (t + 1) (x3).toNat)]) rfl ?_
      refine h_cs (i := 118) (j := 49) (M' := mt_49) (xs := [.inl (H1.1 (t + 1) (x3).toNat)]) (rest := []) rfl rfl rfl rfl rfl (Nat.le_of_ble_eq_true rfl) (Nat.le_of_ble_eq_true rfl) (by omega) (k_Term_kindOf (by omega)  (by omega)) ?_
      rintro _ _ ⟨z18, rfl, g14, rfl⟩
      refine k_run 0 (pc' := 35) (l' := [(0, .inr (.inr 372)), (1, .inr (.inr t)), (2, .inr (.inr u)), (3, .inl x3), (4, .inl z13)]) (st' := [.inl z18]) rfl ?_
      refine k_run 1 (pc' := 36) (l' := [(0, .inr (.inr 372)), (1, .inr (.inr t)), (2, .inr (.inr u)), (3, .inl x3), (4, .inl z13)]) (st' := [.inl 3, .inl z18]) rfl ?_
      refine h_ine (off := 39) (t := 75) rfl rfl (by omega) (by decide) (fun c19 => ?_) (fun c19 => ?_)
      · refine k_run 0 (pc' := 75) (l' := [(0, .inr (.inr 372)), (1, .inr (.inr t)), (2, .inr (.inr u)), (3, .inl x3), (4, .inl z13)]) (st' := []) rfl ?_
        refine k_run 2 (pc' := 77) (l' := [(0, .inr (.inr 372)), (1, .inr (.inr t)), (2, .inr (.inr u)), (3, .inl x3), (4, .inl z13)]) (st' := [.inr (.inr t), .inr (.inr u)]) rfl ?_
        refine k_get (a := t) (x := (kTo t n)) (v := .inr (.inr (t + 1))) rfl rfl ht.1 (iT0 ht) rfl rfl rfl ?_
        refine k_run 0 (pc' := 80) (l' := [(0, .inr (.inr 372)), (1, .inr (.inr t)), (2, .inr (.inr u)), (3, .inl x3), (4, .inl z13)]) (st' := [.inr (.inr (t + 1)), .inr (.inr u)]) rfl ?_
        refine k_run 1 (pc' := 81) (l' := [(0, .inr (.inr 372)), (1, .inr (.inr t)), (2, .inr (.inr u)), (3, .inl x3), (4, .inl z13)]) (st' := [.inl x3, .inr (.inr (t + 1)), .inr (.inr u)]) rfl ?_
        refine k_ild (c := (t + 1)) (j := (x3).toNat) (i := x3) (x := (kTc n)) rfl ht.2.1 (iT1 ht) rfl (by omega) (by omega) (by omega) ?_
        refine k_run 0 (pc' := 82) (l' := [(0, .inr (.inr 372)), (1, .inr (.inr t)), (2, .inr (.inr u)), (3, .inl x3), (4, .inl z13)]) (st' := [.inl (H1.1 (t + 1) (x3).toNat), .inr (.inr u)]) rfl ?_
        refine h_cv (i := 125) (j := 52) (b := u) (M' := mt_52) (xs := [.inl (H1.1 (t + 1) (x3).toNat)]) (rest := []) rfl rfl rfl rfl (by rw [zs_K hu.1 (iT0 hu)]; rfl) rfl (Nat.le_of_ble_eq_true rfl) (Nat.le_of_ble_eq_true rfl) (by omega) (k_Term_put (by omega) hI1 hu (by omega)) ?_
        rintro _ H21 ⟨rfl, hI22, hq23⟩
        have hf24 : fq [] [] false H H21 := fq_t hf1 hq23 rfl rfl rfl
        refine k_run 0 (pc' := 85) (l' := [(0, .inr (.inr 372)), (1, .inr (.inr t)), (2, .inr (.inr u)), (3, .inl x3), (4, .inl z13)]) (st' := []) rfl ?_
        refine k_run 2 (pc' := 7) (l' := [(0, .inr (.inr 372)), (1, .inr (.inr t)), (2, .inr (.inr u)), (3, .inl (x3 + 1)), (4, .inl z13)]) (st' := []) rfl ?_
        refine h_loc [0, 1, 2, 3] rfl ?_
        exact ih H21 hI22 hf24 (x3 + 1) (by omega) (by omega) (by omega)
      · refine k_run 0 (pc' := 39) (l' := [(0, .inr (.inr 372)), (1, .inr (.inr t)), (2, .inr (.inr u)), (3, .inl x3), (4, .inl z13)]) (st' := []) rfl ?_
        refine k_run 3 (pc' := 45) (l' := [(0, .inr (.inr 372)), (1, .inr (.inr t)), (2, .inr (.inr u)), (3, .inl x3), (4, .inl z13)]) (st' := [.inr (.inr 376), .inl z13]) rfl ?_
        refine k_alen (c := 376) (x := kx_376) rfl rfl (by decide) rfl ?_
        refine k_run 0 (pc' := 46) (l' := [(0, .inr (.inr 372)), (1, .inr (.inr t)), (2, .inr (.inr u)), (3, .inl x3), (4, .inl z13)]) (st' := [.inl 6, .inl z13]) rfl ?_
        refine h_ige (off := 29) (t := 75) rfl rfl (by omega) (by decide) (fun c25 => ?_) (fun c25 => ?_)
        · refine k_run 0 (pc' := 75) (l' := [(0, .inr (.inr 372)), (1, .inr (.inr t)), (2, .inr (.inr u)), (3, .inl x3), (4, .inl z13)]) (st' := []) rfl ?_
          refine k_run 2 (pc' := 77) (l' := [(0, .inr (.inr 372)), (1, .inr (.inr t)), (2, .inr (.inr u)), (3, .inl x3), (4, .inl z13)]) (st' := [.inr (.inr t), .inr (.inr u)]) rfl ?_
          refine k_get (a := t) (x := (kTo t n)) (v := .inr (.inr (t + 1))) rfl rfl ht.1 (iT0 ht) rfl rfl rfl ?_
          refine k_run 0 (pc' := 80) (l' := [(0, .inr (.inr 372)), (1, .inr (.inr t)), (2, .inr (.inr u)), (3, .inl x3), (4, .inl z13)]) (st' := [.inr (.inr (t + 1)), .inr (.inr u)]) rfl ?_
          refine k_run 1 (pc' := 81) (l' := [(0, .inr (.inr 372)), (1, .inr (.inr t)), (2, .inr (.inr u)), (3, .inl x3), (4, .inl z13)]) (st' := [.inl x3, .inr (.inr (t + 1)), .inr (.inr u)]) rfl ?_
          refine k_ild (c := (t + 1)) (j := (x3).toNat) (i := x3) (x := (kTc n)) rfl ht.2.1 (iT1 ht) rfl (by omega) (by omega) (by omega) ?_
          refine k_run 0 (pc' := 82) (l' := [(0, .inr (.inr 372)), (1, .inr (.inr t)), (2, .inr (.inr u)), (3, .inl x3), (4, .inl z13)]) (st' := [.inl (H1.1 (t + 1) (x3).toNat), .inr (.inr u)]) rfl ?_
          refine h_cv (i := 125) (j := 52) (b := u) (M' := mt_52) (xs := [.inl (H1.1 (t + 1) (x3).toNat)]) (rest := []) rfl rfl rfl rfl (by rw [zs_K hu.1 (iT0 hu)]; rfl) rfl (Nat.le_of_ble_eq_true rfl) (Nat.le_of_ble_eq_true rfl) (by omega) (k_Term_put (by omega) hI1 hu (by omega)) ?_
          rintro _ H27 ⟨rfl, hI28, hq29⟩
          have hf30 : fq [] [] false H H27 := fq_t hf1 hq29 rfl rfl rfl
          refine k_run 0 (pc' := 85) (l' := [(0, .inr (.inr 372)), (1, .inr (.inr t)), (2, .inr (.inr u)), (3, .inl x3), (4, .inl z13)]) (st' := []) rfl ?_
          refine k_run 2 (pc' := 7) (l' := [(0, .inr (.inr 372)), (1, .inr (.inr t)), (2, .inr (.inr u)), (3, .inl (x3 + 1)), (4, .inl z13)]) (st' := []) rfl ?_
          refine h_loc [0, 1, 2, 3] rfl ?_
          exact ih H27 hI28 hf30 (x3 + 1) (by omega) (by omega) (by omega)
        · refine k_run 0 (pc' := 49) (l' := [(0, .inr (.inr 372)), (1, .inr (.inr t)), (2, .inr (.inr u)), (3, .inl x3), (4, .inl z13)]) (st' := []) rfl ?_
          refine k_run 4 (pc' := 56) (l' := [(0, .inr (.inr 372)), (1, .inr (.inr t)), (2, .inr (.inr u)), (3, .inl x3), (4, .inl z13)]) (st' := [.inl z13, .inr (.inr 376), .inr (.inr u)]) rfl ?_
          refine k_ald (c := 376) (j := (z13).toNat) (i := z13) (x := kx_376) rfl rfl (by decide) rfl (by decide) (by omega) (by omega) hI1 (fun h31 => ?_)
          obtain ⟨t32, et34⟩ : ∃ t9, t9 = H1.2 376 (z13).toNat := ⟨_, rfl⟩
          rw [← et34] at h31 ⊢
          obtain ⟨n35, k33⟩ := (show (∃ n, isT t32 n) ∧ 369 < t32 from h31).1
          have k33b := k33.2.2.2.2
          refine k_run 0 (pc' := 57) (l' := [(0, .inr (.inr 372)), (1, .inr (.inr t)), (2, .inr (.inr u)), (3, .inl x3), (4, .inl z13)]) (st' := [.inr (.inr t32), .inr (.inr u)]) rfl ?_
          refine k_run 4 (pc' := 64) (l' := [(0, .inr (.inr 372)), (1, .inr (.inr t)), (2, .inr (.inr u)), (3, .inl x3), (4, .inl z13)]) (st' := [.inl z13, .inr (.inr 376), .inl 0, .inr (.inr t32), .inr (.inr u)]) rfl ?_
          refine k_ald (c := 376) (j := (z13).toNat) (i := z13) (x := kx_376) rfl rfl (by decide) rfl (by decide) (by omega) (by omega) hI1 (fun h36 => ?_)
          rw [← et34]
          refine k_run 0 (pc' := 65) (l' := [(0, .inr (.inr 372)), (1, .inr (.inr t)), (2, .inr (.inr u)), (3, .inl x3), (4, .inl z13)]) (st' := [.inr (.inr t32), .inl 0, .inr (.inr t32), .inr (.inr u)]) rfl ?_
          refine k_get (a := t32) (x := (kTo t32 n35)) (v := .inl (H1.1 t32 1)) rfl rfl k33.1 (iT0 k33) rfl rfl rfl ?_
          have g37 : 0 ≤ (H1.1 t32 1) ∧ (H1.1 t32 1) ≤ n35 := kn hI1 k33.1 1
          refine k_run 0 (pc' := 68) (l' := [(0, .inr (.inr 372)), (1, .inr (.inr t)), (2, .inr (.inr u)), (3, .inl x3), (4, .inl z13)]) (st' := [.inl (H1.1 t32 1), .inl 0, .inr (.inr t32), .inr (.inr u)]) rfl ?_
          refine h_cv (i := 121) (j := 54) (b := u) (M' := mt_54) (xs := [.inl (H1.1 t32 1), .inl 0, .inr (.inr t32)]) (rest := []) rfl rfl rfl rfl (by rw [zs_K hu.1 (iT0 hu)]; rfl) rfl (Nat.le_of_ble_eq_true rfl) (Nat.le_of_ble_eq_true rfl) (by omega) (k_Term_append (by omega) hI1 hu k33 (by decide) (by omega) (by omega)) ?_
          rintro _ H39 ⟨z42, rfl, g38, hI40, hq41⟩
          have hf43 : fq [] [] false H H39 := fq_t hf1 hq41 rfl rfl rfl
          refine k_run 0 (pc' := 71) (l' := [(0, .inr (.inr 372)), (1, .inr (.inr t)), (2, .inr (.inr u)), (3, .inl x3), (4, .inl z13)]) (st' := [.inl z42]) rfl ?_
          refine k_run 4 (pc' := 7) (l' := [(0, .inr (.inr 372)), (1, .inr (.inr t)), (2, .inr (.inr u)), (3, .inl (x3 + 1)), (4, .inl z13)]) (st' := []) rfl ?_
          refine h_loc [0, 1, 2, 3] rfl ?_
          exact ih H39 hI40 hf43 (x3 + 1) (by omega) (by omega) (by omega)
set_option maxRecDepth 100000 in
theorem k_Trial_fill {d : Nat} (hd : 2 ≤ d) {H : hp} (hI : Inv H) {t n : Nat} {u m : Nat} (ht : isT t n) (hu : isT u m) : hG (zs zK) d mt_105 0 (zargs 0 [.inr (.inr 372), .inr (.inr t), .inr (.inr u)]) [] H (fun r9 H9 => r9 = none ∧ Inv H9 ∧ fq [] [] false H H9) := by
  have htb := ht.2.2.2.2
  have hub := hu.2.2.2.2
  refine k_run 0 (pc' := 0) (l' := [(0, .inr (.inr 372)), (1, .inr (.inr t)), (2, .inr (.inr u))]) (st' := []) rfl ?_
  refine k_run 2 (pc' := 2) (l' := [(0, .inr (.inr 372)), (1, .inr (.inr t)), (2, .inr (.inr u))]) (st' := [.inl 0, .inr (.inr u)]) rfl ?_
  refine k_puti (z := 0) (a := u) (x := (kTo u m)) rfl rfl hu.1 (iT0 hu) hu.2.2.1 rfl rfl rfl rfl hI (by decide) (show 0 ≤ (0 : Int) ∧ (0 : Int) ≤ m by omega) (fun H1 hI2 hw3 hv4 => ?_)
  have hf5 : fq [] [] false H H1 := fq_w (fq_rf _ _ _ _) hw3 (fpT hu)
  refine k_run 0 (pc' := 5) (l' := [(0, .inr (.inr 372)), (1, .inr (.inr t)), (2, .inr (.inr u))]) (st' := []) rfl ?_
  refine k_run 2 (pc' := 7) (l' := [(0, .inr (.inr 372)), (1, .inr (.inr t)), (2, .inr (.inr u)), (3, .inl 0)]) (st' := []) rfl ?_
  exact (k_Trial_fill_cut hd hI ht hu _) H1 hI2 hf5 (0 : Int) (by decide) (by omega) (Nat.lt_succ_self _)

/-! Trial.tellRow -/
set_option maxRecDepth 100000 in
theorem k_Trial_tellRow_cut {d : Nat} (hd : 2 ≤ d) {H : hp} (hI : Inv H) {e : Nat} (he : isE e) : ∀ w : Nat, (∀ (H1 : hp), Inv H1 → fq [(372, 10)] [] false H H1 → ∀ (x2 : Int) , (-2147483648 ≤ x2 ∧ x2 ≤ 2147483647) → (0 ≤ x2) → (((1000 - x2).toNat) < w) → hG (zs zK) d mt_104 15 [(0, .inr (.inr 372)), (1, .inr (.inr e)), (2, .inl x2)] [] H1 (fun r9 H9 => r9 = none ∧ Inv H9 ∧ fq [(372, 10)] [] false H H9)) := by
  intro w
  induction w with
  | zero => exact fun _ _ _ _ _ _ h => absurd h (Nat.not_lt_zero _)
  | succ w ih =>
    intro H1 hI1 hf1 x2 hx2 hi0 hw
    refine k_run 3 (pc' := 20) (l' := [(0, .inr (.inr 372)), (1, .inr (.inr e)), (2, .inl x2)]) (st' := [.inl (H1.1 372 10), .inl x2]) rfl ?_
    have g8 : -1 ≤ (H1.1 372 10) ∧ (H1.1 372 10) ≤ 6 := kn (x := kx_372) hI1 rfl 10
    refine h_ige (off := 24) (t := 44) rfl rfl (by omega) (by omega) (fun c9 => ?_) (fun c9 => ?_)
    · refine k_run 0 (pc' := 44) (l' := [(0, .inr (.inr 372)), (1, .inr (.inr e)), (2, .inl x2)]) (st' := []) rfl ?_
      refine h_ret rfl rfl ?_
      exact ⟨rfl, hI1, hf1⟩
    · refine k_run 0 (pc' := 23) (l' := [(0, .inr (.inr 372)), (1, .inr (.inr e)), (2, .inl x2)]) (st' := []) rfl ?_
      refine k_run 3 (pc' := 28) (l' := [(0, .inr (.inr 372)), (1, .inr (.inr e)), (2, .inl x2)]) (st' := [.inl x2, .inr (.inr 377)]) rfl ?_
      refine k_ald (c := 377) (j := (x2).toNat) (i := x2) (x := kx_377) rfl rfl (by decide) rfl (by decide) (by omega) (by omega) hI1 (fun h10 => ?_)
      obtain ⟨t11, et13⟩ : ∃ t9, t9 = H1.2 377 (x2).toNat := ⟨_, rfl⟩
      rw [← et13] at h10 ⊢
      obtain ⟨n14, k12⟩ := (show (∃ n, isT t11 n) ∧ 369 < t11 from h10).1
      have k12b := k12.2.2.2.2
      refine k_run 0 (pc' := 29) (l' := [(0, .inr (.inr 372)), (1, .inr (.inr e)), (2, .inl x2)]) (st' := [.inr (.inr t11)]) rfl ?_
      refine k_run 3 (pc' := 34) (l' := [(0, .inr (.inr 372)), (1, .inr (.inr e)), (2, .inl x2)]) (st' := [.inl x2, .inr (.inr 376), .inr (.inr t11)]) rfl ?_
      refine k_ald (c := 376) (j := (x2).toNat) (i := x2) (x := kx_376) rfl rfl (by decide) rfl (by decide) (by omega) (by omega) hI1 (fun h15 => ?_)
      obtain ⟨t16, et18⟩ : ∃ t9, t9 = H1.2 376 (x2).toNat := ⟨_, rfl⟩
      rw [← et18] at h15 ⊢
      obtain ⟨n19, k17⟩ := (show (∃ n, isT t16 n) ∧ 369 < t16 from h15).1
      have k17b := k17.2.2.2.2
      refine k_run 0 (pc' := 35) (l' := [(0, .inr (.inr 372)), (1, .inr (.inr e)), (2, .inl x2)]) (st' := [.inr (.inr t16), .inr (.inr t11)]) rfl ?_
      refine h_cv (i := 104) (j := 55) (b := t11) (M' := mt_55) (xs := [.inr (.inr t16)]) (rest := []) rfl rfl rfl rfl (by rw [zs_K k12.1 (iT0 k12)]; rfl) rfl (Nat.le_of_ble_eq_true rfl) (Nat.le_of_ble_eq_true rfl) (by omega) (k_Term_copy (by omega) hI1 k12 k17) ?_
      rintro _ H21 ⟨rfl, hI22, hq23⟩
      have hf24 : fq [(372, 10)] [] false H H21 := fq_t hf1 hq23 rfl rfl rfl
      refine k_run 0 (pc' := 38) (l' := [(0, .inr (.inr 372)), (1, .inr (.inr e)), (2, .inl x2)]) (st' := []) rfl ?_
      refine k_run 2 (pc' := 15) (l' := [(0, .inr (.inr 372)), (1, .inr (.inr e)), (2, .inl (x2 + 1))]) (st' := []) rfl ?_
      exact ih H21 hI22 hf24 (x2 + 1) (by omega) (by omega) (by omega)
set_option maxRecDepth 100000 in
theorem k_Trial_tellRow {d : Nat} (hd : 2 ≤ d) {H : hp} (hI : Inv H) {e : Nat} (he : isE e) : hG (zs zK) d mt_104 0 (zargs 0 [.inr (.inr 372), .inr (.inr e)]) [] H (fun r9 H9 => r9 = none ∧ Inv H9 ∧ fq [(372, 10)] [] false H H9) := by
  refine k_run 0 (pc' := 0) (l' := [(0, .inr (.inr 372)), (1, .inr (.inr e))]) (st' := []) rfl ?_
  refine k_run 2 (pc' := 2) (l' := [(0, .inr (.inr 372)), (1, .inr (.inr e))]) (st' := [.inr (.inr e), .inr (.inr 372)]) rfl ?_
  refine k_get (a := e) (x := (kEo e)) (v := .inl (H.1 e 3)) rfl rfl he.1 (iE0 he) rfl rfl rfl ?_
  have g1 : 0 ≤ (H.1 e 3) ∧ (H.1 e 3) ≤ 40 := kn hI he.1 3
  refine k_run 0 (pc' := 5) (l' := [(0, .inr (.inr 372)), (1, .inr (.inr e))]) (st' := [.inl (H.1 e 3), .inr (.inr 372)]) rfl ?_
  refine k_run 1 (pc' := 7) (l' := [(0, .inr (.inr 372)), (1, .inr (.inr e))]) (st' := [.inl 6, .inl (H.1 e 3), .inr (.inr 372)]) rfl ?_
  refine k_min (i := 101) (x := (H.1 e 3)) (y := 6) rfl rfl (Nat.le_of_ble_eq_true rfl) (by omega) (by omega) (by decide) (fun z2 hz2 => ?_)
  refine k_run 0 (pc' := 10) (l' := [(0, .inr (.inr 372)), (1, .inr (.inr e))]) (st' := [.inl z2, .inr (.inr 372)]) rfl ?_
  refine k_puti (z := z2) (a := 372) (x := kx_372) rfl rfl rfl (by decide) (by decide) rfl rfl rfl rfl hI (by omega) (show -1 ≤ z2 ∧ z2 ≤ 6 by omega) (fun H3 hI4 hw5 hv6 => ?_)
  have hf7 : fq [(372, 10)] [] false H H3 := fq_w (fq_rf _ _ _ _) hw5 (fpo (by decide) rfl)
  refine k_run 0 (pc' := 13) (l' := [(0, .inr (.inr 372)), (1, .inr (.inr e))]) (st' := []) rfl ?_
  refine k_run 2 (pc' := 15) (l' := [(0, .inr (.inr 372)), (1, .inr (.inr e)), (2, .inl 0)]) (st' := []) rfl ?_
  exact (k_Trial_tellRow_cut hd hI he _) H3 hI4 hf7 (0 : Int) (by decide) (by omega) (Nat.lt_succ_self _)

/-! Trial.tryRow -/
set_option maxRecDepth 100000 in
theorem k_Trial_tryRow {d : Nat} (hd : 20 ≤ d) {H : hp} (hI : Inv H) {e : Nat} {a : Int} (he : isE e) (ha : -2147483648 ≤ a ∧ a ≤ 2147483647) : hG (zs zK) d mt_103 0 (zargs 0 [.inr (.inr 372), .inr (.inr e), .inl a]) [] H (fun r9 H9 => ∃ z : Int, r9 = some (.inl z) ∧ ((-2147483648 ≤ z ∧ z ≤ 2147483647)) ∧ Inv H9 ∧ fq [(366, 4), (366, 5), (366, 6)] [367] false H H9) := by
  refine k_run 0 (pc' := 0) (l' := [(0, .inr (.inr 372)), (1, .inr (.inr e)), (2, .inl a)]) (st' := []) rfl ?_
  refine k_run 3 (pc' := 3) (l' := [(0, .inr (.inr 372)), (1, .inr (.inr e)), (2, .inl a)]) (st' := [.inl a, .inr (.inr e), .inr (.inr 372)]) rfl ?_
  refine h_cv (i := 76) (j := 111) (b := 372) (M' := mt_111) (xs := [.inl a, .inr (.inr e)]) (rest := []) rfl rfl rfl rfl (zs_K (x := kx_372) rfl (by decide)) rfl (Nat.le_of_ble_eq_true rfl) (Nat.le_of_ble_eq_true rfl) (by omega) (k_Trial_setValues (by omega) hI he (by omega)) ?_
  rintro _ H2 ⟨rfl, hI3, hq4⟩
  have hf5 : fq [(366, 4), (366, 5), (366, 6)] [367] false H H2 := fq_t (fq_rf _ _ _ _) hq4 rfl rfl rfl
  refine k_run 0 (pc' := 6) (l' := [(0, .inr (.inr 372)), (1, .inr (.inr e)), (2, .inl a)]) (st' := []) rfl ?_
  refine k_run 2 (pc' := 8) (l' := [(0, .inr (.inr 372)), (1, .inr (.inr e)), (2, .inl a)]) (st' := [.inr (.inr e), .inr (.inr 372)]) rfl ?_
  refine k_get (a := e) (x := (kEo e)) (v := .inr (.inr (e + 1))) rfl rfl he.1 (iE0 he) rfl rfl rfl ?_
  refine k_run 0 (pc' := 11) (l' := [(0, .inr (.inr 372)), (1, .inr (.inr e)), (2, .inl a)]) (st' := [.inr (.inr (e + 1)), .inr (.inr 372)]) rfl ?_
  refine k_run 2 (pc' := 15) (l' := [(0, .inr (.inr 372)), (1, .inr (.inr e)), (2, .inl a)]) (st' := [.inr (.inr 378), .inr (.inr (e + 1)), .inr (.inr 372)]) rfl ?_
  refine h_cv (i := 83) (j := 105) (b := 372) (M' := mt_105) (xs := [.inr (.inr 378), .inr (.inr (e + 1))]) (rest := []) rfl rfl rfl rfl (zs_K (x := kx_372) rfl (by decide)) rfl (Nat.le_of_ble_eq_true rfl) (Nat.le_of_ble_eq_true rfl) (by omega) (k_Trial_fill (by omega) hI3 (iEl he) iT_378) ?_
  rintro _ H7 ⟨rfl, hI8, hq9⟩
  have hf10 : fq [(366, 4), (366, 5), (366, 6)] [367] false H H7 := fq_t hf5 hq9 rfl rfl rfl
  refine k_run 0 (pc' := 18) (l' := [(0, .inr (.inr 372)), (1, .inr (.inr e)), (2, .inl a)]) (st' := []) rfl ?_
  refine k_run 2 (pc' := 20) (l' := [(0, .inr (.inr 372)), (1, .inr (.inr e)), (2, .inl a)]) (st' := [.inr (.inr e), .inr (.inr 372)]) rfl ?_
  refine k_get (a := e) (x := (kEo e)) (v := .inr (.inr (e + 3))) rfl rfl he.1 (iE0 he) rfl rfl rfl ?_
  refine k_run 0 (pc' := 23) (l' := [(0, .inr (.inr 372)), (1, .inr (.inr e)), (2, .inl a)]) (st' := [.inr (.inr (e + 3)), .inr (.inr 372)]) rfl ?_
  refine k_run 2 (pc' := 27) (l' := [(0, .inr (.inr 372)), (1, .inr (.inr e)), (2, .inl a)]) (st' := [.inr (.inr 380), .inr (.inr (e + 3)), .inr (.inr 372)]) rfl ?_
  refine h_cv (i := 83) (j := 105) (b := 372) (M' := mt_105) (xs := [.inr (.inr 380), .inr (.inr (e + 3))]) (rest := []) rfl rfl rfl rfl (zs_K (x := kx_372) rfl (by decide)) rfl (Nat.le_of_ble_eq_true rfl) (Nat.le_of_ble_eq_true rfl) (by omega) (k_Trial_fill (by omega) hI8 (iEr he) iT_380) ?_
  rintro _ H12 ⟨rfl, hI13, hq14⟩
  have hf15 : fq [(366, 4), (366, 5), (366, 6)] [367] false H H12 := fq_t hf10 hq14 rfl rfl rfl
  refine k_run 0 (pc' := 30) (l' := [(0, .inr (.inr 372)), (1, .inr (.inr e)), (2, .inl a)]) (st' := []) rfl ?_
  refine k_run 5 (pc' := 41) (l' := [(0, .inr (.inr 372)), (1, .inr (.inr e)), (2, .inl a)]) (st' := [.inl 300, .inr (.inr 378), .inr (.inr 366)]) rfl ?_
  refine h_cv (i := 88) (j := 99) (b := 366) (M' := mt_99) (xs := [.inl 300, .inr (.inr 378)]) (rest := []) rfl rfl rfl rfl (zs_K (x := kx_366) rfl (by decide)) rfl (Nat.le_of_ble_eq_true rfl) (Nat.le_of_ble_eq_true rfl) (by omega) (k_Rewriter_workOut (by omega) hI13 iT_378 (by decide) (by omega)) ?_
  rintro _ H17 ⟨z20, rfl, g16, hI18, hq19⟩
  have hf21 : fq [(366, 4), (366, 5), (366, 6)] [367] false H H17 := fq_t hf15 hq19 rfl rfl rfl
  refine k_run 0 (pc' := 44) (l' := [(0, .inr (.inr 372)), (1, .inr (.inr e)), (2, .inl a)]) (st' := [.inl z20]) rfl ?_
  refine h_zne (off := 20) (t := 64) rfl rfl (by omega) (fun c22 => ?_) (fun c22 => ?_)
  · refine k_run 0 (pc' := 64) (l' := [(0, .inr (.inr 372)), (1, .inr (.inr e)), (2, .inl a)]) (st' := []) rfl ?_
    refine k_run 1 (pc' := 65) (l' := [(0, .inr (.inr 372)), (1, .inr (.inr e)), (2, .inl a)]) (st' := [.inl 2]) rfl ?_
    refine h_reti (x := 2) rfl rfl ?_
    exact ⟨_, rfl, (by omega), hI18, hf21⟩
  · refine k_run 0 (pc' := 47) (l' := [(0, .inr (.inr 372)), (1, .inr (.inr e)), (2, .inl a)]) (st' := []) rfl ?_
    refine k_run 5 (pc' := 58) (l' := [(0, .inr (.inr 372)), (1, .inr (.inr e)), (2, .inl a)]) (st' := [.inl 300, .inr (.inr 380), .inr (.inr 366)]) rfl ?_
    refine h_cv (i := 88) (j := 99) (b := 366) (M' := mt_99) (xs := [.inl 300, .inr (.inr 380)]) (rest := []) rfl rfl rfl rfl (zs_K (x := kx_366) rfl (by decide)) rfl (Nat.le_of_ble_eq_true rfl) (Nat.le_of_ble_eq_true rfl) (by omega) (k_Rewriter_workOut (by omega) hI18 iT_380 (by decide) (by omega)) ?_
    rintro _ H24 ⟨z27, rfl, g23, hI25, hq26⟩
    have hf28 : fq [(366, 4), (366, 5), (366, 6)] [367] false H H24 := fq_t hf21 hq26 rfl rfl rfl
    refine k_run 0 (pc' := 61) (l' := [(0, .inr (.inr 372)), (1, .inr (.inr e)), (2, .inl a)]) (st' := [.inl z27]) rfl ?_
    refine h_zeq (off := 5) (t := 66) rfl rfl (by omega) (fun c29 => ?_) (fun c29 => ?_)
    · refine k_run 0 (pc' := 66) (l' := [(0, .inr (.inr 372)), (1, .inr (.inr e)), (2, .inl a)]) (st' := []) rfl ?_
      refine k_run 4 (pc' := 74) (l' := [(0, .inr (.inr 372)), (1, .inr (.inr e)), (2, .inl a)]) (st' := [.inr (.inr 380), .inr (.inr 378)]) rfl ?_
      refine h_cv (i := 94) (j := 57) (b := 378) (M' := mt_57) (xs := [.inr (.inr 380)]) (rest := []) rfl rfl rfl rfl (by rw [zs_K iT_378.1 (iT0 iT_378)]; rfl) rfl (Nat.le_of_ble_eq_true rfl) (Nat.le_of_ble_eq_true rfl) (by omega) (k_Term_isLike (by omega) hI25 iT_378 iT_380) ?_
      rintro _ _ ⟨z34, rfl, g30, rfl⟩
      refine k_run 0 (pc' := 77) (l' := [(0, .inr (.inr 372)), (1, .inr (.inr e)), (2, .inl a)]) (st' := [.inl z34]) rfl ?_
      refine h_zeq (off := 7) (t := 84) rfl rfl (by omega) (fun c35 => ?_) (fun c35 => ?_)
      · refine k_run 0 (pc' := 84) (l' := [(0, .inr (.inr 372)), (1, .inr (.inr e)), (2, .inl a)]) (st' := []) rfl ?_
        refine k_run 1 (pc' := 85) (l' := [(0, .inr (.inr 372)), (1, .inr (.inr e)), (2, .inl a)]) (st' := [.inl 1]) rfl ?_
        refine h_reti (x := 1) rfl rfl ?_
        exact ⟨_, rfl, (by omega), hI25, hf28⟩
      · refine k_run 0 (pc' := 80) (l' := [(0, .inr (.inr 372)), (1, .inr (.inr e)), (2, .inl a)]) (st' := []) rfl ?_
        refine k_run 2 (pc' := 85) (l' := [(0, .inr (.inr 372)), (1, .inr (.inr e)), (2, .inl a)]) (st' := [.inl 0]) rfl ?_
        refine h_reti (x := 0) rfl rfl ?_
        exact ⟨_, rfl, (by omega), hI25, hf28⟩
    · refine k_run 0 (pc' := 64) (l' := [(0, .inr (.inr 372)), (1, .inr (.inr e)), (2, .inl a)]) (st' := []) rfl ?_
      refine k_run 1 (pc' := 65) (l' := [(0, .inr (.inr 372)), (1, .inr (.inr e)), (2, .inl a)]) (st' := [.inl 2]) rfl ?_
      refine h_reti (x := 2) rfl rfl ?_
      exact ⟨_, rfl, (by omega), hI25, hf28⟩

/-! Trial.tryLaw -/
set_option maxRecDepth 100000 in
theorem k_Trial_tryLaw_cut {d : Nat} (hd : 21 ≤ d) {H : hp} (hI : Inv H) {e : Nat} {b : Int} {c : Int} (he : isE e) (hb : -2147483648 ≤ b ∧ b ≤ 2147483647) (hc : 0 ≤ c ∧ c ≤ 1) (hp0 : 1 ≤ b ∧ b ≤ 6) : ∀ w : Nat, (∀ (H1 : hp), Inv H1 → fq [(366, 4), (366, 5), (366, 6), (372, 9), (372, 10)] [367, 373, 374, 375] false H H1 → ∀ (x4 : Int) (x5 : Int) (x6 : Int) , (-2147483648 ≤ x4 ∧ x4 ≤ 2147483647) → (-2147483648 ≤ x5 ∧ x5 ≤ 2147483647) → (-2147483648 ≤ x6 ∧ x6 ≤ 2147483647) → (0 ≤ x6) → (x4 ≤ 2000) → (((3000 - x6).toNat) < w) → hG (zs zK) d mt_102 35 [(0, .inr (.inr 372)), (1, .inr (.inr e)), (2, .inl b), (3, .inl c), (4, .inl x4), (5, .inl x5), (6, .inl x6)] [] H1 (fun r9 H9 => ∃ z : Int, r9 = some (.inl z) ∧ ((-2147483648 ≤ z ∧ z ≤ 2147483647)) ∧ Inv H9 ∧ fq [(366, 4), (366, 5), (366, 6), (372, 9), (372, 10)] [367, 373, 374, 375] false H H9)) := by
  intro w
  induction w with
  | zero => exact fun _ _ _ _ _ _ _ _ _ _ _ h => absurd h (Nat.not_lt_zero _)
  | succ w ih =>
    intro H1 hI1 hf1 x4 x5 x6 hx4 hx5 hx6 hi0 hi1 hw
    refine k_run 2 (pc' := 39) (l' := [(0, .inr (.inr 372)), (1, .inr (.inr e)), (2, .inl b), (3, .inl c), (4, .inl x4), (5, .inl x5), (6, .inl x6)]) (st' := [.inl x4, .inl x6]) rfl ?_
    refine h_ige (off := 40) (t := 79) rfl rfl (by omega) (by omega) (fun c18 => ?_) (fun c18 => ?_)
    · refine k_run 0 (pc' := 79) (l' := [(0, .inr (.inr 372)), (1, .inr (.inr e)), (2, .inl b), (3, .inl c), (4, .inl x4), (5, .inl x5), (6, .inl x6)]) (st' := []) rfl ?_
      refine k_run 1 (pc' := 81) (l' := [(0, .inr (.inr 372)), (1, .inr (.inr e)), (2, .inl b), (3, .inl c), (4, .inl x4), (5, .inl x5), (6, .inl x6)]) (st' := [.inl x5]) rfl ?_
      refine h_reti (x := x5) rfl rfl ?_
      exact ⟨_, rfl, (by omega), hI1, hf1⟩
    · refine k_run 0 (pc' := 42) (l' := [(0, .inr (.inr 372)), (1, .inr (.inr e)), (2, .inl b), (3, .inl c), (4, .inl x4), (5, .inl x5), (6, .inl x6)]) (st' := []) rfl ?_
      refine k_run 3 (pc' := 46) (l' := [(0, .inr (.inr 372)), (1, .inr (.inr e)), (2, .inl b), (3, .inl c), (4, .inl x4), (5, .inl x5), (6, .inl x6)]) (st' := [.inl x6, .inr (.inr e), .inr (.inr 372)]) rfl ?_
      refine h_cv (i := 63) (j := 103) (b := 372) (M' := mt_103) (xs := [.inl x6, .inr (.inr e)]) (rest := []) rfl rfl rfl rfl (zs_K (x := kx_372) rfl (by decide)) rfl (Nat.le_of_ble_eq_true rfl) (Nat.le_of_ble_eq_true rfl) (by omega) (k_Trial_tryRow (by omega) hI1 he (by omega)) ?_
      rintro _ H20 ⟨z23, rfl, g19, hI21, hq22⟩
      have hf24 : fq [(366, 4), (366, 5), (366, 6), (372, 9), (372, 10)] [367, 373, 374, 375] false H H20 := fq_t hf1 hq22 rfl rfl rfl
      refine k_run 0 (pc' := 49) (l' := [(0, .inr (.inr 372)), (1, .inr (.inr e)), (2, .inl b), (3, .inl c), (4, .inl x4), (5, .inl x5), (6, .inl x6)]) (st' := [.inl z23]) rfl ?_
      refine k_run 3 (pc' := 54) (l' := [(0, .inr (.inr 372)), (1, .inr (.inr e)), (2, .inl b), (3, .inl c), (4, .inl x4), (5, .inl x5), (6, .inl x6), (7, .inl z23)]) (st' := [.inl 1, .inl z23]) rfl ?_
      refine h_ine (off := 10) (t := 64) rfl rfl (by omega) (by decide) (fun c25 => ?_) (fun c25 => ?_)
      · refine k_run 0 (pc' := 64) (l' := [(0, .inr (.inr 372)), (1, .inr (.inr e)), (2, .inl b), (3, .inl c), (4, .inl x4), (5, .inl x5), (6, .inl x6), (7, .inl z23)]) (st' := []) rfl ?_
        refine k_run 2 (pc' := 68) (l' := [(0, .inr (.inr 372)), (1, .inr (.inr e)), (2, .inl b), (3, .inl c), (4, .inl x4), (5, .inl x5), (6, .inl x6), (7, .inl z23)]) (st' := [.inl z23, .inl x5]) rfl ?_
        refine k_max (i := 70) (x := x5) (y := z23) rfl rfl (Nat.le_of_ble_eq_true rfl) (by omega) (by omega) (by omega) (fun z26 hz26 => ?_)
        refine k_run 0 (pc' := 71) (l' := [(0, .inr (.inr 372)), (1, .inr (.inr e)), (2, .inl b), (3, .inl c), (4, .inl x4), (5, .inl x5), (6, .inl x6), (7, .inl z23)]) (st' := [.inl z26]) rfl ?_
        refine k_run 3 (pc' := 35) (l' := [(0, .inr (.inr 372)), (1, .inr (.inr e)), (2, .inl b), (3, .inl c), (4, .inl x4), (5, .inl z26), (6, .inl (x6 + 1)), (7, .inl z23)]) (st' := []) rfl ?_
        refine h_loc [0, 1, 2, 3, 4, 5, 6] rfl ?_
        exact ih H20 hI21 hf24 x4 z26 (x6 + 1) (by omega) (by omega) (by omega) (by omega) (by omega) (by omega)
      · refine k_run 0 (pc' := 57) (l' := [(0, .inr (.inr 372)), (1, .inr (.inr e)), (2, .inl b), (3, .inl c), (4, .inl x4), (5, .inl x5), (6, .inl x6), (7, .inl z23)]) (st' := []) rfl ?_
        refine k_run 2 (pc' := 59) (l' := [(0, .inr (.inr 372)), (1, .inr (.inr e)), (2, .inl b), (3, .inl c), (4, .inl x4), (5, .inl x5), (6, .inl x6), (7, .inl z23)]) (st' := [.inr (.inr e), .inr (.inr 372)]) rfl ?_
        refine h_cv (i := 66) (j := 104) (b := 372) (M' := mt_104) (xs := [.inr (.inr e)]) (rest := []) rfl rfl rfl rfl (zs_K (x := kx_372) rfl (by decide)) rfl (Nat.le_of_ble_eq_true rfl) (Nat.le_of_ble_eq_true rfl) (by omega) (k_Trial_tellRow (by omega) hI21 he) ?_
        rintro _ H28 ⟨rfl, hI29, hq30⟩
        have hf31 : fq [(366, 4), (366, 5), (366, 6), (372, 9), (372, 10)] [367, 373, 374, 375] false H H28 := fq_t hf24 hq30 rfl rfl rfl
        refine k_run 0 (pc' := 62) (l' := [(0, .inr (.inr 372)), (1, .inr (.inr e)), (2, .inl b), (3, .inl c), (4, .inl x4), (5, .inl x5), (6, .inl x6), (7, .inl z23)]) (st' := []) rfl ?_
        refine k_run 1 (pc' := 63) (l' := [(0, .inr (.inr 372)), (1, .inr (.inr e)), (2, .inl b), (3, .inl c), (4, .inl x4), (5, .inl x5), (6, .inl x6), (7, .inl z23)]) (st' := [.inl 1]) rfl ?_
        refine h_reti (x := 1) rfl rfl ?_
        exact ⟨_, rfl, (by omega), hI29, hf31⟩
set_option maxRecDepth 100000 in
theorem k_Trial_tryLaw {d : Nat} (hd : 21 ≤ d) {H : hp} (hI : Inv H) {e : Nat} {b : Int} {c : Int} (he : isE e) (hb : -2147483648 ≤ b ∧ b ≤ 2147483647) (hc : 0 ≤ c ∧ c ≤ 1) (hp0 : 1 ≤ b ∧ b ≤ 6) : hG (zs zK) d mt_102 0 (zargs 0 [.inr (.inr 372), .inr (.inr e), .inl b, .inl c]) [] H (fun r9 H9 => ∃ z : Int, r9 = some (.inl z) ∧ ((-2147483648 ≤ z ∧ z ≤ 2147483647)) ∧ Inv H9 ∧ fq [(366, 4), (366, 5), (366, 6), (372, 9), (372, 10)] [367, 373, 374, 375] false H H9) := by
  refine k_run 0 (pc' := 0) (l' := [(0, .inr (.inr 372)), (1, .inr (.inr e)), (2, .inl b), (3, .inl c)]) (st' := []) rfl ?_
  refine k_run 2 (pc' := 2) (l' := [(0, .inr (.inr 372)), (1, .inr (.inr e)), (2, .inl b), (3, .inl c)]) (st' := [.inl c, .inr (.inr 372)]) rfl ?_
  refine k_putz (z := c) (a := 372) (x := kx_372) rfl rfl rfl (by decide) (by decide) rfl rfl rfl rfl hI (by omega) rfl (fun H1 hI2 hw3 hv4 => ?_)
  have hf5 : fq [(366, 4), (366, 5), (366, 6), (372, 9), (372, 10)] [367, 373, 374, 375] false H H1 := fq_w (fq_rf _ _ _ _) hw3 (fpo (by decide) rfl)
  refine k_run 0 (pc' := 5) (l' := [(0, .inr (.inr 372)), (1, .inr (.inr e)), (2, .inl b), (3, .inl c)]) (st' := []) rfl ?_
  refine k_run 2 (pc' := 7) (l' := [(0, .inr (.inr 372)), (1, .inr (.inr e)), (2, .inl b), (3, .inl c)]) (st' := [.inl b, .inr (.inr 372)]) rfl ?_
  refine h_cv (i := 56) (j := 106) (b := 372) (M' := mt_106) (xs := [.inl b]) (rest := []) rfl rfl rfl rfl (zs_K (x := kx_372) rfl (by decide)) rfl (Nat.le_of_ble_eq_true rfl) (Nat.le_of_ble_eq_true rfl) (by omega) (k_Trial_countValues (by omega) hI2 (by omega) (by omega)) ?_
  rintro _ H7 ⟨rfl, hI8, hq9⟩
  have hf10 : fq [(366, 4), (366, 5), (366, 6), (372, 9), (372, 10)] [367, 373, 374, 375] false H H7 := fq_t hf5 hq9 rfl rfl rfl
  refine k_run 0 (pc' := 10) (l' := [(0, .inr (.inr 372)), (1, .inr (.inr e)), (2, .inl b), (3, .inl c)]) (st' := []) rfl ?_
  refine k_run 3 (pc' := 13) (l' := [(0, .inr (.inr 372)), (1, .inr (.inr e)), (2, .inl b), (3, .inl c)]) (st' := [.inl b, .inr (.inr e), .inr (.inr 372)]) rfl ?_
  refine h_cv (i := 59) (j := 110) (b := 372) (M' := mt_110) (xs := [.inl b, .inr (.inr e)]) (rest := []) rfl rfl rfl rfl (zs_K (x := kx_372) rfl (by decide)) rfl (Nat.le_of_ble_eq_true rfl) (Nat.le_of_ble_eq_true rfl) (by omega) (k_Trial_countRows (by omega) hI8 he (by omega) (by omega)) ?_
  rintro _ H12 ⟨z15, rfl, g11, hI13, hq14⟩
  have hf16 : fq [(366, 4), (366, 5), (366, 6), (372, 9), (372, 10)] [367, 373, 374, 375] false H H12 := fq_t hf10 hq14 rfl rfl rfl
  refine k_run 0 (pc' := 16) (l' := [(0, .inr (.inr 372)), (1, .inr (.inr e)), (2, .inl b), (3, .inl c)]) (st' := [.inl z15]) rfl ?_
  refine k_run 3 (pc' := 23) (l' := [(0, .inr (.inr 372)), (1, .inr (.inr e)), (2, .inl b), (3, .inl c), (4, .inl z15)]) (st' := [.inl 2000, .inl z15]) rfl ?_
  refine h_ile (off := 6) (t := 29) rfl rfl (by omega) (by decide) (fun c17 => ?_) (fun c17 => ?_)
  · refine k_run 0 (pc' := 29) (l' := [(0, .inr (.inr 372)), (1, .inr (.inr e)), (2, .inl b), (3, .inl c), (4, .inl z15)]) (st' := []) rfl ?_
    refine k_run 4 (pc' := 35) (l' := [(0, .inr (.inr 372)), (1, .inr (.inr e)), (2, .inl b), (3, .inl c), (4, .inl z15), (5, .inl 0), (6, .inl 0)]) (st' := []) rfl ?_
    exact (k_Trial_tryLaw_cut hd hI he hb hc hp0 _) H12 hI13 hf16 z15 (0 : Int) (0 : Int) (by omega) (by decide) (by decide) (by omega) (by omega) (Nat.lt_succ_self _)
  · refine k_run 0 (pc' := 26) (l' := [(0, .inr (.inr 372)), (1, .inr (.inr e)), (2, .inl b), (3, .inl c), (4, .inl z15)]) (st' := []) rfl ?_
    refine k_run 1 (pc' := 28) (l' := [(0, .inr (.inr 372)), (1, .inr (.inr e)), (2, .inl b), (3, .inl c), (4, .inl z15)]) (st' := [.inl (-105)]) rfl ?_
    refine h_reti (x := (-105)) rfl rfl ?_
    exact ⟨_, rfl, (by omega), hI13, hf16⟩
