/-! the class: terms -/
theorem iT_368 : isT 368 1 := ⟨rfl, rfl, by decide, by decide, by decide⟩
theorem iT_370 : isT 370 120 := ⟨rfl, rfl, by decide, by decide, by decide⟩
theorem iT_378 : isT 378 240 := ⟨rfl, rfl, by decide, by decide, by decide⟩
theorem iT_380 : isT 380 240 := ⟨rfl, rfl, by decide, by decide, by decide⟩
theorem iT_1350 : isT 1350 60 := ⟨rfl, rfl, by decide, by decide, by decide⟩
theorem iT_1352 : isT 1352 60 := ⟨rfl, rfl, by decide, by decide, by decide⟩
theorem iT_1354 : isT 1354 4 := ⟨rfl, rfl, by decide, by decide, by decide⟩
theorem iT_1824 : isT 1824 120 := ⟨rfl, rfl, by decide, by decide, by decide⟩
theorem iA_880 : isA 880 60 := ⟨0, rfl, by decide, by decide, by decide⟩

/-! Term.codeOf -/
set_option maxRecDepth 100000 in
theorem k_Term_codeOf {d : Nat} (hd : 1 ≤ d) {H : hp} {a : Int} {b : Int} {c : Int} (ha : -2147483648 ≤ a ∧ a ≤ 2147483647) (hb : -2147483648 ≤ b ∧ b ≤ 2147483647) (hc : -2147483648 ≤ c ∧ c ≤ 2147483647) : hG (zs zK) d mt_48 0 (zargs 0 [.inl a, .inl b, .inl c]) [] H (fun r9 H9 => ∃ z : Int, r9 = some (.inl z) ∧ ((-2147483648 ≤ z ∧ z ≤ 2147483647)) ∧ H = H9) := by
  refine k_run 0 (pc' := 0) (l' := [(0, .inl a), (1, .inl b), (2, .inl c)]) (st' := []) rfl ?_
  refine k_run 3 (pc' := 4) (l' := [(0, .inl a), (1, .inl b), (2, .inl c)]) (st' := [.inl (z_shl a 10)]) rfl ?_
  refine k_nrm (fun y1 hy1 => ?_)
  refine k_run 0 (pc' := 4) (l' := [(0, .inl a), (1, .inl b), (2, .inl c)]) (st' := [.inl y1]) rfl ?_
  refine k_run 3 (pc' := 8) (l' := [(0, .inl a), (1, .inl b), (2, .inl c)]) (st' := [.inl (z_and b 127), .inl y1]) rfl ?_
  have g2 : 0 ≤ (z_and b 127) ∧ (z_and b 127) ≤ 127 := z_and_le _ 127 (by decide)
  refine k_run 2 (pc' := 10) (l' := [(0, .inl a), (1, .inl b), (2, .inl c)]) (st' := [.inl (z_shl (z_and b 127) 3), .inl y1]) rfl ?_
  refine k_nrm (fun y3 hy3 => ?_)
  refine k_run 0 (pc' := 10) (l' := [(0, .inl a), (1, .inl b), (2, .inl c)]) (st' := [.inl y3, .inl y1]) rfl ?_
  refine k_run 1 (pc' := 11) (l' := [(0, .inl a), (1, .inl b), (2, .inl c)]) (st' := [.inl (z_or y1 y3)]) rfl ?_
  refine k_nrm (fun y4 hy4 => ?_)
  refine k_run 0 (pc' := 11) (l' := [(0, .inl a), (1, .inl b), (2, .inl c)]) (st' := [.inl y4]) rfl ?_
  refine k_run 3 (pc' := 15) (l' := [(0, .inl a), (1, .inl b), (2, .inl c)]) (st' := [.inl (z_and c 7), .inl y4]) rfl ?_
  have g5 : 0 ≤ (z_and c 7) ∧ (z_and c 7) ≤ 7 := z_and_le _ 7 (by decide)
  refine k_run 1 (pc' := 16) (l' := [(0, .inl a), (1, .inl b), (2, .inl c)]) (st' := [.inl (z_or y4 (z_and c 7))]) rfl ?_
  refine k_nrm (fun y6 hy6 => ?_)
  refine k_run 0 (pc' := 16) (l' := [(0, .inl a), (1, .inl b), (2, .inl c)]) (st' := [.inl y6]) rfl ?_
  refine h_reti (x := y6) rfl rfl ?_
  exact ⟨_, rfl, (by omega), rfl⟩

/-! Term.kindOf -/
set_option maxRecDepth 100000 in
theorem k_Term_kindOf {d : Nat} (hd : 1 ≤ d) {H : hp} {a : Int} (ha : -2147483648 ≤ a ∧ a ≤ 2147483647) : hG (zs zK) d mt_49 0 (zargs 0 [.inl a]) [] H (fun r9 H9 => ∃ z : Int, r9 = some (.inl z) ∧ ((-2147483648 ≤ z ∧ z ≤ 2147483647)) ∧ H = H9) := by
  refine k_run 0 (pc' := 0) (l' := [(0, .inl a)]) (st' := []) rfl ?_
  refine k_run 3 (pc' := 4) (l' := [(0, .inl a)]) (st' := [.inl (z_shr a 10)]) rfl ?_
  refine k_nrm (fun y1 hy1 => ?_)
  refine k_run 0 (pc' := 4) (l' := [(0, .inl a)]) (st' := [.inl y1]) rfl ?_
  refine h_reti (x := y1) rfl rfl ?_
  exact ⟨_, rfl, (by omega), rfl⟩

/-! Term.indexOf -/
set_option maxRecDepth 100000 in
theorem k_Term_indexOf {d : Nat} (hd : 1 ≤ d) {H : hp} {a : Int} (ha : -2147483648 ≤ a ∧ a ≤ 2147483647) : hG (zs zK) d mt_50 0 (zargs 0 [.inl a]) [] H (fun r9 H9 => ∃ z : Int, r9 = some (.inl z) ∧ ((-2147483648 ≤ z ∧ z ≤ 2147483647) ∧ (0 ≤ z ∧ z ≤ 127)) ∧ H = H9) := by
  refine k_run 0 (pc' := 0) (l' := [(0, .inl a)]) (st' := []) rfl ?_
  refine k_run 3 (pc' := 3) (l' := [(0, .inl a)]) (st' := [.inl (z_shr a 3)]) rfl ?_
  refine k_nrm (fun y1 hy1 => ?_)
  refine k_run 0 (pc' := 3) (l' := [(0, .inl a)]) (st' := [.inl y1]) rfl ?_
  refine k_run 2 (pc' := 6) (l' := [(0, .inl a)]) (st' := [.inl (z_and y1 127)]) rfl ?_
  have g2 : 0 ≤ (z_and y1 127) ∧ (z_and y1 127) ≤ 127 := z_and_le _ 127 (by decide)
  refine h_reti (x := (z_and y1 127)) rfl rfl ?_
  exact ⟨_, rfl, (by omega), rfl⟩

/-! Term.codeAt -/
set_option maxRecDepth 100000 in
theorem k_Term_codeAt {d : Nat} (hd : 1 ≤ d) {H : hp} (hI : Inv H) {t n : Nat} {a : Int} (ht : isT t n) (ha : -2147483648 ≤ a ∧ a ≤ 2147483647) : hG (zs zK) d mt_51 0 (zargs 0 [.inr (.inr t), .inl a]) [] H (fun r9 H9 => ∃ z : Int, r9 = some (.inl z) ∧ ((-2147483648 ≤ z ∧ z ≤ 2147483647)) ∧ H = H9) := by
  have htb := ht.2.2.2.2
  refine k_run 0 (pc' := 0) (l' := [(0, .inr (.inr t)), (1, .inl a)]) (st' := []) rfl ?_
  refine k_run 1 (pc' := 1) (l' := [(0, .inr (.inr t)), (1, .inl a)]) (st' := [.inl a]) rfl ?_
  refine h_zlt (off := 20) (t := 21) rfl rfl (by omega) (fun c1 => ?_) (fun c1 => ?_)
  · refine k_run 0 (pc' := 21) (l' := [(0, .inr (.inr t)), (1, .inl a)]) (st' := []) rfl ?_
    refine k_run 1 (pc' := 22) (l' := [(0, .inr (.inr t)), (1, .inl a)]) (st' := [.inl 0]) rfl ?_
    refine h_reti (x := 0) rfl rfl ?_
    exact ⟨_, rfl, (by omega), rfl⟩
  · refine k_run 0 (pc' := 4) (l' := [(0, .inr (.inr t)), (1, .inl a)]) (st' := []) rfl ?_
    refine k_run 2 (pc' := 6) (l' := [(0, .inr (.inr t)), (1, .inl a)]) (st' := [.inr (.inr t), .inl a]) rfl ?_
    refine k_get (a := t) (x := (kTo t n)) (v := .inl (H.1 t 1)) rfl rfl ht.1 (iT0 ht) rfl rfl rfl ?_
    have g2 : 0 ≤ (H.1 t 1) ∧ (H.1 t 1) ≤ n := kn hI ht.1 1
    refine k_run 0 (pc' := 9) (l' := [(0, .inr (.inr t)), (1, .inl a)]) (st' := [.inl (H.1 t 1), .inl a]) rfl ?_
    refine h_ige (off := 12) (t := 21) rfl rfl (by omega) (by omega) (fun c3 => ?_) (fun c3 => ?_)
    · refine k_run 0 (pc' := 21) (l' := [(0, .inr (.inr t)), (1, .inl a)]) (st' := []) rfl ?_
      refine k_run 1 (pc' := 22) (l' := [(0, .inr (.inr t)), (1, .inl a)]) (st' := [.inl 0]) rfl ?_
      refine h_reti (x := 0) rfl rfl ?_
      exact ⟨_, rfl, (by omega), rfl⟩
    · refine k_run 0 (pc' := 12) (l' := [(0, .inr (.inr t)), (1, .inl a)]) (st' := []) rfl ?_
      refine k_run 1 (pc' := 13) (l' := [(0, .inr (.inr t)), (1, .inl a)]) (st' := [.inr (.inr t)]) rfl ?_
      refine k_get (a := t) (x := (kTo t n)) (v := .inr (.inr (t + 1))) rfl rfl ht.1 (iT0 ht) rfl rfl rfl ?_
      refine k_run 0 (pc' := 16) (l' := [(0, .inr (.inr t)), (1, .inl a)]) (st' := [.inr (.inr (t + 1))]) rfl ?_
      refine k_run 1 (pc' := 17) (l' := [(0, .inr (.inr t)), (1, .inl a)]) (st' := [.inl a, .inr (.inr (t + 1))]) rfl ?_
      refine k_ild (c := (t + 1)) (j := (a).toNat) (i := a) (x := (kTc n)) rfl ht.2.1 (iT1 ht) rfl (by omega) (by omega) (by omega) ?_
      have g4 : -2147483648 ≤ (H.1 (t + 1) (a).toNat) ∧ (H.1 (t + 1) (a).toNat) ≤ 2147483647 := kn hI ht.2.1 (a).toNat
      refine k_run 0 (pc' := 18) (l' := [(0, .inr (.inr t)), (1, .inl a)]) (st' := [.inl (H.1 (t + 1) (a).toNat)]) rfl ?_
      refine k_run 1 (pc' := 22) (l' := [(0, .inr (.inr t)), (1, .inl a)]) (st' := [.inl (H.1 (t + 1) (a).toNat)]) rfl ?_
      refine h_reti (x := (H.1 (t + 1) (a).toNat)) rfl rfl ?_
      exact ⟨_, rfl, (by omega), rfl⟩

/-! Term.put -/
set_option maxRecDepth 100000 in
theorem k_Term_put {d : Nat} (hd : 1 ≤ d) {H : hp} (hI : Inv H) {t n : Nat} {a : Int} (ht : isT t n) (ha : -2147483648 ≤ a ∧ a ≤ 2147483647) : hG (zs zK) d mt_52 0 (zargs 0 [.inr (.inr t), .inl a]) [] H (fun r9 H9 => r9 = none ∧ Inv H9 ∧ fq [] [] false H H9) := by
  have htb := ht.2.2.2.2
  refine k_run 0 (pc' := 0) (l' := [(0, .inr (.inr t)), (1, .inl a)]) (st' := []) rfl ?_
  refine k_run 1 (pc' := 1) (l' := [(0, .inr (.inr t)), (1, .inl a)]) (st' := [.inr (.inr t)]) rfl ?_
  refine k_get (a := t) (x := (kTo t n)) (v := .inl (H.1 t 1)) rfl rfl ht.1 (iT0 ht) rfl rfl rfl ?_
  have g1 : 0 ≤ (H.1 t 1) ∧ (H.1 t 1) ≤ n := kn hI ht.1 1
  refine k_run 0 (pc' := 4) (l' := [(0, .inr (.inr t)), (1, .inl a)]) (st' := [.inl (H.1 t 1)]) rfl ?_
  refine k_run 1 (pc' := 5) (l' := [(0, .inr (.inr t)), (1, .inl a)]) (st' := [.inr (.inr t), .inl (H.1 t 1)]) rfl ?_
  refine k_get (a := t) (x := (kTo t n)) (v := .inr (.inr (t + 1))) rfl rfl ht.1 (iT0 ht) rfl rfl rfl ?_
  refine k_run 0 (pc' := 8) (l' := [(0, .inr (.inr t)), (1, .inl a)]) (st' := [.inr (.inr (t + 1)), .inl (H.1 t 1)]) rfl ?_
  refine k_alen (c := (t + 1)) (x := (kTc n)) rfl ht.2.1 (iT1 ht) rfl ?_
  refine k_run 0 (pc' := 9) (l' := [(0, .inr (.inr t)), (1, .inl a)]) (st' := [.inl (n : Int), .inl (H.1 t 1)]) rfl ?_
  refine h_ige (off := 23) (t := 32) rfl rfl (by omega) (by omega) (fun c2 => ?_) (fun c2 => ?_)
  · refine k_run 0 (pc' := 32) (l' := [(0, .inr (.inr t)), (1, .inl a)]) (st' := []) rfl ?_
    refine h_ret rfl rfl ?_
    exact ⟨rfl, hI, (fq_rf _ _ _ _)⟩
  · refine k_run 0 (pc' := 12) (l' := [(0, .inr (.inr t)), (1, .inl a)]) (st' := []) rfl ?_
    refine k_run 1 (pc' := 13) (l' := [(0, .inr (.inr t)), (1, .inl a)]) (st' := [.inr (.inr t)]) rfl ?_
    refine k_get (a := t) (x := (kTo t n)) (v := .inr (.inr (t + 1))) rfl rfl ht.1 (iT0 ht) rfl rfl rfl ?_
    refine k_run 0 (pc' := 16) (l' := [(0, .inr (.inr t)), (1, .inl a)]) (st' := [.inr (.inr (t + 1))]) rfl ?_
    refine k_run 1 (pc' := 17) (l' := [(0, .inr (.inr t)), (1, .inl a)]) (st' := [.inr (.inr t), .inr (.inr (t + 1))]) rfl ?_
    refine k_get (a := t) (x := (kTo t n)) (v := .inl (H.1 t 1)) rfl rfl ht.1 (iT0 ht) rfl rfl rfl ?_
    refine k_run 0 (pc' := 20) (l' := [(0, .inr (.inr t)), (1, .inl a)]) (st' := [.inl (H.1 t 1), .inr (.inr (t + 1))]) rfl ?_
    refine k_run 1 (pc' := 21) (l' := [(0, .inr (.inr t)), (1, .inl a)]) (st' := [.inl a, .inl (H.1 t 1), .inr (.inr (t + 1))]) rfl ?_
    refine k_istw (c := (t + 1)) (j := ((H.1 t 1)).toNat) (i := (H.1 t 1)) (x := (kTc n)) rfl ht.2.1 (iT1 ht) (by omega) rfl (by omega) (by omega) (by omega) hI rfl (fun H3 hI4 hw5 => ?_)
    have hf7 : fq [] [] false H H3 := fq_w (fq_rf _ _ _ _) hw5 (fpC ht)
    refine k_run 0 (pc' := 22) (l' := [(0, .inr (.inr t)), (1, .inl a)]) (st' := []) rfl ?_
    refine k_run 2 (pc' := 24) (l' := [(0, .inr (.inr t)), (1, .inl a)]) (st' := [.inr (.inr t), .inr (.inr t)]) rfl ?_
    refine k_get (a := t) (x := (kTo t n)) (v := .inl (H3.1 t 1)) rfl rfl ht.1 (iT0 ht) rfl rfl rfl ?_
    have g8 : 0 ≤ (H3.1 t 1) ∧ (H3.1 t 1) ≤ n := kn hI4 ht.1 1
    have e9 : (H3.1 t 1) = (H.1 t 1) := hw5.2 _ _ (fun q => iTC ht ht q.1)
    refine k_run 0 (pc' := 27) (l' := [(0, .inr (.inr t)), (1, .inl a)]) (st' := [.inl (H3.1 t 1), .inr (.inr t)]) rfl ?_
    refine k_run 2 (pc' := 29) (l' := [(0, .inr (.inr t)), (1, .inl a)]) (st' := [.inl ((H3.1 t 1) + 1), .inr (.inr t)]) rfl ?_
    refine k_puti (z := ((H3.1 t 1) + 1)) (a := t) (x := (kTo t n)) rfl rfl ht.1 (iT0 ht) ht.2.2.1 rfl rfl rfl rfl hI4 (by omega) (show 0 ≤ ((H3.1 t 1) + 1) ∧ ((H3.1 t 1) + 1) ≤ n by omega) (fun H10 hI11 hw12 hv13 => ?_)
    have hf14 : fq [] [] false H H10 := fq_w hf7 hw12 (fpT ht)
    refine k_run 0 (pc' := 32) (l' := [(0, .inr (.inr t)), (1, .inl a)]) (st' := []) rfl ?_
    refine h_ret rfl rfl ?_
    exact ⟨rfl, hI11, hf14⟩

/-! Term.behind -/
set_option maxRecDepth 100000 in
theorem k_Term_behind_cut {d : Nat} (hd : 1 ≤ d) {H : hp} (hI : Inv H) {t n : Nat} {a : Int} (ht : isT t n) (ha : -2147483648 ≤ a ∧ a ≤ 2147483647) : ∀ w : Nat, (∀ (x2 : Int) (x3 : Int) , (-2147483648 ≤ x2 ∧ x2 ≤ 2147483647) → (-2147483648 ≤ x3 ∧ x3 ≤ 2147483647) → (x2 ≤ 1 + 7 * x3) → (-x3 ≤ x2) → (0 ≤ x3) → (a ≤ x3) → (x3 ≤ H.1 t 1 ∨ x3 ≤ a ∨ x3 ≤ 0) → (x3 ≤ n ∨ x2 = 1) → (((1000 - x3).toNat) < w) → hG (zs zK) d mt_53 8 [(0, .inr (.inr t)), (1, .inl a), (2, .inl x2), (3, .inl x3)] [] H (fun r9 H9 => ∃ z : Int, r9 = some (.inl z) ∧ ((-2147483648 ≤ z ∧ z ≤ 2147483647) ∧ (a ≤ z ∧ 0 ≤ z ∧ (z ≤ H.1 t 1 ∨ z ≤ a ∨ z ≤ 0))) ∧ H = H9)) := by
  intro w
  induction w with
  | zero => exact fun _ _ _ _ _ _ _ _ _ _ h => absurd h (Nat.not_lt_zero _)
  | succ w ih =>
    intro x2 x3 hx2 hx3 hi0 hi1 hi2 hi3 hi4 hi5 hw
    have htb := ht.2.2.2.2
    refine k_run 2 (pc' := 10) (l' := [(0, .inr (.inr t)), (1, .inl a), (2, .inl x2), (3, .inl x3)]) (st' := [.inr (.inr t), .inl x3]) rfl ?_
    refine k_get (a := t) (x := (kTo t n)) (v := .inl (H.1 t 1)) rfl rfl ht.1 (iT0 ht) rfl rfl rfl ?_
    have g2 : 0 ≤ (H.1 t 1) ∧ (H.1 t 1) ≤ n := kn hI ht.1 1
    refine k_run 0 (pc' := 13) (l' := [(0, .inr (.inr t)), (1, .inl a), (2, .inl x2), (3, .inl x3)]) (st' := [.inl (H.1 t 1), .inl x3]) rfl ?_
    refine h_ige (off := 27) (t := 40) rfl rfl (by omega) (by omega) (fun c3 => ?_) (fun c3 => ?_)
    · refine k_run 0 (pc' := 40) (l' := [(0, .inr (.inr t)), (1, .inl a), (2, .inl x2), (3, .inl x3)]) (st' := []) rfl ?_
      refine k_run 1 (pc' := 41) (l' := [(0, .inr (.inr t)), (1, .inl a), (2, .inl x2), (3, .inl x3)]) (st' := [.inl x3]) rfl ?_
      refine h_reti (x := x3) rfl rfl ?_
      exact ⟨_, rfl, (by omega), rfl⟩
    · refine k_run 0 (pc' := 16) (l' := [(0, .inr (.inr t)), (1, .inl a), (2, .inl x2), (3, .inl x3)]) (st' := []) rfl ?_
      refine k_run 1 (pc' := 17) (l' := [(0, .inr (.inr t)), (1, .inl a), (2, .inl x2), (3, .inl x3)]) (st' := [.inl x2]) rfl ?_
      refine h_zle (off := 23) (t := 40) rfl rfl (by omega) (fun c4 => ?_) (fun c4 => ?_)
      · refine k_run 0 (pc' := 40) (l' := [(0, .inr (.inr t)), (1, .inl a), (2, .inl x2), (3, .inl x3)]) (st' := []) rfl ?_
        refine k_run 1 (pc' := 41) (l' := [(0, .inr (.inr t)), (1, .inl a), (2, .inl x2), (3, .inl x3)]) (st' := [.inl x3]) rfl ?_
        refine h_reti (x := x3) rfl rfl ?_
        exact ⟨_, rfl, (by omega), rfl⟩
      · refine k_run 0 (pc' := 20) (l' := [(0, .inr (.inr t)), (1, .inl a), (2, .inl x2), (3, .inl x3)]) (st' := []) rfl ?_
        refine k_run 2 (pc' := 22) (l' := [(0, .inr (.inr t)), (1, .inl a), (2, .inl x2), (3, .inl x3)]) (st' := [.inr (.inr t), .inl x2]) rfl ?_
        refine k_get (a := t) (x := (kTo t n)) (v := .inr (.inr (t + 1))) rfl rfl ht.1 (iT0 ht) rfl rfl rfl ?_
        refine k_run 0 (pc' := 25) (l' := [(0, .inr (.inr t)), (1, .inl a), (2, .inl x2), (3, .inl x3)]) (st' := [.inr (.inr (t + 1)), .inl x2]) rfl ?_
        refine k_run 1 (pc' := 26) (l' := [(0, .inr (.inr t)), (1, .inl a), (2, .inl x2), (3, .inl x3)]) (st' := [.inl x3, .inr (.inr (t + 1)), .inl x2]) rfl ?_
        refine k_ild (c := (t + 1)) (j := (x3).toNat) (i := x3) (x := (kTc n)) rfl ht.2.1 (iT1 ht) rfl (by omega) (by omega) (by omega) ?_
        have g5 : -2147483648 ≤ (H.1 (t + 1) (x3).toNat) ∧ (H.1 (t + 1) (x3).toNat) ≤ 2147483647 := kn hI ht.2.1 (x3).toNat
        refine k_run 0 (pc' := 27) (l' := [(0, .inr (.inr t)), (1, .inl a), (2, .inl x2), (3, .inl x3)]) (st' := [.inl (H.1 (t + 1) (x3).toNat), .inl x2]) rfl ?_
        refine k_run 2 (pc' := 30) (l' := [(0, .inr (.inr t)), (1, .inl a), (2, .inl x2), (3, .inl x3)]) (st' := [.inl (z_and (H.1 (t + 1) (x3).toNat) 7), .inl x2]) rfl ?_
        have g6 : 0 ≤ (z_and (H.1 (t + 1) (x3).toNat) 7) ∧ (z_and (H.1 (t + 1) (x3).toNat) 7) ≤ 7 := z_and_le _ 7 (by decide)
        refine k_run 6 (pc' := 8) (l' := [(0, .inr (.inr t)), (1, .inl a), (2, .inl (x2 + ((z_and (H.1 (t + 1) (x3).toNat) 7) - 1))), (3, .inl (x3 + 1))]) (st' := []) rfl ?_
        exact ih (x2 + ((z_and (H.1 (t + 1) (x3).toNat) 7) - 1)) (x3 + 1) (by omega) (by omega) (by omega) (by omega) (by omega) (by omega) (by omega) (by omega) (by omega)
set_option maxRecDepth 100000 in
theorem k_Term_behind {d : Nat} (hd : 1 ≤ d) {H : hp} (hI : Inv H) {t n : Nat} {a : Int} (ht : isT t n) (ha : -2147483648 ≤ a ∧ a ≤ 2147483647) : hG (zs zK) d mt_53 0 (zargs 0 [.inr (.inr t), .inl a]) [] H (fun r9 H9 => ∃ z : Int, r9 = some (.inl z) ∧ ((-2147483648 ≤ z ∧ z ≤ 2147483647) ∧ (a ≤ z ∧ 0 ≤ z ∧ (z ≤ H.1 t 1 ∨ z ≤ a ∨ z ≤ 0))) ∧ H = H9) := by
  have htb := ht.2.2.2.2
  refine k_run 0 (pc' := 0) (l' := [(0, .inr (.inr t)), (1, .inl a)]) (st' := []) rfl ?_
  refine k_run 4 (pc' := 4) (l' := [(0, .inr (.inr t)), (1, .inl a), (2, .inl 1)]) (st' := [.inl 0, .inl a]) rfl ?_
  refine k_max (i := 7) (x := a) (y := 0) rfl rfl (Nat.le_of_ble_eq_true rfl) (by omega) (by omega) (by decide) (fun z1 hz1 => ?_)
  refine k_run 0 (pc' := 7) (l' := [(0, .inr (.inr t)), (1, .inl a), (2, .inl 1)]) (st' := [.inl z1]) rfl ?_
  refine k_run 1 (pc' := 8) (l' := [(0, .inr (.inr t)), (1, .inl a), (2, .inl 1), (3, .inl z1)]) (st' := []) rfl ?_
  exact (k_Term_behind_cut hd hI ht ha _) (1 : Int) z1 (by decide) (by omega) (by omega) (by omega) (by omega) (by omega) (by omega) (by omega) (Nat.lt_succ_self _)

/-! Term.append -/
set_option maxRecDepth 100000 in
theorem k_Term_append {d : Nat} (hd : 1 ≤ d) {H : hp} (hI : Inv H) {t n : Nat} {u m : Nat} {a : Int} {b : Int} (ht : isT t n) (hu : isT u m) (ha : -2147483648 ≤ a ∧ a ≤ 2147483647) (hb : -2147483648 ≤ b ∧ b ≤ 2147483647) (hp0 : -2147483648 ≤ b - a ∧ b - a ≤ 2147483647) : hG (zs zK) d mt_54 0 (zargs 0 [.inr (.inr t), .inr (.inr u), .inl a, .inl b]) [] H (fun r9 H9 => ∃ z : Int, r9 = some (.inl z) ∧ ((0 ≤ z ∧ z ≤ 1)) ∧ Inv H9 ∧ fq [] [] false H H9) := by
  have htb := ht.2.2.2.2
  have hub := hu.2.2.2.2
  refine k_run 0 (pc' := 0) (l' := [(0, .inr (.inr t)), (1, .inr (.inr u)), (2, .inl a), (3, .inl b)]) (st' := []) rfl ?_
  refine k_run 5 (pc' := 6) (l' := [(0, .inr (.inr t)), (1, .inr (.inr u)), (2, .inl a), (3, .inl b), (4, .inl (b - a))]) (st' := [.inl a]) rfl ?_
  refine h_zlt (off := 31) (t := 37) rfl rfl (by omega) (fun c1 => ?_) (fun c1 => ?_)
  · refine k_run 0 (pc' := 37) (l' := [(0, .inr (.inr t)), (1, .inr (.inr u)), (2, .inl a), (3, .inl b), (4, .inl (b - a))]) (st' := []) rfl ?_
    refine k_run 1 (pc' := 38) (l' := [(0, .inr (.inr t)), (1, .inr (.inr u)), (2, .inl a), (3, .inl b), (4, .inl (b - a))]) (st' := [.inl 0]) rfl ?_
    refine h_retz (x := 0) rfl rfl (by decide) ?_
    exact ⟨_, rfl, (by omega), hI, (fq_rf _ _ _ _)⟩
  · refine k_run 0 (pc' := 9) (l' := [(0, .inr (.inr t)), (1, .inr (.inr u)), (2, .inl a), (3, .inl b), (4, .inl (b - a))]) (st' := []) rfl ?_
    refine k_run 1 (pc' := 11) (l' := [(0, .inr (.inr t)), (1, .inr (.inr u)), (2, .inl a), (3, .inl b), (4, .inl (b - a))]) (st' := [.inl (b - a)]) rfl ?_
    refine h_zlt (off := 26) (t := 37) rfl rfl (by omega) (fun c2 => ?_) (fun c2 => ?_)
    · refine k_run 0 (pc' := 37) (l' := [(0, .inr (.inr t)), (1, .inr (.inr u)), (2, .inl a), (3, .inl b), (4, .inl (b - a))]) (st' := []) rfl ?_
      refine k_run 1 (pc' := 38) (l' := [(0, .inr (.inr t)), (1, .inr (.inr u)), (2, .inl a), (3, .inl b), (4, .inl (b - a))]) (st' := [.inl 0]) rfl ?_
      refine h_retz (x := 0) rfl rfl (by decide) ?_
      exact ⟨_, rfl, (by omega), hI, (fq_rf _ _ _ _)⟩
    · refine k_run 0 (pc' := 14) (l' := [(0, .inr (.inr t)), (1, .inr (.inr u)), (2, .inl a), (3, .inl b), (4, .inl (b - a))]) (st' := []) rfl ?_
      refine k_run 2 (pc' := 16) (l' := [(0, .inr (.inr t)), (1, .inr (.inr u)), (2, .inl a), (3, .inl b), (4, .inl (b - a))]) (st' := [.inr (.inr u), .inl b]) rfl ?_
      refine k_get (a := u) (x := (kTo u m)) (v := .inl (H.1 u 1)) rfl rfl hu.1 (iT0 hu) rfl rfl rfl ?_
      have g3 : 0 ≤ (H.1 u 1) ∧ (H.1 u 1) ≤ m := kn hI hu.1 1
      refine k_run 0 (pc' := 19) (l' := [(0, .inr (.inr t)), (1, .inr (.inr u)), (2, .inl a), (3, .inl b), (4, .inl (b - a))]) (st' := [.inl (H.1 u 1), .inl b]) rfl ?_
      refine h_igt (off := 18) (t := 37) rfl rfl (by omega) (by omega) (fun c4 => ?_) (fun c4 => ?_)
      · refine k_run 0 (pc' := 37) (l' := [(0, .inr (.inr t)), (1, .inr (.inr u)), (2, .inl a), (3, .inl b), (4, .inl (b - a))]) (st' := []) rfl ?_
        refine k_run 1 (pc' := 38) (l' := [(0, .inr (.inr t)), (1, .inr (.inr u)), (2, .inl a), (3, .inl b), (4, .inl (b - a))]) (st' := [.inl 0]) rfl ?_
        refine h_retz (x := 0) rfl rfl (by decide) ?_
        exact ⟨_, rfl, (by omega), hI, (fq_rf _ _ _ _)⟩
      · refine k_run 0 (pc' := 22) (l' := [(0, .inr (.inr t)), (1, .inr (.inr u)), (2, .inl a), (3, .inl b), (4, .inl (b - a))]) (st' := []) rfl ?_
        refine k_run 2 (pc' := 25) (l' := [(0, .inr (.inr t)), (1, .inr (.inr u)), (2, .inl a), (3, .inl b), (4, .inl (b - a))]) (st' := [.inr (.inr t), .inl (b - a)]) rfl ?_
        refine k_get (a := t) (x := (kTo t n)) (v := .inr (.inr (t + 1))) rfl rfl ht.1 (iT0 ht) rfl rfl rfl ?_
        refine k_run 0 (pc' := 28) (l' := [(0, .inr (.inr t)), (1, .inr (.inr u)), (2, .inl a), (3, .inl b), (4, .inl (b - a))]) (st' := [.inr (.inr (t + 1)), .inl (b - a)]) rfl ?_
        refine k_alen (c := (t + 1)) (x := (kTc n)) rfl ht.2.1 (iT1 ht) rfl ?_
        refine k_run 0 (pc' := 29) (l' := [(0, .inr (.inr t)), (1, .inr (.inr u)), (2, .inl a), (3, .inl b), (4, .inl (b - a))]) (st' := [.inl (n : Int), .inl (b - a)]) rfl ?_
        refine k_run 1 (pc' := 30) (l' := [(0, .inr (.inr t)), (1, .inr (.inr u)), (2, .inl a), (3, .inl b), (4, .inl (b - a))]) (st' := [.inr (.inr t), .inl (n : Int), .inl (b - a)]) rfl ?_
        refine k_get (a := t) (x := (kTo t n)) (v := .inl (H.1 t 1)) rfl rfl ht.1 (iT0 ht) rfl rfl rfl ?_
        have g5 : 0 ≤ (H.1 t 1) ∧ (H.1 t 1) ≤ n := kn hI ht.1 1
        refine k_run 0 (pc' := 33) (l' := [(0, .inr (.inr t)), (1, .inr (.inr u)), (2, .inl a), (3, .inl b), (4, .inl (b - a))]) (st' := [.inl (H.1 t 1), .inl (n : Int), .inl (b - a)]) rfl ?_
        refine k_run 1 (pc' := 34) (l' := [(0, .inr (.inr t)), (1, .inr (.inr u)), (2, .inl a), (3, .inl b), (4, .inl (b - a))]) (st' := [.inl ((n : Int) - (H.1 t 1)), .inl (b - a)]) rfl ?_
        refine h_ile (off := 5) (t := 39) rfl rfl (by omega) (by omega) (fun c6 => ?_) (fun c6 => ?_)
        · refine k_run 0 (pc' := 39) (l' := [(0, .inr (.inr t)), (1, .inr (.inr u)), (2, .inl a), (3, .inl b), (4, .inl (b - a))]) (st' := []) rfl ?_
          refine k_run 1 (pc' := 40) (l' := [(0, .inr (.inr t)), (1, .inr (.inr u)), (2, .inl a), (3, .inl b), (4, .inl (b - a))]) (st' := [.inr (.inr u)]) rfl ?_
          refine k_get (a := u) (x := (kTo u m)) (v := .inr (.inr (u + 1))) rfl rfl hu.1 (iT0 hu) rfl rfl rfl ?_
          refine k_run 0 (pc' := 43) (l' := [(0, .inr (.inr t)), (1, .inr (.inr u)), (2, .inl a), (3, .inl b), (4, .inl (b - a))]) (st' := [.inr (.inr (u + 1))]) rfl ?_
          refine k_run 2 (pc' := 45) (l' := [(0, .inr (.inr t)), (1, .inr (.inr u)), (2, .inl a), (3, .inl b), (4, .inl (b - a))]) (st' := [.inr (.inr t), .inl a, .inr (.inr (u + 1))]) rfl ?_
          refine k_get (a := t) (x := (kTo t n)) (v := .inr (.inr (t + 1))) rfl rfl ht.1 (iT0 ht) rfl rfl rfl ?_
          refine k_run 0 (pc' := 48) (l' := [(0, .inr (.inr t)), (1, .inr (.inr u)), (2, .inl a), (3, .inl b), (4, .inl (b - a))]) (st' := [.inr (.inr (t + 1)), .inl a, .inr (.inr (u + 1))]) rfl ?_
          refine k_run 1 (pc' := 49) (l' := [(0, .inr (.inr t)), (1, .inr (.inr u)), (2, .inl a), (3, .inl b), (4, .inl (b - a))]) (st' := [.inr (.inr t), .inr (.inr (t + 1)), .inl a, .inr (.inr (u + 1))]) rfl ?_
          refine k_get (a := t) (x := (kTo t n)) (v := .inl (H.1 t 1)) rfl rfl ht.1 (iT0 ht) rfl rfl rfl ?_
          refine k_run 0 (pc' := 52) (l' := [(0, .inr (.inr t)), (1, .inr (.inr u)), (2, .inl a), (3, .inl b), (4, .inl (b - a))]) (st' := [.inl (H.1 t 1), .inr (.inr (t + 1)), .inl a, .inr (.inr (u + 1))]) rfl ?_
          refine k_run 1 (pc' := 54) (l' := [(0, .inr (.inr t)), (1, .inr (.inr u)), (2, .inl a), (3, .inl b), (4, .inl (b - a))]) (st' := [.inl (b - a), .inl (H.1 t 1), .inr (.inr (t + 1)), .inl a, .inr (.inr (u + 1))]) rfl ?_
          refine k_copy (i := 23) (t := u) (u := t) rfl rfl (Nat.le_of_ble_eq_true rfl) (by omega) hu ht (by omega) (by omega) (by omega) (by omega) (by omega) hI (fun H7 hI8 hw9 => ?_)
          have hf10 : fq [] [] false H H7 := fq_a (fq_rf _ _ _ _) hw9 ht
          refine k_run 0 (pc' := 57) (l' := [(0, .inr (.inr t)), (1, .inr (.inr u)), (2, .inl a), (3, .inl b), (4, .inl (b - a))]) (st' := []) rfl ?_
          refine k_run 2 (pc' := 59) (l' := [(0, .inr (.inr t)), (1, .inr (.inr u)), (2, .inl a), (3, .inl b), (4, .inl (b - a))]) (st' := [.inr (.inr t), .inr (.inr t)]) rfl ?_
          refine k_get (a := t) (x := (kTo t n)) (v := .inl (H7.1 t 1)) rfl rfl ht.1 (iT0 ht) rfl rfl rfl ?_
          have g11 : 0 ≤ (H7.1 t 1) ∧ (H7.1 t 1) ≤ n := kn hI8 ht.1 1
          have e12 : (H7.1 t 1) = (H.1 t 1) := hw9.2 _ _ (iTC ht ht)
          refine k_run 0 (pc' := 62) (l' := [(0, .inr (.inr t)), (1, .inr (.inr u)), (2, .inl a), (3, .inl b), (4, .inl (b - a))]) (st' := [.inl (H7.1 t 1), .inr (.inr t)]) rfl ?_
          refine k_run 2 (pc' := 65) (l' := [(0, .inr (.inr t)), (1, .inr (.inr u)), (2, .inl a), (3, .inl b), (4, .inl (b - a))]) (st' := [.inl ((H7.1 t 1) + (b - a)), .inr (.inr t)]) rfl ?_
          refine k_puti (z := ((H7.1 t 1) + (b - a))) (a := t) (x := (kTo t n)) rfl rfl ht.1 (iT0 ht) ht.2.2.1 rfl rfl rfl rfl hI8 (by omega) (show 0 ≤ ((H7.1 t 1) + (b - a)) ∧ ((H7.1 t 1) + (b - a)) ≤ n by omega) (fun H13 hI14 hw15 hv16 => ?_)
          have hf17 : fq [] [] false H H13 := fq_w hf10 hw15 (fpT ht)
          refine k_run 0 (pc' := 68) (l' := [(0, .inr (.inr t)), (1, .inr (.inr u)), (2, .inl a), (3, .inl b), (4, .inl (b - a))]) (st' := []) rfl ?_
          refine k_run 1 (pc' := 69) (l' := [(0, .inr (.inr t)), (1, .inr (.inr u)), (2, .inl a), (3, .inl b), (4, .inl (b - a))]) (st' := [.inl 1]) rfl ?_
          refine h_retz (x := 1) rfl rfl (by decide) ?_
          exact ⟨_, rfl, (by omega), hI14, hf17⟩
        · refine k_run 0 (pc' := 37) (l' := [(0, .inr (.inr t)), (1, .inr (.inr u)), (2, .inl a), (3, .inl b), (4, .inl (b - a))]) (st' := []) rfl ?_
          refine k_run 1 (pc' := 38) (l' := [(0, .inr (.inr t)), (1, .inr (.inr u)), (2, .inl a), (3, .inl b), (4, .inl (b - a))]) (st' := [.inl 0]) rfl ?_
          refine h_retz (x := 0) rfl rfl (by decide) ?_
          exact ⟨_, rfl, (by omega), hI, (fq_rf _ _ _ _)⟩

/-! Term.copy -/
set_option maxRecDepth 100000 in
theorem k_Term_copy {d : Nat} (hd : 1 ≤ d) {H : hp} (hI : Inv H) {t n : Nat} {u m : Nat} (ht : isT t n) (hu : isT u m) : hG (zs zK) d mt_55 0 (zargs 0 [.inr (.inr t), .inr (.inr u)]) [] H (fun r9 H9 => r9 = none ∧ Inv H9 ∧ fq [] [] false H H9) := by
  have htb := ht.2.2.2.2
  have hub := hu.2.2.2.2
  refine k_run 0 (pc' := 0) (l' := [(0, .inr (.inr t)), (1, .inr (.inr u))]) (st' := []) rfl ?_
  refine k_run 1 (pc' := 1) (l' := [(0, .inr (.inr t)), (1, .inr (.inr u))]) (st' := [.inr (.inr u)]) rfl ?_
  refine k_get (a := u) (x := (kTo u m)) (v := .inl (H.1 u 1)) rfl rfl hu.1 (iT0 hu) rfl rfl rfl ?_
  have g1 : 0 ≤ (H.1 u 1) ∧ (H.1 u 1) ≤ m := kn hI hu.1 1
  refine k_run 0 (pc' := 4) (l' := [(0, .inr (.inr t)), (1, .inr (.inr u))]) (st' := [.inl (H.1 u 1)]) rfl ?_
  refine k_run 1 (pc' := 5) (l' := [(0, .inr (.inr t)), (1, .inr (.inr u))]) (st' := [.inr (.inr t), .inl (H.1 u 1)]) rfl ?_
  refine k_get (a := t) (x := (kTo t n)) (v := .inr (.inr (t + 1))) rfl rfl ht.1 (iT0 ht) rfl rfl rfl ?_
  refine k_run 0 (pc' := 8) (l' := [(0, .inr (.inr t)), (1, .inr (.inr u))]) (st' := [.inr (.inr (t + 1)), .inl (H.1 u 1)]) rfl ?_
  refine k_alen (c := (t + 1)) (x := (kTc n)) rfl ht.2.1 (iT1 ht) rfl ?_
  refine k_run 0 (pc' := 9) (l' := [(0, .inr (.inr t)), (1, .inr (.inr u))]) (st' := [.inl (n : Int), .inl (H.1 u 1)]) rfl ?_
  refine k_min (i := 29) (x := (H.1 u 1)) (y := (n : Int)) rfl rfl (Nat.le_of_ble_eq_true rfl) (by omega) (by omega) (by omega) (fun z2 hz2 => ?_)
  refine k_run 0 (pc' := 12) (l' := [(0, .inr (.inr t)), (1, .inr (.inr u))]) (st' := [.inl z2]) rfl ?_
  refine k_run 2 (pc' := 14) (l' := [(0, .inr (.inr t)), (1, .inr (.inr u)), (2, .inl z2)]) (st' := [.inr (.inr u)]) rfl ?_
  refine k_get (a := u) (x := (kTo u m)) (v := .inr (.inr (u + 1))) rfl rfl hu.1 (iT0 hu) rfl rfl rfl ?_
  refine k_run 0 (pc' := 17) (l' := [(0, .inr (.inr t)), (1, .inr (.inr u)), (2, .inl z2)]) (st' := [.inr (.inr (u + 1))]) rfl ?_
  refine k_run 2 (pc' := 19) (l' := [(0, .inr (.inr t)), (1, .inr (.inr u)), (2, .inl z2)]) (st' := [.inr (.inr t), .inl 0, .inr (.inr (u + 1))]) rfl ?_
  refine k_get (a := t) (x := (kTo t n)) (v := .inr (.inr (t + 1))) rfl rfl ht.1 (iT0 ht) rfl rfl rfl ?_
  refine k_run 0 (pc' := 22) (l' := [(0, .inr (.inr t)), (1, .inr (.inr u)), (2, .inl z2)]) (st' := [.inr (.inr (t + 1)), .inl 0, .inr (.inr (u + 1))]) rfl ?_
  refine k_run 2 (pc' := 24) (l' := [(0, .inr (.inr t)), (1, .inr (.inr u)), (2, .inl z2)]) (st' := [.inl z2, .inl 0, .inr (.inr (t + 1)), .inl 0, .inr (.inr (u + 1))]) rfl ?_
  refine k_copy (i := 23) (t := u) (u := t) rfl rfl (Nat.le_of_ble_eq_true rfl) (by omega) hu ht (by omega) (by omega) (by omega) (by omega) (by omega) hI (fun H3 hI4 hw5 => ?_)
  have hf6 : fq [] [] false H H3 := fq_a (fq_rf _ _ _ _) hw5 ht
  refine k_run 0 (pc' := 27) (l' := [(0, .inr (.inr t)), (1, .inr (.inr u)), (2, .inl z2)]) (st' := []) rfl ?_
  refine k_run 2 (pc' := 29) (l' := [(0, .inr (.inr t)), (1, .inr (.inr u)), (2, .inl z2)]) (st' := [.inl z2, .inr (.inr t)]) rfl ?_
  refine k_puti (z := z2) (a := t) (x := (kTo t n)) rfl rfl ht.1 (iT0 ht) ht.2.2.1 rfl rfl rfl rfl hI4 (by omega) (show 0 ≤ z2 ∧ z2 ≤ n by omega) (fun H7 hI8 hw9 hv10 => ?_)
  have hf11 : fq [] [] false H H7 := fq_w hf6 hw9 (fpT ht)
  refine k_run 0 (pc' := 32) (l' := [(0, .inr (.inr t)), (1, .inr (.inr u)), (2, .inl z2)]) (st' := []) rfl ?_
  refine h_ret rfl rfl ?_
  exact ⟨rfl, hI8, hf11⟩

/-! Term.hasAt -/
set_option maxRecDepth 100000 in
theorem k_Term_hasAt_cut {d : Nat} (hd : 1 ≤ d) {H : hp} (hI : Inv H) {t n : Nat} {a : Int} {u m : Nat} (ht : isT t n) (ha : -2147483648 ≤ a ∧ a ≤ 2147483647) (hu : isT u m) : ∀ w : Nat, (∀ (x3 : Int) , (-2147483648 ≤ x3 ∧ x3 ≤ 2147483647) → (0 ≤ x3) → (0 ≤ a) → (H.1 u 1 ≤ H.1 t 1 - a) → (((1000 - x3).toNat) < w) → hG (zs zK) d mt_56 21 [(0, .inr (.inr t)), (1, .inl a), (2, .inr (.inr u)), (3, .inl x3)] [] H (fun r9 H9 => ∃ z : Int, r9 = some (.inl z) ∧ ((0 ≤ z ∧ z ≤ 1)) ∧ H = H9)) := by
  intro w
  induction w with
  | zero => exact fun _ _ _ _ _ h => absurd h (Nat.not_lt_zero _)
  | succ w ih =>
    intro x3 hx3 hi0 hi1 hi2 hw
    have htb := ht.2.2.2.2
    have hub := hu.2.2.2.2
    have g5 : 0 ≤ (H.1 t 1) ∧ (H.1 t 1) ≤ n := kn hI ht.1 1
    refine k_run 2 (pc' := 23) (l' := [(0, .inr (.inr t)), (1, .inl a), (2, .inr (.inr u)), (3, .inl x3)]) (st' := [.inr (.inr u), .inl x3]) rfl ?_
    refine k_get (a := u) (x := (kTo u m)) (v := .inl (H.1 u 1)) rfl rfl hu.1 (iT0 hu) rfl rfl rfl ?_
    have g6 : 0 ≤ (H.1 u 1) ∧ (H.1 u 1) ≤ m := kn hI hu.1 1
    refine k_run 0 (pc' := 26) (l' := [(0, .inr (.inr t)), (1, .inl a), (2, .inr (.inr u)), (3, .inl x3)]) (st' := [.inl (H.1 u 1), .inl x3]) rfl ?_
    refine h_ige (off := 28) (t := 54) rfl rfl (by omega) (by omega) (fun c7 => ?_) (fun c7 => ?_)
    · refine k_run 0 (pc' := 54) (l' := [(0, .inr (.inr t)), (1, .inl a), (2, .inr (.inr u)), (3, .inl x3)]) (st' := []) rfl ?_
      refine k_run 1 (pc' := 55) (l' := [(0, .inr (.inr t)), (1, .inl a), (2, .inr (.inr u)), (3, .inl x3)]) (st' := [.inl 1]) rfl ?_
      refine h_retz (x := 1) rfl rfl (by decide) ?_
      exact ⟨_, rfl, (by omega), rfl⟩
    · refine k_run 0 (pc' := 29) (l' := [(0, .inr (.inr t)), (1, .inl a), (2, .inr (.inr u)), (3, .inl x3)]) (st' := []) rfl ?_
      refine k_run 1 (pc' := 30) (l' := [(0, .inr (.inr t)), (1, .inl a), (2, .inr (.inr u)), (3, .inl x3)]) (st' := [.inr (.inr t)]) rfl ?_
      refine k_get (a := t) (x := (kTo t n)) (v := .inr (.inr (t + 1))) rfl rfl ht.1 (iT0 ht) rfl rfl rfl ?_
      refine k_run 0 (pc' := 33) (l' := [(0, .inr (.inr t)), (1, .inl a), (2, .inr (.inr u)), (3, .inl x3)]) (st' := [.inr (.inr (t + 1))]) rfl ?_
      refine k_run 3 (pc' := 36) (l' := [(0, .inr (.inr t)), (1, .inl a), (2, .inr (.inr u)), (3, .inl x3)]) (st' := [.inl (a + x3), .inr (.inr (t + 1))]) rfl ?_
      refine k_ild (c := (t + 1)) (j := ((a + x3)).toNat) (i := (a + x3)) (x := (kTc n)) rfl ht.2.1 (iT1 ht) rfl (by omega) (by omega) (by omega) ?_
      have g8 : -2147483648 ≤ (H.1 (t + 1) ((a + x3)).toNat) ∧ (H.1 (t + 1) ((a + x3)).toNat) ≤ 2147483647 := kn hI ht.2.1 ((a + x3)).toNat
      refine k_run 0 (pc' := 37) (l' := [(0, .inr (.inr t)), (1, .inl a), (2, .inr (.inr u)), (3, .inl x3)]) (st' := [.inl (H.1 (t + 1) ((a + x3)).toNat)]) rfl ?_
      refine k_run 1 (pc' := 38) (l' := [(0, .inr (.inr t)), (1, .inl a), (2, .inr (.inr u)), (3, .inl x3)]) (st' := [.inr (.inr u), .inl (H.1 (t + 1) ((a + x3)).toNat)]) rfl ?_
      refine k_get (a := u) (x := (kTo u m)) (v := .inr (.inr (u + 1))) rfl rfl hu.1 (iT0 hu) rfl rfl rfl ?_
      refine k_run 0 (pc' := 41) (l' := [(0, .inr (.inr t)), (1, .inl a), (2, .inr (.inr u)), (3, .inl x3)]) (st' := [.inr (.inr (u + 1)), .inl (H.1 (t + 1) ((a + x3)).toNat)]) rfl ?_
      refine k_run 1 (pc' := 42) (l' := [(0, .inr (.inr t)), (1, .inl a), (2, .inr (.inr u)), (3, .inl x3)]) (st' := [.inl x3, .inr (.inr (u + 1)), .inl (H.1 (t + 1) ((a + x3)).toNat)]) rfl ?_
      refine k_ild (c := (u + 1)) (j := (x3).toNat) (i := x3) (x := (kTc m)) rfl hu.2.1 (iT1 hu) rfl (by omega) (by omega) (by omega) ?_
      have g9 : -2147483648 ≤ (H.1 (u + 1) (x3).toNat) ∧ (H.1 (u + 1) (x3).toNat) ≤ 2147483647 := kn hI hu.2.1 (x3).toNat
      refine k_run 0 (pc' := 43) (l' := [(0, .inr (.inr t)), (1, .inl a), (2, .inr (.inr u)), (3, .inl x3)]) (st' := [.inl (H.1 (u + 1) (x3).toNat), .inl (H.1 (t + 1) ((a + x3)).toNat)]) rfl ?_
      refine h_ieq (off := 5) (t := 48) rfl rfl (by omega) (by omega) (fun c10 => ?_) (fun c10 => ?_)
      · refine k_run 0 (pc' := 48) (l' := [(0, .inr (.inr t)), (1, .inl a), (2, .inr (.inr u)), (3, .inl x3)]) (st' := []) rfl ?_
        refine k_run 2 (pc' := 21) (l' := [(0, .inr (.inr t)), (1, .inl a), (2, .inr (.inr u)), (3, .inl (x3 + 1))]) (st' := []) rfl ?_
        exact ih (x3 + 1) (by omega) (by omega) (by omega) (by omega) (by omega)
      · refine k_run 0 (pc' := 46) (l' := [(0, .inr (.inr t)), (1, .inl a), (2, .inr (.inr u)), (3, .inl x3)]) (st' := []) rfl ?_
        refine k_run 1 (pc' := 47) (l' := [(0, .inr (.inr t)), (1, .inl a), (2, .inr (.inr u)), (3, .inl x3)]) (st' := [.inl 0]) rfl ?_
        refine h_retz (x := 0) rfl rfl (by decide) ?_
        exact ⟨_, rfl, (by omega), rfl⟩
set_option maxRecDepth 100000 in
theorem k_Term_hasAt {d : Nat} (hd : 1 ≤ d) {H : hp} (hI : Inv H) {t n : Nat} {a : Int} {u m : Nat} (ht : isT t n) (ha : -2147483648 ≤ a ∧ a ≤ 2147483647) (hu : isT u m) : hG (zs zK) d mt_56 0 (zargs 0 [.inr (.inr t), .inl a, .inr (.inr u)]) [] H (fun r9 H9 => ∃ z : Int, r9 = some (.inl z) ∧ ((0 ≤ z ∧ z ≤ 1)) ∧ H = H9) := by
  have htb := ht.2.2.2.2
  have hub := hu.2.2.2.2
  refine k_run 0 (pc' := 0) (l' := [(0, .inr (.inr t)), (1, .inl a), (2, .inr (.inr u))]) (st' := []) rfl ?_
  refine k_run 1 (pc' := 1) (l' := [(0, .inr (.inr t)), (1, .inl a), (2, .inr (.inr u))]) (st' := [.inl a]) rfl ?_
  refine h_zlt (off := 16) (t := 17) rfl rfl (by omega) (fun c1 => ?_) (fun c1 => ?_)
  · refine k_run 0 (pc' := 17) (l' := [(0, .inr (.inr t)), (1, .inl a), (2, .inr (.inr u))]) (st' := []) rfl ?_
    refine k_run 1 (pc' := 18) (l' := [(0, .inr (.inr t)), (1, .inl a), (2, .inr (.inr u))]) (st' := [.inl 0]) rfl ?_
    refine h_retz (x := 0) rfl rfl (by decide) ?_
    exact ⟨_, rfl, (by omega), rfl⟩
  · refine k_run 0 (pc' := 4) (l' := [(0, .inr (.inr t)), (1, .inl a), (2, .inr (.inr u))]) (st' := []) rfl ?_
    refine k_run 1 (pc' := 5) (l' := [(0, .inr (.inr t)), (1, .inl a), (2, .inr (.inr u))]) (st' := [.inr (.inr u)]) rfl ?_
    refine k_get (a := u) (x := (kTo u m)) (v := .inl (H.1 u 1)) rfl rfl hu.1 (iT0 hu) rfl rfl rfl ?_
    have g2 : 0 ≤ (H.1 u 1) ∧ (H.1 u 1) ≤ m := kn hI hu.1 1
    refine k_run 0 (pc' := 8) (l' := [(0, .inr (.inr t)), (1, .inl a), (2, .inr (.inr u))]) (st' := [.inl (H.1 u 1)]) rfl ?_
    refine k_run 1 (pc' := 9) (l' := [(0, .inr (.inr t)), (1, .inl a), (2, .inr (.inr u))]) (st' := [.inr (.inr t), .inl (H.1 u 1)]) rfl ?_
    refine k_get (a := t) (x := (kTo t n)) (v := .inl (H.1 t 1)) rfl rfl ht.1 (iT0 ht) rfl rfl rfl ?_
    have g3 : 0 ≤ (H.1 t 1) ∧ (H.1 t 1) ≤ n := kn hI ht.1 1
    refine k_run 0 (pc' := 12) (l' := [(0, .inr (.inr t)), (1, .inl a), (2, .inr (.inr u))]) (st' := [.inl (H.1 t 1), .inl (H.1 u 1)]) rfl ?_
    refine k_run 2 (pc' := 14) (l' := [(0, .inr (.inr t)), (1, .inl a), (2, .inr (.inr u))]) (st' := [.inl ((H.1 t 1) - a), .inl (H.1 u 1)]) rfl ?_
    refine h_ile (off := 5) (t := 19) rfl rfl (by omega) (by omega) (fun c4 => ?_) (fun c4 => ?_)
    · refine k_run 0 (pc' := 19) (l' := [(0, .inr (.inr t)), (1, .inl a), (2, .inr (.inr u))]) (st' := []) rfl ?_
      refine k_run 2 (pc' := 21) (l' := [(0, .inr (.inr t)), (1, .inl a), (2, .inr (.inr u)), (3, .inl 0)]) (st' := []) rfl ?_
      exact (k_Term_hasAt_cut hd hI ht ha hu _) (0 : Int) (by decide) (by omega) (by omega) (by omega) (Nat.lt_succ_self _)
    · refine k_run 0 (pc' := 17) (l' := [(0, .inr (.inr t)), (1, .inl a), (2, .inr (.inr u))]) (st' := []) rfl ?_
      refine k_run 1 (pc' := 18) (l' := [(0, .inr (.inr t)), (1, .inl a), (2, .inr (.inr u))]) (st' := [.inl 0]) rfl ?_
      refine h_retz (x := 0) rfl rfl (by decide) ?_
      exact ⟨_, rfl, (by omega), rfl⟩

/-! Term.isLike -/
set_option maxRecDepth 100000 in
theorem k_Term_isLike {d : Nat} (hd : 2 ≤ d) {H : hp} (hI : Inv H) {t n : Nat} {u m : Nat} (ht : isT t n) (hu : isT u m) : hG (zs zK) d mt_57 0 (zargs 0 [.inr (.inr t), .inr (.inr u)]) [] H (fun r9 H9 => ∃ z : Int, r9 = some (.inl z) ∧ ((0 ≤ z ∧ z ≤ 1)) ∧ H = H9) := by
  have htb := ht.2.2.2.2
  have hub := hu.2.2.2.2
  refine k_run 0 (pc' := 0) (l' := [(0, .inr (.inr t)), (1, .inr (.inr u))]) (st' := []) rfl ?_
  refine k_run 1 (pc' := 1) (l' := [(0, .inr (.inr t)), (1, .inr (.inr u))]) (st' := [.inr (.inr t)]) rfl ?_
  refine k_get (a := t) (x := (kTo t n)) (v := .inl (H.1 t 1)) rfl rfl ht.1 (iT0 ht) rfl rfl rfl ?_
  have g1 : 0 ≤ (H.1 t 1) ∧ (H.1 t 1) ≤ n := kn hI ht.1 1
  refine k_run 0 (pc' := 4) (l' := [(0, .inr (.inr t)), (1, .inr (.inr u))]) (st' := [.inl (H.1 t 1)]) rfl ?_
  refine k_run 1 (pc' := 5) (l' := [(0, .inr (.inr t)), (1, .inr (.inr u))]) (st' := [.inr (.inr u), .inl (H.1 t 1)]) rfl ?_
  refine k_get (a := u) (x := (kTo u m)) (v := .inl (H.1 u 1)) rfl rfl hu.1 (iT0 hu) rfl rfl rfl ?_
  have g2 : 0 ≤ (H.1 u 1) ∧ (H.1 u 1) ≤ m := kn hI hu.1 1
  refine k_run 0 (pc' := 8) (l' := [(0, .inr (.inr t)), (1, .inr (.inr u))]) (st' := [.inl (H.1 u 1), .inl (H.1 t 1)]) rfl ?_
  refine h_ine (off := 16) (t := 24) rfl rfl (by omega) (by omega) (fun c3 => ?_) (fun c3 => ?_)
  · refine k_run 0 (pc' := 24) (l' := [(0, .inr (.inr t)), (1, .inr (.inr u))]) (st' := []) rfl ?_
    refine k_run 1 (pc' := 25) (l' := [(0, .inr (.inr t)), (1, .inr (.inr u))]) (st' := [.inl 0]) rfl ?_
    refine h_retz (x := 0) rfl rfl (by decide) ?_
    exact ⟨_, rfl, (by omega), rfl⟩
  · refine k_run 0 (pc' := 11) (l' := [(0, .inr (.inr t)), (1, .inr (.inr u))]) (st' := []) rfl ?_
    refine k_run 3 (pc' := 14) (l' := [(0, .inr (.inr t)), (1, .inr (.inr u))]) (st' := [.inr (.inr u), .inl 0, .inr (.inr t)]) rfl ?_
    refine h_cv (i := 32) (j := 56) (b := t) (M' := mt_56) (xs := [.inr (.inr u), .inl 0]) (rest := []) rfl rfl rfl rfl (by rw [zs_K ht.1 (iT0 ht)]; rfl) rfl (Nat.le_of_ble_eq_true rfl) (Nat.le_of_ble_eq_true rfl) (by omega) (k_Term_hasAt (by omega) hI ht (by decide) hu) ?_
    rintro _ _ ⟨z8, rfl, g4, rfl⟩
    refine k_run 0 (pc' := 17) (l' := [(0, .inr (.inr t)), (1, .inr (.inr u))]) (st' := [.inl z8]) rfl ?_
    refine h_zeq (off := 7) (t := 24) rfl rfl (by omega) (fun c9 => ?_) (fun c9 => ?_)
    · refine k_run 0 (pc' := 24) (l' := [(0, .inr (.inr t)), (1, .inr (.inr u))]) (st' := []) rfl ?_
      refine k_run 1 (pc' := 25) (l' := [(0, .inr (.inr t)), (1, .inr (.inr u))]) (st' := [.inl 0]) rfl ?_
      refine h_retz (x := 0) rfl rfl (by decide) ?_
      exact ⟨_, rfl, (by omega), rfl⟩
    · refine k_run 0 (pc' := 20) (l' := [(0, .inr (.inr t)), (1, .inr (.inr u))]) (st' := []) rfl ?_
      refine k_run 2 (pc' := 25) (l' := [(0, .inr (.inr t)), (1, .inr (.inr u))]) (st' := [.inl 1]) rfl ?_
      refine h_retz (x := 1) rfl rfl (by decide) ?_
      exact ⟨_, rfl, (by omega), rfl⟩

/-! Term.areLike -/
set_option maxRecDepth 100000 in
theorem k_Term_areLike_cut {d : Nat} (hd : 2 ≤ d) {H : hp} (hI : Inv H) {t n : Nat} {a : Int} {b : Int} (ht : isT t n) (ha : -2147483648 ≤ a ∧ a ≤ 2147483647) (hb : -2147483648 ≤ b ∧ b ≤ 2147483647) : ∀ w : Nat, (∀ (x3 : Int) (x4 : Int) , (-2147483648 ≤ x3 ∧ x3 ≤ 2147483647) → (-2147483648 ≤ x4 ∧ x4 ≤ 2147483647) → (0 ≤ x4) → (0 ≤ a) → (0 ≤ b) → (a + x3 ≤ H.1 t 1 ∨ x3 ≤ 0) → (b + x3 ≤ H.1 t 1) → (((x3 - x4).toNat) < w) → hG (zs zK) d mt_58 31 [(0, .inr (.inr t)), (1, .inl a), (2, .inl b), (3, .inl x3), (4, .inl x4)] [] H (fun r9 H9 => ∃ z : Int, r9 = some (.inl z) ∧ ((0 ≤ z ∧ z ≤ 1)) ∧ H = H9)) := by
  intro w
  induction w with
  | zero => exact fun _ _ _ _ _ _ _ _ _ h => absurd h (Nat.not_lt_zero _)
  | succ w ih =>
    intro x3 x4 hx3 hx4 hi0 hi1 hi2 hi3 hi4 hw
    have htb := ht.2.2.2.2
    have g10 : 0 ≤ (H.1 t 1) ∧ (H.1 t 1) ≤ n := kn hI ht.1 1
    refine k_run 2 (pc' := 34) (l' := [(0, .inr (.inr t)), (1, .inl a), (2, .inl b), (3, .inl x3), (4, .inl x4)]) (st' := [.inl x3, .inl x4]) rfl ?_
    refine h_ige (off := 32) (t := 66) rfl rfl (by omega) (by omega) (fun c11 => ?_) (fun c11 => ?_)
    · refine k_run 0 (pc' := 66) (l' := [(0, .inr (.inr t)), (1, .inl a), (2, .inl b), (3, .inl x3), (4, .inl x4)]) (st' := []) rfl ?_
      refine k_run 1 (pc' := 67) (l' := [(0, .inr (.inr t)), (1, .inl a), (2, .inl b), (3, .inl x3), (4, .inl x4)]) (st' := [.inl 1]) rfl ?_
      refine h_retz (x := 1) rfl rfl (by decide) ?_
      exact ⟨_, rfl, (by omega), rfl⟩
    · refine k_run 0 (pc' := 37) (l' := [(0, .inr (.inr t)), (1, .inl a), (2, .inl b), (3, .inl x3), (4, .inl x4)]) (st' := []) rfl ?_
      refine k_run 1 (pc' := 38) (l' := [(0, .inr (.inr t)), (1, .inl a), (2, .inl b), (3, .inl x3), (4, .inl x4)]) (st' := [.inr (.inr t)]) rfl ?_
      refine k_get (a := t) (x := (kTo t n)) (v := .inr (.inr (t + 1))) rfl rfl ht.1 (iT0 ht) rfl rfl rfl ?_
      refine k_run 0 (pc' := 41) (l' := [(0, .inr (.inr t)), (1, .inl a), (2, .inl b), (3, .inl x3), (4, .inl x4)]) (st' := [.inr (.inr (t + 1))]) rfl ?_
      refine k_run 3 (pc' := 45) (l' := [(0, .inr (.inr t)), (1, .inl a), (2, .inl b), (3, .inl x3), (4, .inl x4)]) (st' := [.inl (a + x4), .inr (.inr (t + 1))]) rfl ?_
      refine k_ild (c := (t + 1)) (j := ((a + x4)).toNat) (i := (a + x4)) (x := (kTc n)) rfl ht.2.1 (iT1 ht) rfl (by omega) (by omega) (by omega) ?_
      have g12 : -2147483648 ≤ (H.1 (t + 1) ((a + x4)).toNat) ∧ (H.1 (t + 1) ((a + x4)).toNat) ≤ 2147483647 := kn hI ht.2.1 ((a + x4)).toNat
      refine k_run 0 (pc' := 46) (l' := [(0, .inr (.inr t)), (1, .inl a), (2, .inl b), (3, .inl x3), (4, .inl x4)]) (st' := [.inl (H.1 (t + 1) ((a + x4)).toNat)]) rfl ?_
      refine k_run 1 (pc' := 47) (l' := [(0, .inr (.inr t)), (1, .inl a), (2, .inl b), (3, .inl x3), (4, .inl x4)]) (st' := [.inr (.inr t), .inl (H.1 (t + 1) ((a + x4)).toNat)]) rfl ?_
      refine k_get (a := t) (x := (kTo t n)) (v := .inr (.inr (t + 1))) rfl rfl ht.1 (iT0 ht) rfl rfl rfl ?_
      refine k_run 0 (pc' := 50) (l' := [(0, .inr (.inr t)), (1, .inl a), (2, .inl b), (3, .inl x3), (4, .inl x4)]) (st' := [.inr (.inr (t + 1)), .inl (H.1 (t + 1) ((a + x4)).toNat)]) rfl ?_
      refine k_run 3 (pc' := 54) (l' := [(0, .inr (.inr t)), (1, .inl a), (2, .inl b), (3, .inl x3), (4, .inl x4)]) (st' := [.inl (b + x4), .inr (.inr (t + 1)), .inl (H.1 (t + 1) ((a + x4)).toNat)]) rfl ?_
      refine k_ild (c := (t + 1)) (j := ((b + x4)).toNat) (i := (b + x4)) (x := (kTc n)) rfl ht.2.1 (iT1 ht) rfl (by omega) (by omega) (by omega) ?_
      have g13 : -2147483648 ≤ (H.1 (t + 1) ((b + x4)).toNat) ∧ (H.1 (t + 1) ((b + x4)).toNat) ≤ 2147483647 := kn hI ht.2.1 ((b + x4)).toNat
      refine k_run 0 (pc' := 55) (l' := [(0, .inr (.inr t)), (1, .inl a), (2, .inl b), (3, .inl x3), (4, .inl x4)]) (st' := [.inl (H.1 (t + 1) ((b + x4)).toNat), .inl (H.1 (t + 1) ((a + x4)).toNat)]) rfl ?_
      refine h_ieq (off := 5) (t := 60) rfl rfl (by omega) (by omega) (fun c14 => ?_) (fun c14 => ?_)
      · refine k_run 0 (pc' := 60) (l' := [(0, .inr (.inr t)), (1, .inl a), (2, .inl b), (3, .inl x3), (4, .inl x4)]) (st' := []) rfl ?_
        refine k_run 2 (pc' := 31) (l' := [(0, .inr (.inr t)), (1, .inl a), (2, .inl b), (3, .inl x3), (4, .inl (x4 + 1))]) (st' := []) rfl ?_
        exact ih x3 (x4 + 1) (by omega) (by omega) (by omega) (by omega) (by omega) (by omega) (by omega) (by omega)
      · refine k_run 0 (pc' := 58) (l' := [(0, .inr (.inr t)), (1, .inl a), (2, .inl b), (3, .inl x3), (4, .inl x4)]) (st' := []) rfl ?_
        refine k_run 1 (pc' := 59) (l' := [(0, .inr (.inr t)), (1, .inl a), (2, .inl b), (3, .inl x3), (4, .inl x4)]) (st' := [.inl 0]) rfl ?_
        refine h_retz (x := 0) rfl rfl (by decide) ?_
        exact ⟨_, rfl, (by omega), rfl⟩
set_option maxRecDepth 100000 in
theorem k_Term_areLike {d : Nat} (hd : 2 ≤ d) {H : hp} (hI : Inv H) {t n : Nat} {a : Int} {b : Int} (ht : isT t n) (ha : -2147483648 ≤ a ∧ a ≤ 2147483647) (hb : -2147483648 ≤ b ∧ b ≤ 2147483647) : hG (zs zK) d mt_58 0 (zargs 0 [.inr (.inr t), .inl a, .inl b]) [] H (fun r9 H9 => ∃ z : Int, r9 = some (.inl z) ∧ ((0 ≤ z ∧ z ≤ 1)) ∧ H = H9) := by
  have htb := ht.2.2.2.2
  refine k_run 0 (pc' := 0) (l' := [(0, .inr (.inr t)), (1, .inl a), (2, .inl b)]) (st' := []) rfl ?_
  refine k_run 2 (pc' := 2) (l' := [(0, .inr (.inr t)), (1, .inl a), (2, .inl b)]) (st' := [.inl a, .inr (.inr t)]) rfl ?_
  refine h_cv (i := 36) (j := 53) (b := t) (M' := mt_53) (xs := [.inl a]) (rest := []) rfl rfl rfl rfl (by rw [zs_K ht.1 (iT0 ht)]; rfl) rfl (Nat.le_of_ble_eq_true rfl) (Nat.le_of_ble_eq_true rfl) (by omega) (k_Term_behind (by omega) hI ht (by omega)) ?_
  rintro _ _ ⟨z5, rfl, g1, rfl⟩
  refine k_run 0 (pc' := 5) (l' := [(0, .inr (.inr t)), (1, .inl a), (2, .inl b)]) (st' := [.inl z5]) rfl ?_
  refine k_run 4 (pc' := 9) (l' := [(0, .inr (.inr t)), (1, .inl a), (2, .inl b), (3, .inl (z5 - a))]) (st' := [.inl a]) rfl ?_
  refine h_zlt (off := 17) (t := 26) rfl rfl (by omega) (fun c6 => ?_) (fun c6 => ?_)
  · refine k_run 0 (pc' := 26) (l' := [(0, .inr (.inr t)), (1, .inl a), (2, .inl b), (3, .inl (z5 - a))]) (st' := []) rfl ?_
    refine k_run 1 (pc' := 27) (l' := [(0, .inr (.inr t)), (1, .inl a), (2, .inl b), (3, .inl (z5 - a))]) (st' := [.inl 0]) rfl ?_
    refine h_retz (x := 0) rfl rfl (by decide) ?_
    exact ⟨_, rfl, (by omega), rfl⟩
  · refine k_run 0 (pc' := 12) (l' := [(0, .inr (.inr t)), (1, .inl a), (2, .inl b), (3, .inl (z5 - a))]) (st' := []) rfl ?_
    refine k_run 1 (pc' := 13) (l' := [(0, .inr (.inr t)), (1, .inl a), (2, .inl b), (3, .inl (z5 - a))]) (st' := [.inl b]) rfl ?_
    refine h_zlt (off := 13) (t := 26) rfl rfl (by omega) (fun c7 => ?_) (fun c7 => ?_)
    · refine k_run 0 (pc' := 26) (l' := [(0, .inr (.inr t)), (1, .inl a), (2, .inl b), (3, .inl (z5 - a))]) (st' := []) rfl ?_
      refine k_run 1 (pc' := 27) (l' := [(0, .inr (.inr t)), (1, .inl a), (2, .inl b), (3, .inl (z5 - a))]) (st' := [.inl 0]) rfl ?_
      refine h_retz (x := 0) rfl rfl (by decide) ?_
      exact ⟨_, rfl, (by omega), rfl⟩
    · refine k_run 0 (pc' := 16) (l' := [(0, .inr (.inr t)), (1, .inl a), (2, .inl b), (3, .inl (z5 - a))]) (st' := []) rfl ?_
      refine k_run 2 (pc' := 18) (l' := [(0, .inr (.inr t)), (1, .inl a), (2, .inl b), (3, .inl (z5 - a))]) (st' := [.inr (.inr t), .inl (z5 - a)]) rfl ?_
      refine k_get (a := t) (x := (kTo t n)) (v := .inl (H.1 t 1)) rfl rfl ht.1 (iT0 ht) rfl rfl rfl ?_
      have g8 : 0 ≤ (H.1 t 1) ∧ (H.1 t 1) ≤ n := kn hI ht.1 1
      refine k_run 0 (pc' := 21) (l' := [(0, .inr (.inr t)), (1, .inl a), (2, .inl b), (3, .inl (z5 - a))]) (st' := [.inl (H.1 t 1), .inl (z5 - a)]) rfl ?_
      refine k_run 2 (pc' := 23) (l' := [(0, .inr (.inr t)), (1, .inl a), (2, .inl b), (3, .inl (z5 - a))]) (st' := [.inl ((H.1 t 1) - b), .inl (z5 - a)]) rfl ?_
      refine h_ile (off := 5) (t := 28) rfl rfl (by omega) (by omega) (fun c9 => ?_) (fun c9 => ?_)
      · refine k_run 0 (pc' := 28) (l' := [(0, .inr (.inr t)), (1, .inl a), (2, .inl b), (3, .inl (z5 - a))]) (st' := []) rfl ?_
        refine k_run 2 (pc' := 31) (l' := [(0, .inr (.inr t)), (1, .inl a), (2, .inl b), (3, .inl (z5 - a)), (4, .inl 0)]) (st' := []) rfl ?_
        exact (k_Term_areLike_cut hd hI ht ha hb _) (z5 - a) (0 : Int) (by omega) (by decide) (by omega) (by omega) (by omega) (by omega) (by omega) (Nat.lt_succ_self _)
      · refine k_run 0 (pc' := 26) (l' := [(0, .inr (.inr t)), (1, .inl a), (2, .inl b), (3, .inl (z5 - a))]) (st' := []) rfl ?_
        refine k_run 1 (pc' := 27) (l' := [(0, .inr (.inr t)), (1, .inl a), (2, .inl b), (3, .inl (z5 - a))]) (st' := [.inl 0]) rfl ?_
        refine h_retz (x := 0) rfl rfl (by decide) ?_
        exact ⟨_, rfl, (by omega), rfl⟩

/-! Term.copyReplacing -/
set_option maxRecDepth 100000 in
theorem k_Term_copyReplacing_cut {d : Nat} (hd : 2 ≤ d) {H : hp} (hI : Inv H) {t n : Nat} {u m : Nat} {v o : Nat} {s k : Nat} (ht : isT t n) (hu : isT u m) (hv : isT v o) (hs : isT s k) : ∀ w : Nat, (∀ (H1 : hp), Inv H1 → fq [] [] false H H1 → ∀ (x4 : Int) (x5 : Int) (x6 : Int) , (-2147483648 ≤ x4 ∧ x4 ≤ 2147483647) → (-2147483648 ≤ x5 ∧ x5 ≤ 2147483647) → (-2147483648 ≤ x6 ∧ x6 ≤ 2147483647) → (0 ≤ x4) → (0 ≤ x5 ∧ x5 ≤ 1) → (0 ≤ x6) → (((1000 - x6).toNat) < w) → hG (zs zK) d mt_59 25 [(0, .inr (.inr t)), (1, .inr (.inr u)), (2, .inr (.inr v)), (3, .inr (.inr s)), (4, .inl x4), (5, .inl x5), (6, .inl x6)] [] H1 (fun r9 H9 => ∃ z : Int, r9 = some (.inl z) ∧ ((0 ≤ z ∧ z ≤ 1)) ∧ Inv H9 ∧ fq [] [] false H H9)) := by
  intro w
  induction w with
  | zero => exact fun _ _ _ _ _ _ _ _ _ _ _ _ h => absurd h (Nat.not_lt_zero _)
  | succ w ih =>
    intro H1 hI1 hf1 x4 x5 x6 hx4 hx5 hx6 hi0 hi1 hi2 hw
    have htb := ht.2.2.2.2
    have hub := hu.2.2.2.2
    have hvb := hv.2.2.2.2
    have hsb := hs.2.2.2.2
    refine k_run 1 (pc' := 27) (l' := [(0, .inr (.inr t)), (1, .inr (.inr u)), (2, .inr (.inr v)), (3, .inr (.inr s)), (4, .inl x4), (5, .inl x5), (6, .inl x6)]) (st' := [.inl x5]) rfl ?_
    refine h_zeq (off := 85) (t := 112) rfl rfl (by omega) (fun c8 => ?_) (fun c8 => ?_)
    · refine k_run 0 (pc' := 112) (l' := [(0, .inr (.inr t)), (1, .inr (.inr u)), (2, .inr (.inr v)), (3, .inr (.inr s)), (4, .inl x4), (5, .inl x5), (6, .inl x6)]) (st' := []) rfl ?_
      refine k_run 1 (pc' := 114) (l' := [(0, .inr (.inr t)), (1, .inr (.inr u)), (2, .inr (.inr v)), (3, .inr (.inr s)), (4, .inl x4), (5, .inl x5), (6, .inl x6)]) (st' := [.inl x5]) rfl ?_
      refine h_retz (x := x5) rfl rfl (by omega) ?_
      exact ⟨_, rfl, (by omega), hI1, hf1⟩
    · refine k_run 0 (pc' := 30) (l' := [(0, .inr (.inr t)), (1, .inr (.inr u)), (2, .inr (.inr v)), (3, .inr (.inr s)), (4, .inl x4), (5, .inl x5), (6, .inl x6)]) (st' := []) rfl ?_
      refine k_run 2 (pc' := 33) (l' := [(0, .inr (.inr t)), (1, .inr (.inr u)), (2, .inr (.inr v)), (3, .inr (.inr s)), (4, .inl x4), (5, .inl x5), (6, .inl x6)]) (st' := [.inr (.inr u), .inl x6]) rfl ?_
      refine k_get (a := u) (x := (kTo u m)) (v := .inl (H1.1 u 1)) rfl rfl hu.1 (iT0 hu) rfl rfl rfl ?_
      have g9 : 0 ≤ (H1.1 u 1) ∧ (H1.1 u 1) ≤ m := kn hI1 hu.1 1
      refine k_run 0 (pc' := 36) (l' := [(0, .inr (.inr t)), (1, .inr (.inr u)), (2, .inr (.inr v)), (3, .inr (.inr s)), (4, .inl x4), (5, .inl x5), (6, .inl x6)]) (st' := [.inl (H1.1 u 1), .inl x6]) rfl ?_
      refine h_ige (off := 76) (t := 112) rfl rfl (by omega) (by omega) (fun c10 => ?_) (fun c10 => ?_)
      · refine k_run 0 (pc' := 112) (l' := [(0, .inr (.inr t)), (1, .inr (.inr u)), (2, .inr (.inr v)), (3, .inr (.inr s)), (4, .inl x4), (5, .inl x5), (6, .inl x6)]) (st' := []) rfl ?_
        refine k_run 1 (pc' := 114) (l' := [(0, .inr (.inr t)), (1, .inr (.inr u)), (2, .inr (.inr v)), (3, .inr (.inr s)), (4, .inl x4), (5, .inl x5), (6, .inl x6)]) (st' := [.inl x5]) rfl ?_
        refine h_retz (x := x5) rfl rfl (by omega) ?_
        exact ⟨_, rfl, (by omega), hI1, hf1⟩
      · refine k_run 0 (pc' := 39) (l' := [(0, .inr (.inr t)), (1, .inr (.inr u)), (2, .inr (.inr v)), (3, .inr (.inr s)), (4, .inl x4), (5, .inl x5), (6, .inl x6)]) (st' := []) rfl ?_
        refine k_run 2 (pc' := 42) (l' := [(0, .inr (.inr t)), (1, .inr (.inr u)), (2, .inr (.inr v)), (3, .inr (.inr s)), (4, .inl x4), (5, .inl x5), (6, .inl x6)]) (st' := [.inr (.inr u), .inl x4]) rfl ?_
        refine k_get (a := u) (x := (kTo u m)) (v := .inl (H1.1 u 1)) rfl rfl hu.1 (iT0 hu) rfl rfl rfl ?_
        refine k_run 0 (pc' := 45) (l' := [(0, .inr (.inr t)), (1, .inr (.inr u)), (2, .inr (.inr v)), (3, .inr (.inr s)), (4, .inl x4), (5, .inl x5), (6, .inl x6)]) (st' := [.inl (H1.1 u 1), .inl x4]) rfl ?_
        refine h_ige (off := 67) (t := 112) rfl rfl (by omega) (by omega) (fun c11 => ?_) (fun c11 => ?_)
        · refine k_run 0 (pc' := 112) (l' := [(0, .inr (.inr t)), (1, .inr (.inr u)), (2, .inr (.inr v)), (3, .inr (.inr s)), (4, .inl x4), (5, .inl x5), (6, .inl x6)]) (st' := []) rfl ?_
          refine k_run 1 (pc' := 114) (l' := [(0, .inr (.inr t)), (1, .inr (.inr u)), (2, .inr (.inr v)), (3, .inr (.inr s)), (4, .inl x4), (5, .inl x5), (6, .inl x6)]) (st' := [.inl x5]) rfl ?_
          refine h_retz (x := x5) rfl rfl (by omega) ?_
          exact ⟨_, rfl, (by omega), hI1, hf1⟩
        · refine k_run 0 (pc' := 48) (l' := [(0, .inr (.inr t)), (1, .inr (.inr u)), (2, .inr (.inr v)), (3, .inr (.inr s)), (4, .inl x4), (5, .inl x5), (6, .inl x6)]) (st' := []) rfl ?_
          refine k_run 3 (pc' := 52) (l' := [(0, .inr (.inr t)), (1, .inr (.inr u)), (2, .inr (.inr v)), (3, .inr (.inr s)), (4, .inl x4), (5, .inl x5), (6, .inl x6)]) (st' := [.inr (.inr v), .inl x4, .inr (.inr u)]) rfl ?_
          refine h_cv (i := 32) (j := 56) (b := u) (M' := mt_56) (xs := [.inr (.inr v), .inl x4]) (rest := []) rfl rfl rfl rfl (by rw [zs_K hu.1 (iT0 hu)]; rfl) rfl (Nat.le_of_ble_eq_true rfl) (Nat.le_of_ble_eq_true rfl) (by omega) (k_Term_hasAt (by omega) hI1 hu (by omega) hv) ?_
          rintro _ _ ⟨z16, rfl, g12, rfl⟩
          refine k_run 0 (pc' := 55) (l' := [(0, .inr (.inr t)), (1, .inr (.inr u)), (2, .inr (.inr v)), (3, .inr (.inr s)), (4, .inl x4), (5, .inl x5), (6, .inl x6)]) (st' := [.inl z16]) rfl ?_
          refine k_run 2 (pc' := 59) (l' := [(0, .inr (.inr t)), (1, .inr (.inr u)), (2, .inr (.inr v)), (3, .inr (.inr s)), (4, .inl x4), (5, .inl x5), (6, .inl x6), (7, .inl z16)]) (st' := [.inl z16]) rfl ?_
          refine h_zeq (off := 16) (t := 75) rfl rfl (by omega) (fun c17 => ?_) (fun c17 => ?_)
          · refine k_run 0 (pc' := 75) (l' := [(0, .inr (.inr t)), (1, .inr (.inr u)), (2, .inr (.inr v)), (3, .inr (.inr s)), (4, .inl x4), (5, .inl x5), (6, .inl x6), (7, .inl z16)]) (st' := []) rfl ?_
            refine k_run 6 (pc' := 83) (l' := [(0, .inr (.inr t)), (1, .inr (.inr u)), (2, .inr (.inr v)), (3, .inr (.inr s)), (4, .inl x4), (5, .inl x5), (6, .inl x6), (7, .inl z16)]) (st' := [.inl (x4 + 1), .inl x4, .inr (.inr u), .inr (.inr t)]) rfl ?_
            refine h_cv (i := 40) (j := 54) (b := t) (M' := mt_54) (xs := [.inl (x4 + 1), .inl x4, .inr (.inr u)]) (rest := []) rfl rfl rfl rfl (by rw [zs_K ht.1 (iT0 ht)]; rfl) rfl (Nat.le_of_ble_eq_true rfl) (Nat.le_of_ble_eq_true rfl) (by omega) (k_Term_append (by omega) hI1 ht hu (by omega) (by omega) (by omega)) ?_
            rintro _ H19 ⟨z22, rfl, g18, hI20, hq21⟩
            have hf23 : fq [] [] false H H19 := fq_t hf1 hq21 rfl rfl rfl
            refine k_run 0 (pc' := 86) (l' := [(0, .inr (.inr t)), (1, .inr (.inr u)), (2, .inr (.inr v)), (3, .inr (.inr s)), (4, .inl x4), (5, .inl x5), (6, .inl x6), (7, .inl z16)]) (st' := [.inl z22]) rfl ?_
            refine k_run 3 (pc' := 92) (l' := [(0, .inr (.inr t)), (1, .inr (.inr u)), (2, .inr (.inr v)), (3, .inr (.inr s)), (4, .inl x4), (5, .inl z22), (6, .inl x6), (7, .inl z16)]) (st' := [.inl z16, .inl x4]) rfl ?_
            refine h_zeq (off := 10) (t := 102) rfl rfl (by omega) (fun c24 => ?_) (fun c24 => ?_)
            · refine k_run 0 (pc' := 102) (l' := [(0, .inr (.inr t)), (1, .inr (.inr u)), (2, .inr (.inr v)), (3, .inr (.inr s)), (4, .inl x4), (5, .inl z22), (6, .inl x6), (7, .inl z16)]) (st' := [.inl x4]) rfl ?_
              refine k_run 5 (pc' := 25) (l' := [(0, .inr (.inr t)), (1, .inr (.inr u)), (2, .inr (.inr v)), (3, .inr (.inr s)), (4, .inl (x4 + 1)), (5, .inl z22), (6, .inl (x6 + 1)), (7, .inl z16)]) (st' := []) rfl ?_
              refine h_loc [0, 1, 2, 3, 4, 5, 6] rfl ?_
              exact ih H19 hI20 hf23 (x4 + 1) z22 (x6 + 1) (by omega) (by omega) (by omega) (by omega) (by omega) (by omega) (by omega)
            · exfalso
              omega
          · refine k_run 0 (pc' := 62) (l' := [(0, .inr (.inr t)), (1, .inr (.inr u)), (2, .inr (.inr v)), (3, .inr (.inr s)), (4, .inl x4), (5, .inl x5), (6, .inl x6), (7, .inl z16)]) (st' := []) rfl ?_
            refine k_run 4 (pc' := 66) (l' := [(0, .inr (.inr t)), (1, .inr (.inr u)), (2, .inr (.inr v)), (3, .inr (.inr s)), (4, .inl x4), (5, .inl x5), (6, .inl x6), (7, .inl z16)]) (st' := [.inr (.inr s), .inl 0, .inr (.inr s), .inr (.inr t)]) rfl ?_
            refine k_get (a := s) (x := (kTo s k)) (v := .inl (H1.1 s 1)) rfl rfl hs.1 (iT0 hs) rfl rfl rfl ?_
            have g25 : 0 ≤ (H1.1 s 1) ∧ (H1.1 s 1) ≤ k := kn hI1 hs.1 1
            refine k_run 0 (pc' := 69) (l' := [(0, .inr (.inr t)), (1, .inr (.inr u)), (2, .inr (.inr v)), (3, .inr (.inr s)), (4, .inl x4), (5, .inl x5), (6, .inl x6), (7, .inl z16)]) (st' := [.inl (H1.1 s 1), .inl 0, .inr (.inr s), .inr (.inr t)]) rfl ?_
            refine h_cv (i := 40) (j := 54) (b := t) (M' := mt_54) (xs := [.inl (H1.1 s 1), .inl 0, .inr (.inr s)]) (rest := []) rfl rfl rfl rfl (by rw [zs_K ht.1 (iT0 ht)]; rfl) rfl (Nat.le_of_ble_eq_true rfl) (Nat.le_of_ble_eq_true rfl) (by omega) (k_Term_append (by omega) hI1 ht hs (by decide) (by omega) (by omega)) ?_
            rintro _ H27 ⟨z30, rfl, g26, hI28, hq29⟩
            have hf31 : fq [] [] false H H27 := fq_t hf1 hq29 rfl rfl rfl
            refine k_run 0 (pc' := 72) (l' := [(0, .inr (.inr t)), (1, .inr (.inr u)), (2, .inr (.inr v)), (3, .inr (.inr s)), (4, .inl x4), (5, .inl x5), (6, .inl x6), (7, .inl z16)]) (st' := [.inl z30]) rfl ?_
            refine k_run 4 (pc' := 92) (l' := [(0, .inr (.inr t)), (1, .inr (.inr u)), (2, .inr (.inr v)), (3, .inr (.inr s)), (4, .inl x4), (5, .inl z30), (6, .inl x6), (7, .inl z16)]) (st' := [.inl z16, .inl x4]) rfl ?_
            refine h_zeq (off := 10) (t := 102) rfl rfl (by omega) (fun c32 => ?_) (fun c32 => ?_)
            · exfalso
              omega
            · refine k_run 0 (pc' := 95) (l' := [(0, .inr (.inr t)), (1, .inr (.inr u)), (2, .inr (.inr v)), (3, .inr (.inr s)), (4, .inl x4), (5, .inl z30), (6, .inl x6), (7, .inl z16)]) (st' := [.inl x4]) rfl ?_
              refine k_run 1 (pc' := 96) (l' := [(0, .inr (.inr t)), (1, .inr (.inr u)), (2, .inr (.inr v)), (3, .inr (.inr s)), (4, .inl x4), (5, .inl z30), (6, .inl x6), (7, .inl z16)]) (st' := [.inr (.inr v), .inl x4]) rfl ?_
              refine k_get (a := v) (x := (kTo v o)) (v := .inl (H27.1 v 1)) rfl rfl hv.1 (iT0 hv) rfl rfl rfl ?_
              have g33 : 0 ≤ (H27.1 v 1) ∧ (H27.1 v 1) ≤ o := kn hI28 hv.1 1
              refine k_run 0 (pc' := 99) (l' := [(0, .inr (.inr t)), (1, .inr (.inr u)), (2, .inr (.inr v)), (3, .inr (.inr s)), (4, .inl x4), (5, .inl z30), (6, .inl x6), (7, .inl z16)]) (st' := [.inl (H27.1 v 1), .inl x4]) rfl ?_
              refine k_run 5 (pc' := 25) (l' := [(0, .inr (.inr t)), (1, .inr (.inr u)), (2, .inr (.inr v)), (3, .inr (.inr s)), (4, .inl (x4 + (H27.1 v 1))), (5, .inl z30), (6, .inl (x6 + 1)), (7, .inl z16)]) (st' := []) rfl ?_
              refine h_loc [0, 1, 2, 3, 4, 5, 6] rfl ?_
              exact ih H27 hI28 hf31 (x4 + (H27.1 v 1)) z30 (x6 + 1) (by omega) (by omega) (by omega) (by omega) (by omega) (by omega) (by omega)
set_option maxRecDepth 100000 in
theorem k_Term_copyReplacing {d : Nat} (hd : 2 ≤ d) {H : hp} (hI : Inv H) {t n : Nat} {u m : Nat} {v o : Nat} {s k : Nat} (ht : isT t n) (hu : isT u m) (hv : isT v o) (hs : isT s k) : hG (zs zK) d mt_59 0 (zargs 0 [.inr (.inr t), .inr (.inr u), .inr (.inr v), .inr (.inr s)]) [] H (fun r9 H9 => ∃ z : Int, r9 = some (.inl z) ∧ ((0 ≤ z ∧ z ≤ 1)) ∧ Inv H9 ∧ fq [] [] false H H9) := by
  have htb := ht.2.2.2.2
  have hub := hu.2.2.2.2
  have hvb := hv.2.2.2.2
  have hsb := hs.2.2.2.2
  refine k_run 0 (pc' := 0) (l' := [(0, .inr (.inr t)), (1, .inr (.inr u)), (2, .inr (.inr v)), (3, .inr (.inr s))]) (st' := []) rfl ?_
  refine k_run 2 (pc' := 2) (l' := [(0, .inr (.inr t)), (1, .inr (.inr u)), (2, .inr (.inr v)), (3, .inr (.inr s))]) (st' := [.inl 0, .inr (.inr t)]) rfl ?_
  refine k_puti (z := 0) (a := t) (x := (kTo t n)) rfl rfl ht.1 (iT0 ht) ht.2.2.1 rfl rfl rfl rfl hI (by decide) (show 0 ≤ (0 : Int) ∧ (0 : Int) ≤ n by omega) (fun H1 hI2 hw3 hv4 => ?_)
  have hf5 : fq [] [] false H H1 := fq_w (fq_rf _ _ _ _) hw3 (fpT ht)
  refine k_run 0 (pc' := 5) (l' := [(0, .inr (.inr t)), (1, .inr (.inr u)), (2, .inr (.inr v)), (3, .inr (.inr s))]) (st' := []) rfl ?_
  refine k_run 3 (pc' := 9) (l' := [(0, .inr (.inr t)), (1, .inr (.inr u)), (2, .inr (.inr v)), (3, .inr (.inr s)), (4, .inl 0)]) (st' := [.inr (.inr v)]) rfl ?_
  refine k_get (a := v) (x := (kTo v o)) (v := .inl (H1.1 v 1)) rfl rfl hv.1 (iT0 hv) rfl rfl rfl ?_
  have g6 : 0 ≤ (H1.1 v 1) ∧ (H1.1 v 1) ≤ o := kn hI2 hv.1 1
  refine k_run 0 (pc' := 12) (l' := [(0, .inr (.inr t)), (1, .inr (.inr u)), (2, .inr (.inr v)), (3, .inr (.inr s)), (4, .inl 0)]) (st' := [.inl (H1.1 v 1)]) rfl ?_
  refine h_zle (off := 7) (t := 19) rfl rfl (by omega) (fun c7 => ?_) (fun c7 => ?_)
  · refine k_run 0 (pc' := 19) (l' := [(0, .inr (.inr t)), (1, .inr (.inr u)), (2, .inr (.inr v)), (3, .inr (.inr s)), (4, .inl 0)]) (st' := []) rfl ?_
    refine k_run 4 (pc' := 25) (l' := [(0, .inr (.inr t)), (1, .inr (.inr u)), (2, .inr (.inr v)), (3, .inr (.inr s)), (4, .inl 0), (5, .inl 0), (6, .inl 0)]) (st' := []) rfl ?_
    exact (k_Term_copyReplacing_cut hd hI ht hu hv hs _) H1 hI2 hf5 (0 : Int) (0 : Int) (0 : Int) (by decide) (by decide) (by decide) (by omega) (by omega) (by omega) (Nat.lt_succ_self _)
  · refine k_run 0 (pc' := 15) (l' := [(0, .inr (.inr t)), (1, .inr (.inr u)), (2, .inr (.inr v)), (3, .inr (.inr s)), (4, .inl 0)]) (st' := []) rfl ?_
    refine k_run 5 (pc' := 25) (l' := [(0, .inr (.inr t)), (1, .inr (.inr u)), (2, .inr (.inr v)), (3, .inr (.inr s)), (4, .inl 0), (5, .inl 1), (6, .inl 0)]) (st' := []) rfl ?_
    exact (k_Term_copyReplacing_cut hd hI ht hu hv hs _) H1 hI2 hf5 (0 : Int) (1 : Int) (0 : Int) (by decide) (by decide) (by decide) (by omega) (by omega) (by omega) (Nat.lt_succ_self _)

/-! Term.variables -/
set_option maxRecDepth 100000 in
theorem k_Term_variables_cut {d : Nat} (hd : 2 ≤ d) {H : hp} (hI : Inv H) {t n : Nat} (ht : isT t n) : ∀ w : Nat, (∀ (x1 : Int) (x3 : Int) , (-9223372036854775808 ≤ x1 ∧ x1 ≤ 9223372036854775807) → (-2147483648 ≤ x3 ∧ x3 ≤ 2147483647) → (0 ≤ x3) → (((1000 - x3).toNat) < w) → hG (zs zK) d mt_60 4 [(0, .inr (.inr t)), (1, .inr (.inl x1)), (3, .inl x3)] [] H (fun r9 H9 => ∃ z : Int, r9 = some (.inr (.inl z)) ∧ (-9223372036854775808 ≤ z ∧ z ≤ 9223372036854775807) ∧ H = H9)) := by
  intro w
  induction w with
  | zero => exact fun _ _ _ _ _ h => absurd h (Nat.not_lt_zero _)
  | succ w ih =>
    intro x1 x3 hx1 hx3 hi0 hw
    have htb := ht.2.2.2.2
    refine k_run 2 (pc' := 6) (l' := [(0, .inr (.inr t)), (1, .inr (.inl x1)), (3, .inl x3)]) (st' := [.inr (.inr t), .inl x3]) rfl ?_
    refine k_get (a := t) (x := (kTo t n)) (v := .inl (H.1 t 1)) rfl rfl ht.1 (iT0 ht) rfl rfl rfl ?_
    have g1 : 0 ≤ (H.1 t 1) ∧ (H.1 t 1) ≤ n := kn hI ht.1 1
    refine k_run 0 (pc' := 9) (l' := [(0, .inr (.inr t)), (1, .inr (.inl x1)), (3, .inl x3)]) (st' := [.inl (H.1 t 1), .inl x3]) rfl ?_
    refine h_ige (off := 36) (t := 45) rfl rfl (by omega) (by omega) (fun c2 => ?_) (fun c2 => ?_)
    · refine k_run 0 (pc' := 45) (l' := [(0, .inr (.inr t)), (1, .inr (.inl x1)), (3, .inl x3)]) (st' := []) rfl ?_
      refine k_run 1 (pc' := 46) (l' := [(0, .inr (.inr t)), (1, .inr (.inl x1)), (3, .inl x3)]) (st' := [.inr (.inl x1)]) rfl ?_
      refine h_retl (x := x1) rfl rfl ?_
      exact ⟨_, rfl, (by omega), rfl⟩
    · refine k_run 0 (pc' := 12) (l' := [(0, .inr (.inr t)), (1, .inr (.inl x1)), (3, .inl x3)]) (st' := []) rfl ?_
      refine k_run 1 (pc' := 13) (l' := [(0, .inr (.inr t)), (1, .inr (.inl x1)), (3, .inl x3)]) (st' := [.inr (.inr t)]) rfl ?_
      refine k_get (a := t) (x := (kTo t n)) (v := .inr (.inr (t + 1))) rfl rfl ht.1 (iT0 ht) rfl rfl rfl ?_
      refine k_run 0 (pc' := 16) (l' := [(0, .inr (.inr t)), (1, .inr (.inl x1)), (3, .inl x3)]) (st' := [.inr (.inr (t + 1))]) rfl ?_
      refine k_run 1 (pc' := 17) (l' := [(0, .inr (.inr t)), (1, .inr (.inl x1)), (3, .inl x3)]) (st' := [.inl x3, .inr (.inr (t + 1))]) rfl ?_
      refine k_ild (c := (t + 1)) (j := (x3).toNat) (i := x3) (x := (kTc n)) rfl ht.2.1 (iT1 ht) rfl (by omega) (by omega) (by omega) ?_
      have g3 : -2147483648 ≤ (H.1 (t + 1) (x3).toNat) ∧ (H.1 (t + 1) (x3).toNat) ≤ 2147483647 := kn hI ht.2.1 (x3).toNat
      refine k_run 0 (pc' := 18) (l' := [(0, .inr (.inr t)), (1, .inr (.inl x1)), (3, .inl x3)]) (st' := [.inl (H.1 (t + 1) (x3).toNat)]) rfl ?_
      refine h_cs (i := 44) (j := 49) (M' := mt_49) (xs := [.inl (H.1 (t + 1) (x3).toNat)]) (rest := []) rfl rfl rfl rfl rfl (Nat.le_of_ble_eq_true rfl) (Nat.le_of_ble_eq_true rfl) (by omega) (k_Term_kindOf (by omega)  (by omega)) ?_
      rintro _ _ ⟨z8, rfl, g4, rfl⟩
      refine k_run 0 (pc' := 21) (l' := [(0, .inr (.inr t)), (1, .inr (.inl x1)), (3, .inl x3)]) (st' := [.inl z8]) rfl ?_
      refine k_run 1 (pc' := 22) (l' := [(0, .inr (.inr t)), (1, .inr (.inl x1)), (3, .inl x3)]) (st' := [.inl 3, .inl z8]) rfl ?_
      refine h_ine (off := 17) (t := 39) rfl rfl (by omega) (by decide) (fun c9 => ?_) (fun c9 => ?_)
      · refine k_run 0 (pc' := 39) (l' := [(0, .inr (.inr t)), (1, .inr (.inl x1)), (3, .inl x3)]) (st' := []) rfl ?_
        refine k_run 2 (pc' := 4) (l' := [(0, .inr (.inr t)), (1, .inr (.inl x1)), (3, .inl (x3 + 1))]) (st' := []) rfl ?_
        exact ih x1 (x3 + 1) (by omega) (by omega) (by omega) (by omega)
      · refine k_run 0 (pc' := 25) (l' := [(0, .inr (.inr t)), (1, .inr (.inl x1)), (3, .inl x3)]) (st' := []) rfl ?_
        refine k_run 3 (pc' := 28) (l' := [(0, .inr (.inr t)), (1, .inr (.inl x1)), (3, .inl x3)]) (st' := [.inr (.inr t), .inr (.inl 1), .inr (.inl x1)]) rfl ?_
        refine k_get (a := t) (x := (kTo t n)) (v := .inr (.inr (t + 1))) rfl rfl ht.1 (iT0 ht) rfl rfl rfl ?_
        refine k_run 0 (pc' := 31) (l' := [(0, .inr (.inr t)), (1, .inr (.inl x1)), (3, .inl x3)]) (st' := [.inr (.inr (t + 1)), .inr (.inl 1), .inr (.inl x1)]) rfl ?_
        refine k_run 1 (pc' := 32) (l' := [(0, .inr (.inr t)), (1, .inr (.inl x1)), (3, .inl x3)]) (st' := [.inl x3, .inr (.inr (t + 1)), .inr (.inl 1), .inr (.inl x1)]) rfl ?_
        refine k_ild (c := (t + 1)) (j := (x3).toNat) (i := x3) (x := (kTc n)) rfl ht.2.1 (iT1 ht) rfl (by omega) (by omega) (by omega) ?_
        refine k_run 0 (pc' := 33) (l' := [(0, .inr (.inr t)), (1, .inr (.inl x1)), (3, .inl x3)]) (st' := [.inl (H.1 (t + 1) (x3).toNat), .inr (.inl 1), .inr (.inl x1)]) rfl ?_
        refine h_cs (i := 47) (j := 50) (M' := mt_50) (xs := [.inl (H.1 (t + 1) (x3).toNat)]) (rest := [.inr (.inl 1), .inr (.inl x1)]) rfl rfl rfl rfl rfl (Nat.le_of_ble_eq_true rfl) (Nat.le_of_ble_eq_true rfl) (by omega) (k_Term_indexOf (by omega)  (by omega)) ?_
        rintro _ _ ⟨z14, rfl, g10, rfl⟩
        refine k_run 0 (pc' := 36) (l' := [(0, .inr (.inr t)), (1, .inr (.inl x1)), (3, .inl x3)]) (st' := [.inl z14, .inr (.inl 1), .inr (.inl x1)]) rfl ?_
        refine k_run 1 (pc' := 37) (l' := [(0, .inr (.inr t)), (1, .inr (.inl x1)), (3, .inl x3)]) (st' := [.inr (.inl (z_lshl 1 z14)), .inr (.inl x1)]) rfl ?_
        refine k_nrmj (fun y15 hy15 => ?_)
        refine k_run 1 (pc' := 38) (l' := [(0, .inr (.inr t)), (1, .inr (.inl x1)), (3, .inl x3)]) (st' := [.inr (.inl (z_lor x1 y15))]) rfl ?_
        refine k_nrmj (fun y16 hy16 => ?_)
        refine k_run 3 (pc' := 4) (l' := [(0, .inr (.inr t)), (1, .inr (.inl y16)), (3, .inl (x3 + 1))]) (st' := []) rfl ?_
        exact ih y16 (x3 + 1) (by omega) (by omega) (by omega) (by omega)
set_option maxRecDepth 100000 in
theorem k_Term_variables {d : Nat} (hd : 2 ≤ d) {H : hp} (hI : Inv H) {t n : Nat} (ht : isT t n) : hG (zs zK) d mt_60 0 (zargs 0 [.inr (.inr t)]) [] H (fun r9 H9 => ∃ z : Int, r9 = some (.inr (.inl z)) ∧ (-9223372036854775808 ≤ z ∧ z ≤ 9223372036854775807) ∧ H = H9) := by
  have htb := ht.2.2.2.2
  refine k_run 0 (pc' := 0) (l' := [(0, .inr (.inr t))]) (st' := []) rfl ?_
  refine k_run 4 (pc' := 4) (l' := [(0, .inr (.inr t)), (1, .inr (.inl 0)), (3, .inl 0)]) (st' := []) rfl ?_
  exact (k_Term_variables_cut hd hI ht _) (0 : Int) (0 : Int) (by decide) (by decide) (by omega) (Nat.lt_succ_self _)
