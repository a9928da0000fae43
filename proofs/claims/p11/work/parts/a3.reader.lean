/-! the class: the reader -/
/-! Reader.token -/
set_option maxRecDepth 100000 in
theorem k_Reader_token {d : Nat} (hd : 1 ≤ d) {H : hp} (hI : Inv H)   : hG (zs zK) d mt_83 0 (zargs 0 [.inr (.inr 361)]) [] H (fun r9 H9 => ∃ z : Int, r9 = some (.inl z) ∧ ((-2147483648 ≤ z ∧ z ≤ 2147483647)) ∧ H = H9) := by
  refine k_run 0 (pc' := 0) (l' := [(0, .inr (.inr 361))]) (st' := []) rfl ?_
  refine k_run 2 (pc' := 4) (l' := [(0, .inr (.inr 361))]) (st' := [.inl (H.1 361 3)]) rfl ?_
  have g1 : -2147483648 ≤ (H.1 361 3) ∧ (H.1 361 3) ≤ 2147483647 := kn (x := kx_361) hI rfl 3
  refine h_zlt (off := 32) (t := 36) rfl rfl (by omega) (fun c2 => ?_) (fun c2 => ?_)
  · refine k_run 0 (pc' := 36) (l' := [(0, .inr (.inr 361))]) (st' := []) rfl ?_
    refine k_run 1 (pc' := 37) (l' := [(0, .inr (.inr 361))]) (st' := [.inl 0]) rfl ?_
    refine h_reti (x := 0) rfl rfl ?_
    exact ⟨_, rfl, (by omega), rfl⟩
  · refine k_run 0 (pc' := 7) (l' := [(0, .inr (.inr 361))]) (st' := []) rfl ?_
    refine k_run 5 (pc' := 18) (l' := [(0, .inr (.inr 361))]) (st' := [.inl (H.1 2 5), .inl (H.1 361 3)]) rfl ?_
    have g3 : 0 ≤ (H.1 2 5) ∧ (H.1 2 5) ≤ 1001 := kn (x := kx_2) hI rfl 5
    refine h_ige (off := 18) (t := 36) rfl rfl (by omega) (by omega) (fun c4 => ?_) (fun c4 => ?_)
    · refine k_run 0 (pc' := 36) (l' := [(0, .inr (.inr 361))]) (st' := []) rfl ?_
      refine k_run 1 (pc' := 37) (l' := [(0, .inr (.inr 361))]) (st' := [.inl 0]) rfl ?_
      refine h_reti (x := 0) rfl rfl ?_
      exact ⟨_, rfl, (by omega), rfl⟩
    · refine k_run 0 (pc' := 21) (l' := [(0, .inr (.inr 361))]) (st' := []) rfl ?_
      refine k_run 5 (pc' := 32) (l' := [(0, .inr (.inr 361))]) (st' := [.inl (H.1 361 3), .inr (.inr 4)]) rfl ?_
      refine k_ild (c := 4) (j := ((H.1 361 3)).toNat) (i := (H.1 361 3)) (x := kx_4) rfl rfl (by decide) rfl (by decide) (by omega) (by omega) ?_
      have g5 : -2147483648 ≤ (H.1 4 ((H.1 361 3)).toNat) ∧ (H.1 4 ((H.1 361 3)).toNat) ≤ 2147483647 := kn (x := kx_4) hI rfl ((H.1 361 3)).toNat
      refine k_run 0 (pc' := 33) (l' := [(0, .inr (.inr 361))]) (st' := [.inl (H.1 4 ((H.1 361 3)).toNat)]) rfl ?_
      refine k_run 1 (pc' := 37) (l' := [(0, .inr (.inr 361))]) (st' := [.inl (H.1 4 ((H.1 361 3)).toNat)]) rfl ?_
      refine h_reti (x := (H.1 4 ((H.1 361 3)).toNat)) rfl rfl ?_
      exact ⟨_, rfl, (by omega), rfl⟩

/-! Reader.name -/
set_option maxRecDepth 100000 in
theorem k_Reader_name {d : Nat} (hd : 1 ≤ d) {H : hp} (hI : Inv H)   : hG (zs zK) d mt_84 0 (zargs 0 [.inr (.inr 361)]) [] H (fun r9 H9 => ∃ z : Int, r9 = some (.inr (.inl z)) ∧ (-9223372036854775808 ≤ z ∧ z ≤ 9223372036854775807) ∧ H = H9) := by
  refine k_run 0 (pc' := 0) (l' := [(0, .inr (.inr 361))]) (st' := []) rfl ?_
  refine k_run 2 (pc' := 4) (l' := [(0, .inr (.inr 361))]) (st' := [.inl (H.1 361 3)]) rfl ?_
  have g1 : -2147483648 ≤ (H.1 361 3) ∧ (H.1 361 3) ≤ 2147483647 := kn (x := kx_361) hI rfl 3
  refine h_zlt (off := 32) (t := 36) rfl rfl (by omega) (fun c2 => ?_) (fun c2 => ?_)
  · refine k_run 0 (pc' := 36) (l' := [(0, .inr (.inr 361))]) (st' := []) rfl ?_
    refine k_run 1 (pc' := 37) (l' := [(0, .inr (.inr 361))]) (st' := [.inr (.inl 0)]) rfl ?_
    refine h_retl (x := 0) rfl rfl ?_
    exact ⟨_, rfl, (by decide), rfl⟩
  · refine k_run 0 (pc' := 7) (l' := [(0, .inr (.inr 361))]) (st' := []) rfl ?_
    refine k_run 5 (pc' := 18) (l' := [(0, .inr (.inr 361))]) (st' := [.inl (H.1 2 5), .inl (H.1 361 3)]) rfl ?_
    have g3 : 0 ≤ (H.1 2 5) ∧ (H.1 2 5) ≤ 1001 := kn (x := kx_2) hI rfl 5
    refine h_ige (off := 18) (t := 36) rfl rfl (by omega) (by omega) (fun c4 => ?_) (fun c4 => ?_)
    · refine k_run 0 (pc' := 36) (l' := [(0, .inr (.inr 361))]) (st' := []) rfl ?_
      refine k_run 1 (pc' := 37) (l' := [(0, .inr (.inr 361))]) (st' := [.inr (.inl 0)]) rfl ?_
      refine h_retl (x := 0) rfl rfl ?_
      exact ⟨_, rfl, (by decide), rfl⟩
    · refine k_run 0 (pc' := 21) (l' := [(0, .inr (.inr 361))]) (st' := []) rfl ?_
      refine k_run 5 (pc' := 32) (l' := [(0, .inr (.inr 361))]) (st' := [.inl (H.1 361 3), .inr (.inr 6)]) rfl ?_
      refine k_lld (c := 6) (j := ((H.1 361 3)).toNat) (i := (H.1 361 3)) (x := kx_6) rfl rfl (by decide) rfl (by decide) (by omega) (by omega) ?_
      have g5 : -9223372036854775808 ≤ (H.1 6 ((H.1 361 3)).toNat) ∧ (H.1 6 ((H.1 361 3)).toNat) ≤ 9223372036854775807 := kn (x := kx_6) hI rfl ((H.1 361 3)).toNat
      refine k_run 0 (pc' := 33) (l' := [(0, .inr (.inr 361))]) (st' := [.inr (.inl (H.1 6 ((H.1 361 3)).toNat))]) rfl ?_
      refine k_run 1 (pc' := 37) (l' := [(0, .inr (.inr 361))]) (st' := [.inr (.inl (H.1 6 ((H.1 361 3)).toNat))]) rfl ?_
      refine h_retl (x := (H.1 6 ((H.1 361 3)).toNat)) rfl rfl ?_
      exact ⟨_, rfl, (by omega), rfl⟩

/-! Reader.fails -/
set_option maxRecDepth 100000 in
theorem k_Reader_fails {d : Nat} (hd : 1 ≤ d) {H : hp} (hI : Inv H) {a : Int} (ha : -2147483648 ≤ a ∧ a ≤ 2147483647) : hG (zs zK) d mt_86 0 (zargs 0 [.inr (.inr 361), .inl a]) [] H (fun r9 H9 => ∃ z : Int, r9 = some (.inl z) ∧ ((0 ≤ z ∧ z ≤ 1) ∧ (z = 0)) ∧ Inv H9 ∧ fq [(361, 4), (361, 5)] [] false H H9) := by
  refine k_run 0 (pc' := 0) (l' := [(0, .inr (.inr 361)), (1, .inl a)]) (st' := []) rfl ?_
  refine k_run 2 (pc' := 2) (l' := [(0, .inr (.inr 361)), (1, .inl a)]) (st' := [.inl a, .inr (.inr 361)]) rfl ?_
  refine k_putw (a := 361) (x := kx_361) rfl rfl rfl (by decide) (by decide) rfl rfl rfl rfl hI rfl (fun H1 hI2 hw3 => ?_)
  have hf5 : fq [(361, 4), (361, 5)] [] false H H1 := fq_w (fq_rf _ _ _ _) hw3 (fpo (by decide) rfl)
  refine k_run 0 (pc' := 5) (l' := [(0, .inr (.inr 361)), (1, .inl a)]) (st' := []) rfl ?_
  refine k_run 3 (pc' := 10) (l' := [(0, .inr (.inr 361)), (1, .inl a)]) (st' := [.inl (H1.1 361 3), .inr (.inr 361)]) rfl ?_
  have g6 : -2147483648 ≤ (H1.1 361 3) ∧ (H1.1 361 3) ≤ 2147483647 := kn (x := kx_361) hI2 rfl 3
  have e7 : (H1.1 361 3) = (H.1 361 3) := hw3.2 _ _ (fun q => absurd q.2 (by decide))
  refine h_zlt (off := 32) (t := 42) rfl rfl (by omega) (fun c8 => ?_) (fun c8 => ?_)
  · refine k_run 0 (pc' := 42) (l' := [(0, .inr (.inr 361)), (1, .inl a)]) (st' := [.inr (.inr 361)]) rfl ?_
    refine k_run 3 (pc' := 49) (l' := [(0, .inr (.inr 361)), (1, .inl a)]) (st' := [.inl (H1.1 2 1), .inr (.inr 361)]) rfl ?_
    have g9 : 0 ≤ (H1.1 2 1) ∧ (H1.1 2 1) ≤ 1000 := kn (x := kx_2) hI2 rfl 1
    have e10 : (H1.1 2 1) = (H.1 2 1) := hw3.2 _ _ (fun q => absurd q.1 (by decide))
    refine k_putw (a := 361) (x := kx_361) rfl rfl rfl (by decide) (by decide) rfl rfl rfl rfl hI2 rfl (fun H11 hI12 hw13 => ?_)
    have hf15 : fq [(361, 4), (361, 5)] [] false H H11 := fq_w hf5 hw13 (fpo (by decide) rfl)
    refine k_run 0 (pc' := 52) (l' := [(0, .inr (.inr 361)), (1, .inl a)]) (st' := []) rfl ?_
    refine k_run 1 (pc' := 53) (l' := [(0, .inr (.inr 361)), (1, .inl a)]) (st' := [.inl 0]) rfl ?_
    refine h_retz (x := 0) rfl rfl (by decide) ?_
    exact ⟨_, rfl, (by omega), hI12, hf15⟩
  · refine k_run 0 (pc' := 13) (l' := [(0, .inr (.inr 361)), (1, .inl a)]) (st' := [.inr (.inr 361)]) rfl ?_
    refine k_run 5 (pc' := 24) (l' := [(0, .inr (.inr 361)), (1, .inl a)]) (st' := [.inl (H1.1 2 5), .inl (H1.1 361 3), .inr (.inr 361)]) rfl ?_
    have g16 : 0 ≤ (H1.1 2 5) ∧ (H1.1 2 5) ≤ 1001 := kn (x := kx_2) hI2 rfl 5
    have e17 : (H1.1 2 5) = (H.1 2 5) := hw3.2 _ _ (fun q => absurd q.1 (by decide))
    refine h_ige (off := 18) (t := 42) rfl rfl (by omega) (by omega) (fun c18 => ?_) (fun c18 => ?_)
    · refine k_run 0 (pc' := 42) (l' := [(0, .inr (.inr 361)), (1, .inl a)]) (st' := [.inr (.inr 361)]) rfl ?_
      refine k_run 3 (pc' := 49) (l' := [(0, .inr (.inr 361)), (1, .inl a)]) (st' := [.inl (H1.1 2 1), .inr (.inr 361)]) rfl ?_
      have g19 : 0 ≤ (H1.1 2 1) ∧ (H1.1 2 1) ≤ 1000 := kn (x := kx_2) hI2 rfl 1
      have e20 : (H1.1 2 1) = (H.1 2 1) := hw3.2 _ _ (fun q => absurd q.1 (by decide))
      refine k_putw (a := 361) (x := kx_361) rfl rfl rfl (by decide) (by decide) rfl rfl rfl rfl hI2 rfl (fun H21 hI22 hw23 => ?_)
      have hf25 : fq [(361, 4), (361, 5)] [] false H H21 := fq_w hf5 hw23 (fpo (by decide) rfl)
      refine k_run 0 (pc' := 52) (l' := [(0, .inr (.inr 361)), (1, .inl a)]) (st' := []) rfl ?_
      refine k_run 1 (pc' := 53) (l' := [(0, .inr (.inr 361)), (1, .inl a)]) (st' := [.inl 0]) rfl ?_
      refine h_retz (x := 0) rfl rfl (by decide) ?_
      exact ⟨_, rfl, (by omega), hI22, hf25⟩
    · refine k_run 0 (pc' := 27) (l' := [(0, .inr (.inr 361)), (1, .inl a)]) (st' := [.inr (.inr 361)]) rfl ?_
      refine k_run 5 (pc' := 38) (l' := [(0, .inr (.inr 361)), (1, .inl a)]) (st' := [.inl (H1.1 361 3), .inr (.inr 5), .inr (.inr 361)]) rfl ?_
      refine k_ild (c := 5) (j := ((H1.1 361 3)).toNat) (i := (H1.1 361 3)) (x := kx_5) rfl rfl (by decide) rfl (by decide) (by omega) (by omega) ?_
      have g26 : -2147483648 ≤ (H1.1 5 ((H1.1 361 3)).toNat) ∧ (H1.1 5 ((H1.1 361 3)).toNat) ≤ 2147483647 := kn (x := kx_5) hI2 rfl ((H1.1 361 3)).toNat
      have e27 : (H1.1 5 ((H1.1 361 3)).toNat) = (H.1 5 ((H1.1 361 3)).toNat) := hw3.2 _ _ (fun q => absurd q.1 (by decide))
      refine k_run 0 (pc' := 39) (l' := [(0, .inr (.inr 361)), (1, .inl a)]) (st' := [.inl (H1.1 5 ((H1.1 361 3)).toNat), .inr (.inr 361)]) rfl ?_
      refine k_run 1 (pc' := 49) (l' := [(0, .inr (.inr 361)), (1, .inl a)]) (st' := [.inl (H1.1 5 ((H1.1 361 3)).toNat), .inr (.inr 361)]) rfl ?_
      refine k_putw (a := 361) (x := kx_361) rfl rfl rfl (by decide) (by decide) rfl rfl rfl rfl hI2 rfl (fun H28 hI29 hw30 => ?_)
      have hf32 : fq [(361, 4), (361, 5)] [] false H H28 := fq_w hf5 hw30 (fpo (by decide) rfl)
      refine k_run 0 (pc' := 52) (l' := [(0, .inr (.inr 361)), (1, .inl a)]) (st' := []) rfl ?_
      refine k_run 1 (pc' := 53) (l' := [(0, .inr (.inr 361)), (1, .inl a)]) (st' := [.inl 0]) rfl ?_
      refine h_retz (x := 0) rfl rfl (by decide) ?_
      exact ⟨_, rfl, (by omega), hI29, hf32⟩

/-! Reader.misplaced -/
set_option maxRecDepth 100000 in
theorem k_Reader_misplaced {d : Nat} (hd : 2 ≤ d) {H : hp} (hI : Inv H)   : hG (zs zK) d mt_85 0 (zargs 0 [.inr (.inr 361)]) [] H (fun r9 H9 => ∃ z : Int, r9 = some (.inl z) ∧ ((0 ≤ z ∧ z ≤ 1) ∧ (z = 0)) ∧ Inv H9 ∧ fq [(361, 4), (361, 5)] [] false H H9) := by
  refine k_run 0 (pc' := 0) (l' := [(0, .inr (.inr 361))]) (st' := []) rfl ?_
  refine k_run 2 (pc' := 2) (l' := [(0, .inr (.inr 361))]) (st' := [.inr (.inr 361), .inr (.inr 361)]) rfl ?_
  refine h_cv (i := 72) (j := 83) (b := 361) (M' := mt_83) (xs := []) (rest := [.inr (.inr 361)]) rfl rfl rfl rfl (zs_K (x := kx_361) rfl (by decide)) rfl (Nat.le_of_ble_eq_true rfl) (Nat.le_of_ble_eq_true rfl) (by omega) (k_Reader_token (by omega) hI ) ?_
  rintro _ _ ⟨z5, rfl, g1, rfl⟩
  refine k_run 0 (pc' := 5) (l' := [(0, .inr (.inr 361))]) (st' := [.inl z5, .inr (.inr 361)]) rfl ?_
  refine k_run 1 (pc' := 6) (l' := [(0, .inr (.inr 361))]) (st' := [.inl 1, .inl z5, .inr (.inr 361)]) rfl ?_
  refine h_ine (off := 7) (t := 13) rfl rfl (by omega) (by decide) (fun c6 => ?_) (fun c6 => ?_)
  · refine k_run 0 (pc' := 13) (l' := [(0, .inr (.inr 361))]) (st' := [.inr (.inr 361)]) rfl ?_
    refine k_run 1 (pc' := 14) (l' := [(0, .inr (.inr 361))]) (st' := [.inl 2, .inr (.inr 361)]) rfl ?_
    refine h_cv (i := 128) (j := 86) (b := 361) (M' := mt_86) (xs := [.inl 2]) (rest := []) rfl rfl rfl rfl (zs_K (x := kx_361) rfl (by decide)) rfl (Nat.le_of_ble_eq_true rfl) (Nat.le_of_ble_eq_true rfl) (by omega) (k_Reader_fails (by omega) hI (by decide)) ?_
    rintro _ H8 ⟨z11, rfl, g7, hI9, hq10⟩
    have hf12 : fq [(361, 4), (361, 5)] [] false H H8 := fq_t (fq_rf _ _ _ _) hq10 rfl rfl rfl
    refine k_run 0 (pc' := 17) (l' := [(0, .inr (.inr 361))]) (st' := [.inl z11]) rfl ?_
    refine h_retz (x := z11) rfl rfl (by omega) ?_
    exact ⟨_, rfl, (by omega), hI9, hf12⟩
  · refine k_run 0 (pc' := 9) (l' := [(0, .inr (.inr 361))]) (st' := [.inr (.inr 361)]) rfl ?_
    refine k_run 2 (pc' := 14) (l' := [(0, .inr (.inr 361))]) (st' := [.inl 1, .inr (.inr 361)]) rfl ?_
    refine h_cv (i := 128) (j := 86) (b := 361) (M' := mt_86) (xs := [.inl 1]) (rest := []) rfl rfl rfl rfl (zs_K (x := kx_361) rfl (by decide)) rfl (Nat.le_of_ble_eq_true rfl) (Nat.le_of_ble_eq_true rfl) (by omega) (k_Reader_fails (by omega) hI (by decide)) ?_
    rintro _ H14 ⟨z17, rfl, g13, hI15, hq16⟩
    have hf18 : fq [(361, 4), (361, 5)] [] false H H14 := fq_t (fq_rf _ _ _ _) hq16 rfl rfl rfl
    refine k_run 0 (pc' := 17) (l' := [(0, .inr (.inr 361))]) (st' := [.inl z17]) rfl ?_
    refine h_retz (x := z17) rfl rfl (by omega) ?_
    exact ⟨_, rfl, (by omega), hI15, hf18⟩

/-! Reader.take -/
set_option maxRecDepth 100000 in
theorem k_Reader_take {d : Nat} (hd : 3 ≤ d) {H : hp} (hI : Inv H) {a : Int} (ha : -2147483648 ≤ a ∧ a ≤ 2147483647) : hG (zs zK) d mt_82 0 (zargs 0 [.inr (.inr 361), .inl a]) [] H (fun r9 H9 => ∃ z : Int, r9 = some (.inl z) ∧ ((0 ≤ z ∧ z ≤ 1)) ∧ Inv H9 ∧ fq [(361, 3), (361, 4), (361, 5)] [] false H H9) := by
  refine k_run 0 (pc' := 0) (l' := [(0, .inr (.inr 361)), (1, .inl a)]) (st' := []) rfl ?_
  refine k_run 1 (pc' := 1) (l' := [(0, .inr (.inr 361)), (1, .inl a)]) (st' := [.inr (.inr 361)]) rfl ?_
  refine h_cv (i := 72) (j := 83) (b := 361) (M' := mt_83) (xs := []) (rest := []) rfl rfl rfl rfl (zs_K (x := kx_361) rfl (by decide)) rfl (Nat.le_of_ble_eq_true rfl) (Nat.le_of_ble_eq_true rfl) (by omega) (k_Reader_token (by omega) hI ) ?_
  rintro _ _ ⟨z5, rfl, g1, rfl⟩
  refine k_run 0 (pc' := 4) (l' := [(0, .inr (.inr 361)), (1, .inl a)]) (st' := [.inl z5]) rfl ?_
  refine k_run 1 (pc' := 5) (l' := [(0, .inr (.inr 361)), (1, .inl a)]) (st' := [.inl a, .inl z5]) rfl ?_
  refine h_ieq (off := 8) (t := 13) rfl rfl (by omega) (by omega) (fun c6 => ?_) (fun c6 => ?_)
  · refine k_run 0 (pc' := 13) (l' := [(0, .inr (.inr 361)), (1, .inl a)]) (st' := []) rfl ?_
    refine k_run 3 (pc' := 18) (l' := [(0, .inr (.inr 361)), (1, .inl a)]) (st' := [.inl (H.1 361 3), .inr (.inr 361)]) rfl ?_
    have g7 : -2147483648 ≤ (H.1 361 3) ∧ (H.1 361 3) ≤ 2147483647 := kn (x := kx_361) hI rfl 3
    refine k_run 2 (pc' := 20) (l' := [(0, .inr (.inr 361)), (1, .inl a)]) (st' := [.inl ((H.1 361 3) + 1), .inr (.inr 361)]) rfl ?_
    refine k_putw (a := 361) (x := kx_361) rfl rfl rfl (by decide) (by decide) rfl rfl rfl rfl hI rfl (fun H8 hI9 hw10 => ?_)
    have hf12 : fq [(361, 3), (361, 4), (361, 5)] [] false H H8 := fq_w (fq_rf _ _ _ _) hw10 (fpo (by decide) rfl)
    refine k_run 0 (pc' := 23) (l' := [(0, .inr (.inr 361)), (1, .inl a)]) (st' := []) rfl ?_
    refine k_run 1 (pc' := 24) (l' := [(0, .inr (.inr 361)), (1, .inl a)]) (st' := [.inl 1]) rfl ?_
    refine h_retz (x := 1) rfl rfl (by decide) ?_
    exact ⟨_, rfl, (by omega), hI9, hf12⟩
  · refine k_run 0 (pc' := 8) (l' := [(0, .inr (.inr 361)), (1, .inl a)]) (st' := []) rfl ?_
    refine k_run 1 (pc' := 9) (l' := [(0, .inr (.inr 361)), (1, .inl a)]) (st' := [.inr (.inr 361)]) rfl ?_
    refine h_cv (i := 89) (j := 85) (b := 361) (M' := mt_85) (xs := []) (rest := []) rfl rfl rfl rfl (zs_K (x := kx_361) rfl (by decide)) rfl (Nat.le_of_ble_eq_true rfl) (Nat.le_of_ble_eq_true rfl) (by omega) (k_Reader_misplaced (by omega) hI ) ?_
    rintro _ H14 ⟨z17, rfl, g13, hI15, hq16⟩
    have hf18 : fq [(361, 3), (361, 4), (361, 5)] [] false H H14 := fq_t (fq_rf _ _ _ _) hq16 rfl rfl rfl
    refine k_run 0 (pc' := 12) (l' := [(0, .inr (.inr 361)), (1, .inl a)]) (st' := [.inl z17]) rfl ?_
    refine h_retz (x := z17) rfl rfl (by omega) ?_
    exact ⟨_, rfl, (by omega), hI15, hf18⟩

/-! Reader.startTerm -/
set_option maxRecDepth 100000 in
theorem k_Reader_startTerm {d : Nat} (hd : 1 ≤ d) {H : hp} (hI : Inv H) {t n : Nat} (ht : isT t n) : hG (zs zK) d mt_81 0 (zargs 0 [.inr (.inr 361), .inr (.inr t)]) [] H (fun r9 H9 => r9 = none ∧ Inv H9 ∧ fq [(361, 8)] [] false H H9) := by
  have htb := ht.2.2.2.2
  refine k_run 0 (pc' := 0) (l' := [(0, .inr (.inr 361)), (1, .inr (.inr t))]) (st' := []) rfl ?_
  refine k_run 2 (pc' := 2) (l' := [(0, .inr (.inr 361)), (1, .inr (.inr t))]) (st' := [.inr (.inr t), .inr (.inr 361)]) rfl ?_
  refine k_putr (t := t) (a := 361) (x := kx_361) rfl rfl rfl (by decide) (by decide) rfl rfl (fun g9 e9 => congrArg Value.ref e9) rfl rfl hI (show ∃ n, isT t n from ⟨_, ht⟩) (fun H1 hI2 hw3 => ?_)
  have hf5 : fq [(361, 8)] [] false H H1 := fq_r (fq_rf _ _ _ _) hw3 (fpo (by decide) rfl)
  refine k_run 0 (pc' := 5) (l' := [(0, .inr (.inr 361)), (1, .inr (.inr t))]) (st' := []) rfl ?_
  refine k_run 1 (pc' := 6) (l' := [(0, .inr (.inr 361)), (1, .inr (.inr t))]) (st' := [.inr (.inr 361)]) rfl ?_
  refine k_getr (a := 361) (x := kx_361) rfl rfl rfl (by decide) rfl rfl rfl hI2 (fun h6 => ?_)
  obtain ⟨t7, et9⟩ : ∃ t9, t9 = H1.2 361 8 := ⟨_, rfl⟩
  rw [← et9] at h6 ⊢
  obtain ⟨n10, k8⟩ := (show ∃ n, isT t7 n from h6)
  have k8b := k8.2.2.2.2
  refine k_run 0 (pc' := 9) (l' := [(0, .inr (.inr 361)), (1, .inr (.inr t))]) (st' := [.inr (.inr t7)]) rfl ?_
  refine k_run 1 (pc' := 10) (l' := [(0, .inr (.inr 361)), (1, .inr (.inr t))]) (st' := [.inl 0, .inr (.inr t7)]) rfl ?_
  refine k_puti (z := 0) (a := t7) (x := (kTo t7 n10)) rfl rfl k8.1 (iT0 k8) k8.2.2.1 rfl rfl rfl rfl hI2 (by decide) (show 0 ≤ (0 : Int) ∧ (0 : Int) ≤ n10 by omega) (fun H11 hI12 hw13 hv14 => ?_)
  have hf15 : fq [(361, 8)] [] false H H11 := fq_w hf5 hw13 (fpT k8)
  refine k_run 0 (pc' := 13) (l' := [(0, .inr (.inr 361)), (1, .inr (.inr t))]) (st' := []) rfl ?_
  refine h_ret rfl rfl ?_
  exact ⟨rfl, hI12, hf15⟩

/-! Reader.startEquation -/
set_option maxRecDepth 100000 in
theorem k_Reader_startEquation {d : Nat} (hd : 2 ≤ d) {H : hp} (hI : Inv H) {e : Nat} {a : Int} (he : isE e) (ha : -2147483648 ≤ a ∧ a ≤ 2147483647) : hG (zs zK) d mt_80 0 (zargs 0 [.inr (.inr 361), .inr (.inr e), .inl a]) [] H (fun r9 H9 => r9 = none ∧ Inv H9 ∧ fq [(361, 6), (361, 7), (361, 8), (361, 9)] [] false H H9) := by
  refine k_run 0 (pc' := 0) (l' := [(0, .inr (.inr 361)), (1, .inr (.inr e)), (2, .inl a)]) (st' := []) rfl ?_
  refine k_run 2 (pc' := 2) (l' := [(0, .inr (.inr 361)), (1, .inr (.inr e)), (2, .inl a)]) (st' := [.inr (.inr e), .inr (.inr 361)]) rfl ?_
  refine k_putr (t := e) (a := 361) (x := kx_361) rfl rfl rfl (by decide) (by decide) rfl rfl (fun g9 e9 => congrArg Value.ref e9) rfl rfl hI (show isE e from he) (fun H1 hI2 hw3 => ?_)
  have hf5 : fq [(361, 6), (361, 7), (361, 8), (361, 9)] [] false H H1 := fq_r (fq_rf _ _ _ _) hw3 (fpo (by decide) rfl)
  refine k_run 0 (pc' := 5) (l' := [(0, .inr (.inr 361)), (1, .inr (.inr e)), (2, .inl a)]) (st' := []) rfl ?_
  refine k_run 2 (pc' := 7) (l' := [(0, .inr (.inr 361)), (1, .inr (.inr e)), (2, .inl a)]) (st' := [.inl a, .inr (.inr 361)]) rfl ?_
  refine k_putw (a := 361) (x := kx_361) rfl rfl rfl (by decide) (by decide) rfl rfl rfl rfl hI2 rfl (fun H6 hI7 hw8 => ?_)
  have hf10 : fq [(361, 6), (361, 7), (361, 8), (361, 9)] [] false H H6 := fq_w hf5 hw8 (fpo (by decide) rfl)
  refine k_run 0 (pc' := 10) (l' := [(0, .inr (.inr 361)), (1, .inr (.inr e)), (2, .inl a)]) (st' := []) rfl ?_
  refine k_run 2 (pc' := 12) (l' := [(0, .inr (.inr 361)), (1, .inr (.inr e)), (2, .inl a)]) (st' := [.inl 0, .inr (.inr 361)]) rfl ?_
  refine k_puti (z := 0) (a := 361) (x := kx_361) rfl rfl rfl (by decide) (by decide) rfl rfl rfl rfl hI7 (by decide) (show 0 ≤ (0 : Int) ∧ (0 : Int) ≤ 40 by omega) (fun H11 hI12 hw13 hv14 => ?_)
  have hf15 : fq [(361, 6), (361, 7), (361, 8), (361, 9)] [] false H H11 := fq_w hf10 hw13 (fpo (by decide) rfl)
  refine k_run 0 (pc' := 15) (l' := [(0, .inr (.inr 361)), (1, .inr (.inr e)), (2, .inl a)]) (st' := []) rfl ?_
  refine k_run 2 (pc' := 17) (l' := [(0, .inr (.inr 361)), (1, .inr (.inr e)), (2, .inl a)]) (st' := [.inr (.inr e), .inr (.inr 361)]) rfl ?_
  refine k_get (a := e) (x := (kEo e)) (v := .inr (.inr (e + 1))) rfl rfl he.1 (iE0 he) rfl rfl rfl ?_
  refine k_run 0 (pc' := 20) (l' := [(0, .inr (.inr 361)), (1, .inr (.inr e)), (2, .inl a)]) (st' := [.inr (.inr (e + 1)), .inr (.inr 361)]) rfl ?_
  refine h_cv (i := 105) (j := 81) (b := 361) (M' := mt_81) (xs := [.inr (.inr (e + 1))]) (rest := []) rfl rfl rfl rfl (zs_K (x := kx_361) rfl (by decide)) rfl (Nat.le_of_ble_eq_true rfl) (Nat.le_of_ble_eq_true rfl) (by omega) (k_Reader_startTerm (by omega) hI12 (iEl he)) ?_
  rintro _ H17 ⟨rfl, hI18, hq19⟩
  have hf20 : fq [(361, 6), (361, 7), (361, 8), (361, 9)] [] false H H17 := fq_t hf15 hq19 rfl rfl rfl
  refine k_run 0 (pc' := 23) (l' := [(0, .inr (.inr 361)), (1, .inr (.inr e)), (2, .inl a)]) (st' := []) rfl ?_
  refine h_ret rfl rfl ?_
  exact ⟨rfl, hI18, hf20⟩

/-! Reader.findVariable -/
set_option maxRecDepth 100000 in
theorem k_Reader_findVariable_cut {d : Nat} (hd : 2 ≤ d) {H : hp} (hI : Inv H)   : ∀ w : Nat, (∀ (x1 : Int) , (-2147483648 ≤ x1 ∧ x1 ≤ 2147483647) → (0 ≤ x1) → (((100 - x1).toNat) < w) → hG (zs zK) d mt_79 2 [(0, .inr (.inr 361)), (1, .inl x1)] [] H (fun r9 H9 => ∃ z : Int, r9 = some (.inl z) ∧ ((-2147483648 ≤ z ∧ z ≤ 2147483647) ∧ (-1 ≤ z ∧ z < 40)) ∧ H = H9)) := by
  intro w
  induction w with
  | zero => exact fun _ _ _ h => absurd h (Nat.not_lt_zero _)
  | succ w ih =>
    intro x1 hx1 hi0 hw
    refine k_run 3 (pc' := 7) (l' := [(0, .inr (.inr 361)), (1, .inl x1)]) (st' := [.inl (H.1 361 9), .inl x1]) rfl ?_
    have g1 : 0 ≤ (H.1 361 9) ∧ (H.1 361 9) ≤ 40 := kn (x := kx_361) hI rfl 9
    refine h_ige (off := 34) (t := 41) rfl rfl (by omega) (by omega) (fun c2 => ?_) (fun c2 => ?_)
    · refine k_run 0 (pc' := 41) (l' := [(0, .inr (.inr 361)), (1, .inl x1)]) (st' := []) rfl ?_
      refine k_run 1 (pc' := 42) (l' := [(0, .inr (.inr 361)), (1, .inl x1)]) (st' := [.inl (-1)]) rfl ?_
      refine h_reti (x := (-1)) rfl rfl ?_
      exact ⟨_, rfl, (by omega), rfl⟩
    · refine k_run 0 (pc' := 10) (l' := [(0, .inr (.inr 361)), (1, .inl x1)]) (st' := []) rfl ?_
      refine k_run 3 (pc' := 15) (l' := [(0, .inr (.inr 361)), (1, .inl x1)]) (st' := [.inr (.inr 362), .inl x1]) rfl ?_
      refine k_alen (c := 362) (x := kx_362) rfl rfl (by decide) rfl ?_
      refine k_run 0 (pc' := 16) (l' := [(0, .inr (.inr 361)), (1, .inl x1)]) (st' := [.inl 40, .inl x1]) rfl ?_
      refine h_ige (off := 25) (t := 41) rfl rfl (by omega) (by decide) (fun c3 => ?_) (fun c3 => ?_)
      · refine k_run 0 (pc' := 41) (l' := [(0, .inr (.inr 361)), (1, .inl x1)]) (st' := []) rfl ?_
        refine k_run 1 (pc' := 42) (l' := [(0, .inr (.inr 361)), (1, .inl x1)]) (st' := [.inl (-1)]) rfl ?_
        refine h_reti (x := (-1)) rfl rfl ?_
        exact ⟨_, rfl, (by omega), rfl⟩
      · refine k_run 0 (pc' := 19) (l' := [(0, .inr (.inr 361)), (1, .inl x1)]) (st' := []) rfl ?_
        refine k_run 3 (pc' := 24) (l' := [(0, .inr (.inr 361)), (1, .inl x1)]) (st' := [.inl x1, .inr (.inr 362)]) rfl ?_
        refine k_lld (c := 362) (j := (x1).toNat) (i := x1) (x := kx_362) rfl rfl (by decide) rfl (by decide) (by omega) (by omega) ?_
        have g4 : -9223372036854775808 ≤ (H.1 362 (x1).toNat) ∧ (H.1 362 (x1).toNat) ≤ 9223372036854775807 := kn (x := kx_362) hI rfl (x1).toNat
        refine k_run 0 (pc' := 25) (l' := [(0, .inr (.inr 361)), (1, .inl x1)]) (st' := [.inr (.inl (H.1 362 (x1).toNat))]) rfl ?_
        refine k_run 1 (pc' := 26) (l' := [(0, .inr (.inr 361)), (1, .inl x1)]) (st' := [.inr (.inr 361), .inr (.inl (H.1 362 (x1).toNat))]) rfl ?_
        refine h_cv (i := 120) (j := 84) (b := 361) (M' := mt_84) (xs := []) (rest := [.inr (.inl (H.1 362 (x1).toNat))]) rfl rfl rfl rfl (zs_K (x := kx_361) rfl (by decide)) rfl (Nat.le_of_ble_eq_true rfl) (Nat.le_of_ble_eq_true rfl) (by omega) (k_Reader_name (by omega) hI ) ?_
        rintro _ _ ⟨z9, rfl, g5, rfl⟩
        refine k_run 0 (pc' := 29) (l' := [(0, .inr (.inr 361)), (1, .inl x1)]) (st' := [.inr (.inl z9), .inr (.inl (H.1 362 (x1).toNat))]) rfl ?_
        refine k_run 1 (pc' := 30) (l' := [(0, .inr (.inr 361)), (1, .inl x1)]) (st' := [.inl (z_cmp (H.1 362 (x1).toNat) z9)]) rfl ?_
        refine k_nrm (fun y10 hy10 => ?_)
        refine k_run 0 (pc' := 30) (l' := [(0, .inr (.inr 361)), (1, .inl x1)]) (st' := [.inl y10]) rfl ?_
        refine h_zne (off := 5) (t := 35) rfl rfl (by omega) (fun c11 => ?_) (fun c11 => ?_)
        · refine k_run 0 (pc' := 35) (l' := [(0, .inr (.inr 361)), (1, .inl x1)]) (st' := []) rfl ?_
          refine k_run 2 (pc' := 2) (l' := [(0, .inr (.inr 361)), (1, .inl (x1 + 1))]) (st' := []) rfl ?_
          exact ih (x1 + 1) (by omega) (by omega) (by omega)
        · refine k_run 0 (pc' := 33) (l' := [(0, .inr (.inr 361)), (1, .inl x1)]) (st' := []) rfl ?_
          refine k_run 1 (pc' := 34) (l' := [(0, .inr (.inr 361)), (1, .inl x1)]) (st' := [.inl x1]) rfl ?_
          refine h_reti (x := x1) rfl rfl ?_
          exact ⟨_, rfl, (by omega), rfl⟩
set_option maxRecDepth 100000 in
theorem k_Reader_findVariable {d : Nat} (hd : 2 ≤ d) {H : hp} (hI : Inv H)   : hG (zs zK) d mt_79 0 (zargs 0 [.inr (.inr 361)]) [] H (fun r9 H9 => ∃ z : Int, r9 = some (.inl z) ∧ ((-2147483648 ≤ z ∧ z ≤ 2147483647) ∧ (-1 ≤ z ∧ z < 40)) ∧ H = H9) := by
  refine k_run 0 (pc' := 0) (l' := [(0, .inr (.inr 361))]) (st' := []) rfl ?_
  refine k_run 2 (pc' := 2) (l' := [(0, .inr (.inr 361)), (1, .inl 0)]) (st' := []) rfl ?_
  exact (k_Reader_findVariable_cut hd hI  _) (0 : Int) (by decide) (by omega) (Nat.lt_succ_self _)

/-! Reader.tellName -/
set_option maxRecDepth 100000 in
theorem k_Reader_tellName_8 {d : Nat} (hd : 3 ≤ d) {H : hp} (hI : Inv H) {a : Int} {b : Int} (ha : -2147483648 ≤ a ∧ a ≤ 2147483647) (hb : -2147483648 ≤ b ∧ b ≤ 2147483647) (hp0 : -2 ≤ b ∧ b ≤ 100) : hG (zs zK) d mt_78 0 (zargs 0 [.inr (.inr 361), .inr (.inr 8), .inl a, .inl b]) [] H (fun r9 H9 => ∃ z : Int, r9 = some (.inl z) ∧ ((0 ≤ z ∧ z ≤ 1)) ∧ Inv H9 ∧ fq [(8, 4), (361, 3), (361, 4), (361, 5)] [9, 10, 11] false H H9) := by
  refine k_run 0 (pc' := 0) (l' := [(0, .inr (.inr 361)), (1, .inr (.inr 8)), (2, .inl a), (3, .inl b)]) (st' := []) rfl ?_
  refine k_run 1 (pc' := 1) (l' := [(0, .inr (.inr 361)), (1, .inr (.inr 8)), (2, .inl a), (3, .inl b)]) (st' := [.inr (.inr 361)]) rfl ?_
  refine h_cv (i := 72) (j := 83) (b := 361) (M' := mt_83) (xs := []) (rest := []) rfl rfl rfl rfl (zs_K (x := kx_361) rfl (by decide)) rfl (Nat.le_of_ble_eq_true rfl) (Nat.le_of_ble_eq_true rfl) (by omega) (k_Reader_token (by omega) hI ) ?_
  rintro _ _ ⟨z5, rfl, g1, rfl⟩
  refine k_run 0 (pc' := 4) (l' := [(0, .inr (.inr 361)), (1, .inr (.inr 8)), (2, .inl a), (3, .inl b)]) (st' := [.inl z5]) rfl ?_
  refine k_run 1 (pc' := 5) (l' := [(0, .inr (.inr 361)), (1, .inr (.inr 8)), (2, .inl a), (3, .inl b)]) (st' := [.inl a, .inl z5]) rfl ?_
  refine h_ieq (off := 8) (t := 13) rfl rfl (by omega) (by omega) (fun c6 => ?_) (fun c6 => ?_)
  · refine k_run 0 (pc' := 13) (l' := [(0, .inr (.inr 361)), (1, .inr (.inr 8)), (2, .inl a), (3, .inl b)]) (st' := []) rfl ?_
    refine k_run 2 (pc' := 15) (l' := [(0, .inr (.inr 361)), (1, .inr (.inr 8)), (2, .inl a), (3, .inl b)]) (st' := [.inr (.inr 361), .inr (.inr 8)]) rfl ?_
    refine h_cv (i := 120) (j := 84) (b := 361) (M' := mt_84) (xs := []) (rest := [.inr (.inr 8)]) rfl rfl rfl rfl (zs_K (x := kx_361) rfl (by decide)) rfl (Nat.le_of_ble_eq_true rfl) (Nat.le_of_ble_eq_true rfl) (by omega) (k_Reader_name (by omega) hI ) ?_
    rintro _ _ ⟨z11, rfl, g7, rfl⟩
    refine k_run 0 (pc' := 18) (l' := [(0, .inr (.inr 361)), (1, .inr (.inr 8)), (2, .inl a), (3, .inl b)]) (st' := [.inr (.inl z11), .inr (.inr 8)]) rfl ?_
    have g12 : 0 ≤ (H.1 8 4) ∧ (H.1 8 4) ≤ 6 := kn (x := kx_8) hI rfl 4
    refine h_cv (i := 124) (j := 41) (b := 8) (M' := mt_41) (xs := [.inr (.inl z11)]) (rest := []) rfl rfl rfl rfl (zs_K (x := kx_8) rfl (by decide)) rfl (Nat.le_of_ble_eq_true rfl) (Nat.le_of_ble_eq_true rfl) (by omega) (k_Symbols_find_8 (by omega) hI ) ?_
    rintro _ _ ⟨z17, rfl, g13, rfl⟩
    refine k_run 0 (pc' := 21) (l' := [(0, .inr (.inr 361)), (1, .inr (.inr 8)), (2, .inl a), (3, .inl b)]) (st' := [.inl z17]) rfl ?_
    refine h_zlt (off := 9) (t := 30) rfl rfl (by omega) (fun c18 => ?_) (fun c18 => ?_)
    · refine k_run 0 (pc' := 30) (l' := [(0, .inr (.inr 361)), (1, .inr (.inr 8)), (2, .inl a), (3, .inl b)]) (st' := []) rfl ?_
      refine k_run 1 (pc' := 31) (l' := [(0, .inr (.inr 361)), (1, .inr (.inr 8)), (2, .inl a), (3, .inl b)]) (st' := [.inr (.inr 8)]) rfl ?_
      refine h_cv (i := 225) (j := 42) (b := 8) (M' := mt_42) (xs := []) (rest := []) rfl rfl rfl rfl (zs_K (x := kx_8) rfl (by decide)) rfl (Nat.le_of_ble_eq_true rfl) (Nat.le_of_ble_eq_true rfl) (by omega) (k_Symbols_isFull_8 (by omega) hI ) ?_
      rintro _ _ ⟨z23, rfl, g19, rfl⟩
      refine k_run 0 (pc' := 34) (l' := [(0, .inr (.inr 361)), (1, .inr (.inr 8)), (2, .inl a), (3, .inl b)]) (st' := [.inl z23]) rfl ?_
      refine h_zeq (off := 9) (t := 43) rfl rfl (by omega) (fun c24 => ?_) (fun c24 => ?_)
      · refine k_run 0 (pc' := 43) (l' := [(0, .inr (.inr 361)), (1, .inr (.inr 8)), (2, .inl a), (3, .inl b)]) (st' := []) rfl ?_
        refine k_run 2 (pc' := 45) (l' := [(0, .inr (.inr 361)), (1, .inr (.inr 8)), (2, .inl a), (3, .inl b)]) (st' := [.inr (.inr 361), .inr (.inr 8)]) rfl ?_
        refine h_cv (i := 120) (j := 84) (b := 361) (M' := mt_84) (xs := []) (rest := [.inr (.inr 8)]) rfl rfl rfl rfl (zs_K (x := kx_361) rfl (by decide)) rfl (Nat.le_of_ble_eq_true rfl) (Nat.le_of_ble_eq_true rfl) (by omega) (k_Reader_name (by omega) hI ) ?_
        rintro _ _ ⟨z29, rfl, g25, rfl⟩
        refine k_run 0 (pc' := 48) (l' := [(0, .inr (.inr 361)), (1, .inr (.inr 8)), (2, .inl a), (3, .inl b)]) (st' := [.inr (.inl z29), .inr (.inr 8)]) rfl ?_
        refine k_run 1 (pc' := 49) (l' := [(0, .inr (.inr 361)), (1, .inr (.inr 8)), (2, .inl a), (3, .inl b)]) (st' := [.inl b, .inr (.inl z29), .inr (.inr 8)]) rfl ?_
        refine h_cv (i := 228) (j := 43) (b := 8) (M' := mt_43) (xs := [.inl b, .inr (.inl z29)]) (rest := []) rfl rfl rfl rfl (zs_K (x := kx_8) rfl (by decide)) rfl (Nat.le_of_ble_eq_true rfl) (Nat.le_of_ble_eq_true rfl) (by omega) (k_Symbols_add_8 (by omega) hI (by omega) (by omega)) ?_
        rintro _ H31 ⟨rfl, hI32, hq33⟩
        have hf34 : fq [(8, 4), (361, 3), (361, 4), (361, 5)] [9, 10, 11] false H H31 := fq_t (fq_rf _ _ _ _) hq33 rfl rfl rfl
        refine k_run 0 (pc' := 52) (l' := [(0, .inr (.inr 361)), (1, .inr (.inr 8)), (2, .inl a), (3, .inl b)]) (st' := []) rfl ?_
        refine k_run 3 (pc' := 57) (l' := [(0, .inr (.inr 361)), (1, .inr (.inr 8)), (2, .inl a), (3, .inl b)]) (st' := [.inl (H31.1 361 3), .inr (.inr 361)]) rfl ?_
        have g35 : -2147483648 ≤ (H31.1 361 3) ∧ (H31.1 361 3) ≤ 2147483647 := kn (x := kx_361) hI32 rfl 3
        have e36 : (H31.1 361 3) = (H.1 361 3) := (hq33.1 361 3 rfl (by decide) (by decide)).1
        refine k_run 2 (pc' := 59) (l' := [(0, .inr (.inr 361)), (1, .inr (.inr 8)), (2, .inl a), (3, .inl b)]) (st' := [.inl ((H31.1 361 3) + 1), .inr (.inr 361)]) rfl ?_
        refine k_putw (a := 361) (x := kx_361) rfl rfl rfl (by decide) (by decide) rfl rfl rfl rfl hI32 rfl (fun H37 hI38 hw39 => ?_)
        have hf41 : fq [(8, 4), (361, 3), (361, 4), (361, 5)] [9, 10, 11] false H H37 := fq_w hf34 hw39 (fpo (by decide) rfl)
        refine k_run 0 (pc' := 62) (l' := [(0, .inr (.inr 361)), (1, .inr (.inr 8)), (2, .inl a), (3, .inl b)]) (st' := []) rfl ?_
        refine k_run 1 (pc' := 63) (l' := [(0, .inr (.inr 361)), (1, .inr (.inr 8)), (2, .inl a), (3, .inl b)]) (st' := [.inl 1]) rfl ?_
        refine h_retz (x := 1) rfl rfl (by decide) ?_
        exact ⟨_, rfl, (by omega), hI38, hf41⟩
      · refine k_run 0 (pc' := 37) (l' := [(0, .inr (.inr 361)), (1, .inr (.inr 8)), (2, .inl a), (3, .inl b)]) (st' := []) rfl ?_
        refine k_run 2 (pc' := 39) (l' := [(0, .inr (.inr 361)), (1, .inr (.inr 8)), (2, .inl a), (3, .inl b)]) (st' := [.inl 5, .inr (.inr 361)]) rfl ?_
        refine h_cv (i := 128) (j := 86) (b := 361) (M' := mt_86) (xs := [.inl 5]) (rest := []) rfl rfl rfl rfl (zs_K (x := kx_361) rfl (by decide)) rfl (Nat.le_of_ble_eq_true rfl) (Nat.le_of_ble_eq_true rfl) (by omega) (k_Reader_fails (by omega) hI (by decide)) ?_
        rintro _ H43 ⟨z46, rfl, g42, hI44, hq45⟩
        have hf47 : fq [(8, 4), (361, 3), (361, 4), (361, 5)] [9, 10, 11] false H H43 := fq_t (fq_rf _ _ _ _) hq45 rfl rfl rfl
        refine k_run 0 (pc' := 42) (l' := [(0, .inr (.inr 361)), (1, .inr (.inr 8)), (2, .inl a), (3, .inl b)]) (st' := [.inl z46]) rfl ?_
        refine h_retz (x := z46) rfl rfl (by omega) ?_
        exact ⟨_, rfl, (by omega), hI44, hf47⟩
    · refine k_run 0 (pc' := 24) (l' := [(0, .inr (.inr 361)), (1, .inr (.inr 8)), (2, .inl a), (3, .inl b)]) (st' := []) rfl ?_
      refine k_run 2 (pc' := 26) (l' := [(0, .inr (.inr 361)), (1, .inr (.inr 8)), (2, .inl a), (3, .inl b)]) (st' := [.inl 3, .inr (.inr 361)]) rfl ?_
      refine h_cv (i := 128) (j := 86) (b := 361) (M' := mt_86) (xs := [.inl 3]) (rest := []) rfl rfl rfl rfl (zs_K (x := kx_361) rfl (by decide)) rfl (Nat.le_of_ble_eq_true rfl) (Nat.le_of_ble_eq_true rfl) (by omega) (k_Reader_fails (by omega) hI (by decide)) ?_
      rintro _ H49 ⟨z52, rfl, g48, hI50, hq51⟩
      have hf53 : fq [(8, 4), (361, 3), (361, 4), (361, 5)] [9, 10, 11] false H H49 := fq_t (fq_rf _ _ _ _) hq51 rfl rfl rfl
      refine k_run 0 (pc' := 29) (l' := [(0, .inr (.inr 361)), (1, .inr (.inr 8)), (2, .inl a), (3, .inl b)]) (st' := [.inl z52]) rfl ?_
      refine h_retz (x := z52) rfl rfl (by omega) ?_
      exact ⟨_, rfl, (by omega), hI50, hf53⟩
  · refine k_run 0 (pc' := 8) (l' := [(0, .inr (.inr 361)), (1, .inr (.inr 8)), (2, .inl a), (3, .inl b)]) (st' := []) rfl ?_
    refine k_run 1 (pc' := 9) (l' := [(0, .inr (.inr 361)), (1, .inr (.inr 8)), (2, .inl a), (3, .inl b)]) (st' := [.inr (.inr 361)]) rfl ?_
    refine h_cv (i := 89) (j := 85) (b := 361) (M' := mt_85) (xs := []) (rest := []) rfl rfl rfl rfl (zs_K (x := kx_361) rfl (by decide)) rfl (Nat.le_of_ble_eq_true rfl) (Nat.le_of_ble_eq_true rfl) (by omega) (k_Reader_misplaced (by omega) hI ) ?_
    rintro _ H55 ⟨z58, rfl, g54, hI56, hq57⟩
    have hf59 : fq [(8, 4), (361, 3), (361, 4), (361, 5)] [9, 10, 11] false H H55 := fq_t (fq_rf _ _ _ _) hq57 rfl rfl rfl
    refine k_run 0 (pc' := 12) (l' := [(0, .inr (.inr 361)), (1, .inr (.inr 8)), (2, .inl a), (3, .inl b)]) (st' := [.inl z58]) rfl ?_
    refine h_retz (x := z58) rfl rfl (by omega) ?_
    exact ⟨_, rfl, (by omega), hI56, hf59⟩

/-! Reader.tellName -/
set_option maxRecDepth 100000 in
theorem k_Reader_tellName_13 {d : Nat} (hd : 3 ≤ d) {H : hp} (hI : Inv H) {a : Int} {b : Int} (ha : -2147483648 ≤ a ∧ a ≤ 2147483647) (hb : -2147483648 ≤ b ∧ b ≤ 2147483647) (hp0 : -2 ≤ b ∧ b ≤ 100) : hG (zs zK) d mt_78 0 (zargs 0 [.inr (.inr 361), .inr (.inr 13), .inl a, .inl b]) [] H (fun r9 H9 => ∃ z : Int, r9 = some (.inl z) ∧ ((0 ≤ z ∧ z ≤ 1)) ∧ Inv H9 ∧ fq [(13, 4), (361, 3), (361, 4), (361, 5)] [14, 15, 16] false H H9) := by
  refine k_run 0 (pc' := 0) (l' := [(0, .inr (.inr 361)), (1, .inr (.inr 13)), (2, .inl a), (3, .inl b)]) (st' := []) rfl ?_
  refine k_run 1 (pc' := 1) (l' := [(0, .inr (.inr 361)), (1, .inr (.inr 13)), (2, .inl a), (3, .inl b)]) (st' := [.inr (.inr 361)]) rfl ?_
  refine h_cv (i := 72) (j := 83) (b := 361) (M' := mt_83) (xs := []) (rest := []) rfl rfl rfl rfl (zs_K (x := kx_361) rfl (by decide)) rfl (Nat.le_of_ble_eq_true rfl) (Nat.le_of_ble_eq_true rfl) (by omega) (k_Reader_token (by omega) hI ) ?_
  rintro _ _ ⟨z5, rfl, g1, rfl⟩
  refine k_run 0 (pc' := 4) (l' := [(0, .inr (.inr 361)), (1, .inr (.inr 13)), (2, .inl a), (3, .inl b)]) (st' := [.inl z5]) rfl ?_
  refine k_run 1 (pc' := 5) (l' := [(0, .inr (.inr 361)), (1, .inr (.inr 13)), (2, .inl a), (3, .inl b)]) (st' := [.inl a, .inl z5]) rfl ?_
  refine h_ieq (off := 8) (t := 13) rfl rfl (by omega) (by omega) (fun c6 => ?_) (fun c6 => ?_)
  · refine k_run 0 (pc' := 13) (l' := [(0, .inr (.inr 361)), (1, .inr (.inr 13)), (2, .inl a), (3, .inl b)]) (st' := []) rfl ?_
    refine k_run 2 (pc' := 15) (l' := [(0, .inr (.inr 361)), (1, .inr (.inr 13)), (2, .inl a), (3, .inl b)]) (st' := [.inr (.inr 361), .inr (.inr 13)]) rfl ?_
    refine h_cv (i := 120) (j := 84) (b := 361) (M' := mt_84) (xs := []) (rest := [.inr (.inr 13)]) rfl rfl rfl rfl (zs_K (x := kx_361) rfl (by decide)) rfl (Nat.le_of_ble_eq_true rfl) (Nat.le_of_ble_eq_true rfl) (by omega) (k_Reader_name (by omega) hI ) ?_
    rintro _ _ ⟨z11, rfl, g7, rfl⟩
    refine k_run 0 (pc' := 18) (l' := [(0, .inr (.inr 361)), (1, .inr (.inr 13)), (2, .inl a), (3, .inl b)]) (st' := [.inr (.inl z11), .inr (.inr 13)]) rfl ?_
    have g12 : 0 ≤ (H.1 13 4) ∧ (H.1 13 4) ≤ 16 := kn (x := kx_13) hI rfl 4
    refine h_cv (i := 124) (j := 41) (b := 13) (M' := mt_41) (xs := [.inr (.inl z11)]) (rest := []) rfl rfl rfl rfl (zs_K (x := kx_13) rfl (by decide)) rfl (Nat.le_of_ble_eq_true rfl) (Nat.le_of_ble_eq_true rfl) (by omega) (k_Symbols_find_13 (by omega) hI ) ?_
    rintro _ _ ⟨z17, rfl, g13, rfl⟩
    refine k_run 0 (pc' := 21) (l' := [(0, .inr (.inr 361)), (1, .inr (.inr 13)), (2, .inl a), (3, .inl b)]) (st' := [.inl z17]) rfl ?_
    refine h_zlt (off := 9) (t := 30) rfl rfl (by omega) (fun c18 => ?_) (fun c18 => ?_)
    · refine k_run 0 (pc' := 30) (l' := [(0, .inr (.inr 361)), (1, .inr (.inr 13)), (2, .inl a), (3, .inl b)]) (st' := []) rfl ?_
      refine k_run 1 (pc' := 31) (l' := [(0, .inr (.inr 361)), (1, .inr (.inr 13)), (2, .inl a), (3, .inl b)]) (st' := [.inr (.inr 13)]) rfl ?_
      refine h_cv (i := 225) (j := 42) (b := 13) (M' := mt_42) (xs := []) (rest := []) rfl rfl rfl rfl (zs_K (x := kx_13) rfl (by decide)) rfl (Nat.le_of_ble_eq_true rfl) (Nat.le_of_ble_eq_true rfl) (by omega) (k_Symbols_isFull_13 (by omega) hI ) ?_
      rintro _ _ ⟨z23, rfl, g19, rfl⟩
      refine k_run 0 (pc' := 34) (l' := [(0, .inr (.inr 361)), (1, .inr (.inr 13)), (2, .inl a), (3, .inl b)]) (st' := [.inl z23]) rfl ?_
      refine h_zeq (off := 9) (t := 43) rfl rfl (by omega) (fun c24 => ?_) (fun c24 => ?_)
      · refine k_run 0 (pc' := 43) (l' := [(0, .inr (.inr 361)), (1, .inr (.inr 13)), (2, .inl a), (3, .inl b)]) (st' := []) rfl ?_
        refine k_run 2 (pc' := 45) (l' := [(0, .inr (.inr 361)), (1, .inr (.inr 13)), (2, .inl a), (3, .inl b)]) (st' := [.inr (.inr 361), .inr (.inr 13)]) rfl ?_
        refine h_cv (i := 120) (j := 84) (b := 361) (M' := mt_84) (xs := []) (rest := [.inr (.inr 13)]) rfl rfl rfl rfl (zs_K (x := kx_361) rfl (by decide)) rfl (Nat.le_of_ble_eq_true rfl) (Nat.le_of_ble_eq_true rfl) (by omega) (k_Reader_name (by omega) hI ) ?_
        rintro _ _ ⟨z29, rfl, g25, rfl⟩
        refine k_run 0 (pc' := 48) (l' := [(0, .inr (.inr 361)), (1, .inr (.inr 13)), (2, .inl a), (3, .inl b)]) (st' := [.inr (.inl z29), .inr (.inr 13)]) rfl ?_
        refine k_run 1 (pc' := 49) (l' := [(0, .inr (.inr 361)), (1, .inr (.inr 13)), (2, .inl a), (3, .inl b)]) (st' := [.inl b, .inr (.inl z29), .inr (.inr 13)]) rfl ?_
        refine h_cv (i := 228) (j := 43) (b := 13) (M' := mt_43) (xs := [.inl b, .inr (.inl z29)]) (rest := []) rfl rfl rfl rfl (zs_K (x := kx_13) rfl (by decide)) rfl (Nat.le_of_ble_eq_true rfl) (Nat.le_of_ble_eq_true rfl) (by omega) (k_Symbols_add_13 (by omega) hI (by omega) (by omega)) ?_
        rintro _ H31 ⟨rfl, hI32, hq33⟩
        have hf34 : fq [(13, 4), (361, 3), (361, 4), (361, 5)] [14, 15, 16] false H H31 := fq_t (fq_rf _ _ _ _) hq33 rfl rfl rfl
        refine k_run 0 (pc' := 52) (l' := [(0, .inr (.inr 361)), (1, .inr (.inr 13)), (2, .inl a), (3, .inl b)]) (st' := []) rfl ?_
        refine k_run 3 (pc' := 57) (l' := [(0, .inr (.inr 361)), (1, .inr (.inr 13)), (2, .inl a), (3, .inl b)]) (st' := [.inl (H31.1 361 3), .inr (.inr 361)]) rfl ?_
        have g35 : -2147483648 ≤ (H31.1 361 3) ∧ (H31.1 361 3) ≤ 2147483647 := kn (x := kx_361) hI32 rfl 3
        have e36 : (H31.1 361 3) = (H.1 361 3) := (hq33.1 361 3 rfl (by decide) (by decide)).1
        refine k_run 2 (pc' := 59) (l' := [(0, .inr (.inr 361)), (1, .inr (.inr 13)), (2, .inl a), (3, .inl b)]) (st' := [.inl ((H31.1 361 3) + 1), .inr (.inr 361)]) rfl ?_
        refine k_putw (a := 361) (x := kx_361) rfl rfl rfl (by decide) (by decide) rfl rfl rfl rfl hI32 rfl (fun H37 hI38 hw39 => ?_)
        have hf41 : fq [(13, 4), (361, 3), (361, 4), (361, 5)] [14, 15, 16] false H H37 := fq_w hf34 hw39 (fpo (by decide) rfl)
        refine k_run 0 (pc' := 62) (l' := [(0, .inr (.inr 361)), (1, .inr (.inr 13)), (2, .inl a), (3, .inl b)]) (st' := []) rfl ?_
        refine k_run 1 (pc' := 63) (l' := [(0, .inr (.inr 361)), (1, .inr (.inr 13)), (2, .inl a), (3, .inl b)]) (st' := [.inl 1]) rfl ?_
        refine h_retz (x := 1) rfl rfl (by decide) ?_
        exact ⟨_, rfl, (by omega), hI38, hf41⟩
      · refine k_run 0 (pc' := 37) (l' := [(0, .inr (.inr 361)), (1, .inr (.inr 13)), (2, .inl a), (3, .inl b)]) (st' := []) rfl ?_
        refine k_run 2 (pc' := 39) (l' := [(0, .inr (.inr 361)), (1, .inr (.inr 13)), (2, .inl a), (3, .inl b)]) (st' := [.inl 5, .inr (.inr 361)]) rfl ?_
        refine h_cv (i := 128) (j := 86) (b := 361) (M' := mt_86) (xs := [.inl 5]) (rest := []) rfl rfl rfl rfl (zs_K (x := kx_361) rfl (by decide)) rfl (Nat.le_of_ble_eq_true rfl) (Nat.le_of_ble_eq_true rfl) (by omega) (k_Reader_fails (by omega) hI (by decide)) ?_
        rintro _ H43 ⟨z46, rfl, g42, hI44, hq45⟩
        have hf47 : fq [(13, 4), (361, 3), (361, 4), (361, 5)] [14, 15, 16] false H H43 := fq_t (fq_rf _ _ _ _) hq45 rfl rfl rfl
        refine k_run 0 (pc' := 42) (l' := [(0, .inr (.inr 361)), (1, .inr (.inr 13)), (2, .inl a), (3, .inl b)]) (st' := [.inl z46]) rfl ?_
        refine h_retz (x := z46) rfl rfl (by omega) ?_
        exact ⟨_, rfl, (by omega), hI44, hf47⟩
    · refine k_run 0 (pc' := 24) (l' := [(0, .inr (.inr 361)), (1, .inr (.inr 13)), (2, .inl a), (3, .inl b)]) (st' := []) rfl ?_
      refine k_run 2 (pc' := 26) (l' := [(0, .inr (.inr 361)), (1, .inr (.inr 13)), (2, .inl a), (3, .inl b)]) (st' := [.inl 3, .inr (.inr 361)]) rfl ?_
      refine h_cv (i := 128) (j := 86) (b := 361) (M' := mt_86) (xs := [.inl 3]) (rest := []) rfl rfl rfl rfl (zs_K (x := kx_361) rfl (by decide)) rfl (Nat.le_of_ble_eq_true rfl) (Nat.le_of_ble_eq_true rfl) (by omega) (k_Reader_fails (by omega) hI (by decide)) ?_
      rintro _ H49 ⟨z52, rfl, g48, hI50, hq51⟩
      have hf53 : fq [(13, 4), (361, 3), (361, 4), (361, 5)] [14, 15, 16] false H H49 := fq_t (fq_rf _ _ _ _) hq51 rfl rfl rfl
      refine k_run 0 (pc' := 29) (l' := [(0, .inr (.inr 361)), (1, .inr (.inr 13)), (2, .inl a), (3, .inl b)]) (st' := [.inl z52]) rfl ?_
      refine h_retz (x := z52) rfl rfl (by omega) ?_
      exact ⟨_, rfl, (by omega), hI50, hf53⟩
  · refine k_run 0 (pc' := 8) (l' := [(0, .inr (.inr 361)), (1, .inr (.inr 13)), (2, .inl a), (3, .inl b)]) (st' := []) rfl ?_
    refine k_run 1 (pc' := 9) (l' := [(0, .inr (.inr 361)), (1, .inr (.inr 13)), (2, .inl a), (3, .inl b)]) (st' := [.inr (.inr 361)]) rfl ?_
    refine h_cv (i := 89) (j := 85) (b := 361) (M' := mt_85) (xs := []) (rest := []) rfl rfl rfl rfl (zs_K (x := kx_361) rfl (by decide)) rfl (Nat.le_of_ble_eq_true rfl) (Nat.le_of_ble_eq_true rfl) (by omega) (k_Reader_misplaced (by omega) hI ) ?_
    rintro _ H55 ⟨z58, rfl, g54, hI56, hq57⟩
    have hf59 : fq [(13, 4), (361, 3), (361, 4), (361, 5)] [14, 15, 16] false H H55 := fq_t (fq_rf _ _ _ _) hq57 rfl rfl rfl
    refine k_run 0 (pc' := 12) (l' := [(0, .inr (.inr 361)), (1, .inr (.inr 13)), (2, .inl a), (3, .inl b)]) (st' := [.inl z58]) rfl ?_
    refine h_retz (x := z58) rfl rfl (by omega) ?_
    exact ⟨_, rfl, (by omega), hI56, hf59⟩

/-! Reader.tellName -/
set_option maxRecDepth 100000 in
theorem k_Reader_tellName_18 {d : Nat} (hd : 3 ≤ d) {H : hp} (hI : Inv H) {a : Int} {b : Int} (ha : -2147483648 ≤ a ∧ a ≤ 2147483647) (hb : -2147483648 ≤ b ∧ b ≤ 2147483647) (hp0 : -2 ≤ b ∧ b ≤ 100) : hG (zs zK) d mt_78 0 (zargs 0 [.inr (.inr 361), .inr (.inr 18), .inl a, .inl b]) [] H (fun r9 H9 => ∃ z : Int, r9 = some (.inl z) ∧ ((0 ≤ z ∧ z ≤ 1)) ∧ Inv H9 ∧ fq [(18, 4), (361, 3), (361, 4), (361, 5)] [19, 20, 21] false H H9) := by
  refine k_run 0 (pc' := 0) (l' := [(0, .inr (.inr 361)), (1, .inr (.inr 18)), (2, .inl a), (3, .inl b)]) (st' := []) rfl ?_
  refine k_run 1 (pc' := 1) (l' := [(0, .inr (.inr 361)), (1, .inr (.inr 18)), (2, .inl a), (3, .inl b)]) (st' := [.inr (.inr 361)]) rfl ?_
  refine h_cv (i := 72) (j := 83) (b := 361) (M' := mt_83) (xs := []) (rest := []) rfl rfl rfl rfl (zs_K (x := kx_361) rfl (by decide)) rfl (Nat.le_of_ble_eq_true rfl) (Nat.le_of_ble_eq_true rfl) (by omega) (k_Reader_token (by omega) hI ) ?_
  rintro _ _ ⟨z5, rfl, g1, rfl⟩
  refine k_run 0 (pc' := 4) (l' := [(0, .inr (.inr 361)), (1, .inr (.inr 18)), (2, .inl a), (3, .inl b)]) (st' := [.inl z5]) rfl ?_
  refine k_run 1 (pc' := 5) (l' := [(0, .inr (.inr 361)), (1, .inr (.inr 18)), (2, .inl a), (3, .inl b)]) (st' := [.inl a, .inl z5]) rfl ?_
  refine h_ieq (off := 8) (t := 13) rfl rfl (by omega) (by omega) (fun c6 => ?_) (fun c6 => ?_)
  · refine k_run 0 (pc' := 13) (l' := [(0, .inr (.inr 361)), (1, .inr (.inr 18)), (2, .inl a), (3, .inl b)]) (st' := []) rfl ?_
    refine k_run 2 (pc' := 15) (l' := [(0, .inr (.inr 361)), (1, .inr (.inr 18)), (2, .inl a), (3, .inl b)]) (st' := [.inr (.inr 361), .inr (.inr 18)]) rfl ?_
    refine h_cv (i := 120) (j := 84) (b := 361) (M' := mt_84) (xs := []) (rest := [.inr (.inr 18)]) rfl rfl rfl rfl (zs_K (x := kx_361) rfl (by decide)) rfl (Nat.le_of_ble_eq_true rfl) (Nat.le_of_ble_eq_true rfl) (by omega) (k_Reader_name (by omega) hI ) ?_
    rintro _ _ ⟨z11, rfl, g7, rfl⟩
    refine k_run 0 (pc' := 18) (l' := [(0, .inr (.inr 361)), (1, .inr (.inr 18)), (2, .inl a), (3, .inl b)]) (st' := [.inr (.inl z11), .inr (.inr 18)]) rfl ?_
    have g12 : 0 ≤ (H.1 18 4) ∧ (H.1 18 4) ≤ 16 := kn (x := kx_18) hI rfl 4
    refine h_cv (i := 124) (j := 41) (b := 18) (M' := mt_41) (xs := [.inr (.inl z11)]) (rest := []) rfl rfl rfl rfl (zs_K (x := kx_18) rfl (by decide)) rfl (Nat.le_of_ble_eq_true rfl) (Nat.le_of_ble_eq_true rfl) (by omega) (k_Symbols_find_18 (by omega) hI ) ?_
    rintro _ _ ⟨z17, rfl, g13, rfl⟩
    refine k_run 0 (pc' := 21) (l' := [(0, .inr (.inr 361)), (1, .inr (.inr 18)), (2, .inl a), (3, .inl b)]) (st' := [.inl z17]) rfl ?_
    refine h_zlt (off := 9) (t := 30) rfl rfl (by omega) (fun c18 => ?_) (fun c18 => ?_)
    · refine k_run 0 (pc' := 30) (l' := [(0, .inr (.inr 361)), (1, .inr (.inr 18)), (2, .inl a), (3, .inl b)]) (st' := []) rfl ?_
      refine k_run 1 (pc' := 31) (l' := [(0, .inr (.inr 361)), (1, .inr (.inr 18)), (2, .inl a), (3, .inl b)]) (st' := [.inr (.inr 18)]) rfl ?_
      refine h_cv (i := 225) (j := 42) (b := 18) (M' := mt_42) (xs := []) (rest := []) rfl rfl rfl rfl (zs_K (x := kx_18) rfl (by decide)) rfl (Nat.le_of_ble_eq_true rfl) (Nat.le_of_ble_eq_true rfl) (by omega) (k_Symbols_isFull_18 (by omega) hI ) ?_
      rintro _ _ ⟨z23, rfl, g19, rfl⟩
      refine k_run 0 (pc' := 34) (l' := [(0, .inr (.inr 361)), (1, .inr (.inr 18)), (2, .inl a), (3, .inl b)]) (st' := [.inl z23]) rfl ?_
      refine h_zeq (off := 9) (t := 43) rfl rfl (by omega) (fun c24 => ?_) (fun c24 => ?_)
      · refine k_run 0 (pc' := 43) (l' := [(0, .inr (.inr 361)), (1, .inr (.inr 18)), (2, .inl a), (3, .inl b)]) (st' := []) rfl ?_
        refine k_run 2 (pc' := 45) (l' := [(0, .inr (.inr 361)), (1, .inr (.inr 18)), (2, .inl a), (3, .inl b)]) (st' := [.inr (.inr 361), .inr (.inr 18)]) rfl ?_
        refine h_cv (i := 120) (j := 84) (b := 361) (M' := mt_84) (xs := []) (rest := [.inr (.inr 18)]) rfl rfl rfl rfl (zs_K (x := kx_361) rfl (by decide)) rfl (Nat.le_of_ble_eq_true rfl) (Nat.le_of_ble_eq_true rfl) (by omega) (k_Reader_name (by omega) hI ) ?_
        rintro _ _ ⟨z29, rfl, g25, rfl⟩
        refine k_run 0 (pc' := 48) (l' := [(0, .inr (.inr 361)), (1, .inr (.inr 18)), (2, .inl a), (3, .inl b)]) (st' := [.inr (.inl z29), .inr (.inr 18)]) rfl ?_
        refine k_run 1 (pc' := 49) (l' := [(0, .inr (.inr 361)), (1, .inr (.inr 18)), (2, .inl a), (3, .inl b)]) (st' := [.inl b, .inr (.inl z29), .inr (.inr 18)]) rfl ?_
        refine h_cv (i := 228) (j := 43) (b := 18) (M' := mt_43) (xs := [.inl b, .inr (.inl z29)]) (rest := []) rfl rfl rfl rfl (zs_K (x := kx_18) rfl (by decide)) rfl (Nat.le_of_ble_eq_true rfl) (Nat.le_of_ble_eq_true rfl) (by omega) (k_Symbols_add_18 (by omega) hI (by omega) (by omega)) ?_
        rintro _ H31 ⟨rfl, hI32, hq33⟩
        have hf34 : fq [(18, 4), (361, 3), (361, 4), (361, 5)] [19, 20, 21] false H H31 := fq_t (fq_rf _ _ _ _) hq33 rfl rfl rfl
        refine k_run 0 (pc' := 52) (l' := [(0, .inr (.inr 361)), (1, .inr (.inr 18)), (2, .inl a), (3, .inl b)]) (st' := []) rfl ?_
        refine k_run 3 (pc' := 57) (l' := [(0, .inr (.inr 361)), (1, .inr (.inr 18)), (2, .inl a), (3, .inl b)]) (st' := [.inl (H31.1 361 3), .inr (.inr 361)]) rfl ?_
        have g35 : -2147483648 ≤ (H31.1 361 3) ∧ (H31.1 361 3) ≤ 2147483647 := kn (x := kx_361) hI32 rfl 3
        have e36 : (H31.1 361 3) = (H.1 361 3) := (hq33.1 361 3 rfl (by decide) (by decide)).1
        refine k_run 2 (pc' := 59) (l' := [(0, .inr (.inr 361)), (1, .inr (.inr 18)), (2, .inl a), (3, .inl b)]) (st' := [.inl ((H31.1 361 3) + 1), .inr (.inr 361)]) rfl ?_
        refine k_putw (a := 361) (x := kx_361) rfl rfl rfl (by decide) (by decide) rfl rfl rfl rfl hI32 rfl (fun H37 hI38 hw39 => ?_)
        have hf41 : fq [(18, 4), (361, 3), (361, 4), (361, 5)] [19, 20, 21] false H H37 := fq_w hf34 hw39 (fpo (by decide) rfl)
        refine k_run 0 (pc' := 62) (l' := [(0, .inr (.inr 361)), (1, .inr (.inr 18)), (2, .inl a), (3, .inl b)]) (st' := []) rfl ?_
        refine k_run 1 (pc' := 63) (l' := [(0, .inr (.inr 361)), (1, .inr (.inr 18)), (2, .inl a), (3, .inl b)]) (st' := [.inl 1]) rfl ?_
        refine h_retz (x := 1) rfl rfl (by decide) ?_
        exact ⟨_, rfl, (by omega), hI38, hf41⟩
      · refine k_run 0 (pc' := 37) (l' := [(0, .inr (.inr 361)), (1, .inr (.inr 18)), (2, .inl a), (3, .inl b)]) (st' := []) rfl ?_
        refine k_run 2 (pc' := 39) (l' := [(0, .inr (.inr 361)), (1, .inr (.inr 18)), (2, .inl a), (3, .inl b)]) (st' := [.inl 5, .inr (.inr 361)]) rfl ?_
        refine h_cv (i := 128) (j := 86) (b := 361) (M' := mt_86) (xs := [.inl 5]) (rest := []) rfl rfl rfl rfl (zs_K (x := kx_361) rfl (by decide)) rfl (Nat.le_of_ble_eq_true rfl) (Nat.le_of_ble_eq_true rfl) (by omega) (k_Reader_fails (by omega) hI (by decide)) ?_
        rintro _ H43 ⟨z46, rfl, g42, hI44, hq45⟩
        have hf47 : fq [(18, 4), (361, 3), (361, 4), (361, 5)] [19, 20, 21] false H H43 := fq_t (fq_rf _ _ _ _) hq45 rfl rfl rfl
        refine k_run 0 (pc' := 42) (l' := [(0, .inr (.inr 361)), (1, .inr (.inr 18)), (2, .inl a), (3, .inl b)]) (st' := [.inl z46]) rfl ?_
        refine h_retz (x := z46) rfl rfl (by omega) ?_
        exact ⟨_, rfl, (by omega), hI44, hf47⟩
    · refine k_run 0 (pc' := 24) (l' := [(0, .inr (.inr 361)), (1, .inr (.inr 18)), (2, .inl a), (3, .inl b)]) (st' := []) rfl ?_
      refine k_run 2 (pc' := 26) (l' := [(0, .inr (.inr 361)), (1, .inr (.inr 18)), (2, .inl a), (3, .inl b)]) (st' := [.inl 3, .inr (.inr 361)]) rfl ?_
      refine h_cv (i := 128) (j := 86) (b := 361) (M' := mt_86) (xs := [.inl 3]) (rest := []) rfl rfl rfl rfl (zs_K (x := kx_361) rfl (by decide)) rfl (Nat.le_of_ble_eq_true rfl) (Nat.le_of_ble_eq_true rfl) (by omega) (k_Reader_fails (by omega) hI (by decide)) ?_
      rintro _ H49 ⟨z52, rfl, g48, hI50, hq51⟩
      have hf53 : fq [(18, 4), (361, 3), (361, 4), (361, 5)] [19, 20, 21] false H H49 := fq_t (fq_rf _ _ _ _) hq51 rfl rfl rfl
      refine k_run 0 (pc' := 29) (l' := [(0, .inr (.inr 361)), (1, .inr (.inr 18)), (2, .inl a), (3, .inl b)]) (st' := [.inl z52]) rfl ?_
      refine h_retz (x := z52) rfl rfl (by omega) ?_
      exact ⟨_, rfl, (by omega), hI50, hf53⟩
  · refine k_run 0 (pc' := 8) (l' := [(0, .inr (.inr 361)), (1, .inr (.inr 18)), (2, .inl a), (3, .inl b)]) (st' := []) rfl ?_
    refine k_run 1 (pc' := 9) (l' := [(0, .inr (.inr 361)), (1, .inr (.inr 18)), (2, .inl a), (3, .inl b)]) (st' := [.inr (.inr 361)]) rfl ?_
    refine h_cv (i := 89) (j := 85) (b := 361) (M' := mt_85) (xs := []) (rest := []) rfl rfl rfl rfl (zs_K (x := kx_361) rfl (by decide)) rfl (Nat.le_of_ble_eq_true rfl) (Nat.le_of_ble_eq_true rfl) (by omega) (k_Reader_misplaced (by omega) hI ) ?_
    rintro _ H55 ⟨z58, rfl, g54, hI56, hq57⟩
    have hf59 : fq [(18, 4), (361, 3), (361, 4), (361, 5)] [19, 20, 21] false H H55 := fq_t (fq_rf _ _ _ _) hq57 rfl rfl rfl
    refine k_run 0 (pc' := 12) (l' := [(0, .inr (.inr 361)), (1, .inr (.inr 18)), (2, .inl a), (3, .inl b)]) (st' := [.inl z58]) rfl ?_
    refine h_retz (x := z58) rfl rfl (by omega) ?_
    exact ⟨_, rfl, (by omega), hI56, hf59⟩

/-! Reader.addName -/
set_option maxRecDepth 100000 in
theorem k_Reader_addName {d : Nat} (hd : 2 ≤ d) {H : hp} (hI : Inv H) {a : Int} (ha : -2147483648 ≤ a ∧ a ≤ 2147483647) : hG (zs zK) d mt_77 0 (zargs 0 [.inr (.inr 361), .inl a]) [] H (fun r9 H9 => ∃ z : Int, r9 = some (.inl z) ∧ ((0 ≤ z ∧ z ≤ 1)) ∧ Inv H9 ∧ fq [(361, 3), (361, 4), (361, 5)] [] false H H9) := by
  refine k_run 0 (pc' := 0) (l' := [(0, .inr (.inr 361)), (1, .inl a)]) (st' := []) rfl ?_
  refine k_run 1 (pc' := 1) (l' := [(0, .inr (.inr 361)), (1, .inl a)]) (st' := [.inr (.inr 361)]) rfl ?_
  refine k_getr (a := 361) (x := kx_361) rfl rfl rfl (by decide) rfl rfl rfl hI (fun h1 => ?_)
  obtain ⟨t2, et4⟩ : ∃ t9, t9 = H.2 361 8 := ⟨_, rfl⟩
  rw [← et4] at h1 ⊢
  obtain ⟨n5, k3⟩ := (show ∃ n, isT t2 n from h1)
  have k3b := k3.2.2.2.2
  refine k_run 0 (pc' := 4) (l' := [(0, .inr (.inr 361)), (1, .inl a)]) (st' := [.inr (.inr t2)]) rfl ?_
  refine k_get (a := t2) (x := (kTo t2 n5)) (v := .inl (H.1 t2 1)) rfl rfl k3.1 (iT0 k3) rfl rfl rfl ?_
  have g6 : 0 ≤ (H.1 t2 1) ∧ (H.1 t2 1) ≤ n5 := kn hI k3.1 1
  refine k_run 0 (pc' := 7) (l' := [(0, .inr (.inr 361)), (1, .inl a)]) (st' := [.inl (H.1 t2 1)]) rfl ?_
  refine k_run 1 (pc' := 9) (l' := [(0, .inr (.inr 361)), (1, .inl a)]) (st' := [.inl 40, .inl (H.1 t2 1)]) rfl ?_
  refine h_ilt (off := 9) (t := 18) rfl rfl (by omega) (by decide) (fun c7 => ?_) (fun c7 => ?_)
  · refine k_run 0 (pc' := 18) (l' := [(0, .inr (.inr 361)), (1, .inl a)]) (st' := []) rfl ?_
    refine k_run 1 (pc' := 19) (l' := [(0, .inr (.inr 361)), (1, .inl a)]) (st' := [.inr (.inr 361)]) rfl ?_
    refine k_getr (a := 361) (x := kx_361) rfl rfl rfl (by decide) rfl rfl rfl hI (fun h8 => ?_)
    rw [← et4]
    refine k_run 0 (pc' := 22) (l' := [(0, .inr (.inr 361)), (1, .inl a)]) (st' := [.inr (.inr t2)]) rfl ?_
    refine k_run 1 (pc' := 23) (l' := [(0, .inr (.inr 361)), (1, .inl a)]) (st' := [.inl a, .inr (.inr t2)]) rfl ?_
    refine h_cv (i := 222) (j := 52) (b := t2) (M' := mt_52) (xs := [.inl a]) (rest := []) rfl rfl rfl rfl (by rw [zs_K k3.1 (iT0 k3)]; rfl) rfl (Nat.le_of_ble_eq_true rfl) (Nat.le_of_ble_eq_true rfl) (by omega) (k_Term_put (by omega) hI k3 (by omega)) ?_
    rintro _ H10 ⟨rfl, hI11, hq12⟩
    have hf13 : fq [(361, 3), (361, 4), (361, 5)] [] false H H10 := fq_t (fq_rf _ _ _ _) hq12 rfl rfl rfl
    refine k_run 0 (pc' := 26) (l' := [(0, .inr (.inr 361)), (1, .inl a)]) (st' := []) rfl ?_
    refine k_run 3 (pc' := 31) (l' := [(0, .inr (.inr 361)), (1, .inl a)]) (st' := [.inl (H10.1 361 3), .inr (.inr 361)]) rfl ?_
    have g14 : -2147483648 ≤ (H10.1 361 3) ∧ (H10.1 361 3) ≤ 2147483647 := kn (x := kx_361) hI11 rfl 3
    have e15 : (H10.1 361 3) = (H.1 361 3) := (hq12.1 361 3 rfl (by decide) (by decide)).1
    refine k_run 2 (pc' := 33) (l' := [(0, .inr (.inr 361)), (1, .inl a)]) (st' := [.inl ((H10.1 361 3) + 1), .inr (.inr 361)]) rfl ?_
    refine k_putw (a := 361) (x := kx_361) rfl rfl rfl (by decide) (by decide) rfl rfl rfl rfl hI11 rfl (fun H16 hI17 hw18 => ?_)
    have hf20 : fq [(361, 3), (361, 4), (361, 5)] [] false H H16 := fq_w hf13 hw18 (fpo (by decide) rfl)
    refine k_run 0 (pc' := 36) (l' := [(0, .inr (.inr 361)), (1, .inl a)]) (st' := []) rfl ?_
    refine k_run 1 (pc' := 37) (l' := [(0, .inr (.inr 361)), (1, .inl a)]) (st' := [.inl 1]) rfl ?_
    refine h_retz (x := 1) rfl rfl (by decide) ?_
    exact ⟨_, rfl, (by omega), hI17, hf20⟩
  · refine k_run 0 (pc' := 12) (l' := [(0, .inr (.inr 361)), (1, .inl a)]) (st' := []) rfl ?_
    refine k_run 2 (pc' := 14) (l' := [(0, .inr (.inr 361)), (1, .inl a)]) (st' := [.inl 5, .inr (.inr 361)]) rfl ?_
    refine h_cv (i := 128) (j := 86) (b := 361) (M' := mt_86) (xs := [.inl 5]) (rest := []) rfl rfl rfl rfl (zs_K (x := kx_361) rfl (by decide)) rfl (Nat.le_of_ble_eq_true rfl) (Nat.le_of_ble_eq_true rfl) (by omega) (k_Reader_fails (by omega) hI (by decide)) ?_
    rintro _ H22 ⟨z25, rfl, g21, hI23, hq24⟩
    have hf26 : fq [(361, 3), (361, 4), (361, 5)] [] false H H22 := fq_t (fq_rf _ _ _ _) hq24 rfl rfl rfl
    refine k_run 0 (pc' := 17) (l' := [(0, .inr (.inr 361)), (1, .inl a)]) (st' := [.inl z25]) rfl ?_
    refine h_retz (x := z25) rfl rfl (by omega) ?_
    exact ⟨_, rfl, (by omega), hI23, hf26⟩

/-! Reader.tellVariable -/
set_option maxRecDepth 100000 in
theorem k_Reader_tellVariable {d : Nat} (hd : 2 ≤ d) {H : hp} (hI : Inv H) {a : Int} (ha : -2147483648 ≤ a ∧ a ≤ 2147483647) (hp0 : -2 ≤ a ∧ a ≤ 100) : hG (zs zK) d mt_76 0 (zargs 0 [.inr (.inr 361), .inl a]) [] H (fun r9 H9 => ∃ z : Int, r9 = some (.inl z) ∧ ((-2147483648 ≤ z ∧ z ≤ 2147483647) ∧ (0 ≤ z ∧ z ≤ 40)) ∧ Inv H9 ∧ fq [(361, 9)] [362] true H H9) := by
  refine k_run 0 (pc' := 0) (l' := [(0, .inr (.inr 361)), (1, .inl a)]) (st' := []) rfl ?_
  refine k_run 2 (pc' := 4) (l' := [(0, .inr (.inr 361)), (1, .inl a)]) (st' := [.inl (H.1 361 9)]) rfl ?_
  have g1 : 0 ≤ (H.1 361 9) ∧ (H.1 361 9) ≤ 40 := kn (x := kx_361) hI rfl 9
  refine k_run 4 (pc' := 10) (l' := [(0, .inr (.inr 361)), (1, .inl a), (2, .inl (H.1 361 9))]) (st' := [.inr (.inr 362), .inl (H.1 361 9)]) rfl ?_
  refine k_alen (c := 362) (x := kx_362) rfl rfl (by decide) rfl ?_
  refine k_run 0 (pc' := 11) (l' := [(0, .inr (.inr 361)), (1, .inl a), (2, .inl (H.1 361 9))]) (st' := [.inl 40, .inl (H.1 361 9)]) rfl ?_
  refine h_ige (off := 33) (t := 44) rfl rfl (by omega) (by decide) (fun c2 => ?_) (fun c2 => ?_)
  · refine k_run 0 (pc' := 44) (l' := [(0, .inr (.inr 361)), (1, .inl a), (2, .inl (H.1 361 9))]) (st' := []) rfl ?_
    refine k_run 1 (pc' := 45) (l' := [(0, .inr (.inr 361)), (1, .inl a), (2, .inl (H.1 361 9))]) (st' := [.inl (H.1 361 9)]) rfl ?_
    refine h_reti (x := (H.1 361 9)) rfl rfl ?_
    exact ⟨_, rfl, (by omega), hI, (fq_rf _ _ _ _)⟩
  · refine k_run 0 (pc' := 14) (l' := [(0, .inr (.inr 361)), (1, .inl a), (2, .inl (H.1 361 9))]) (st' := []) rfl ?_
    refine k_run 4 (pc' := 20) (l' := [(0, .inr (.inr 361)), (1, .inl a), (2, .inl (H.1 361 9))]) (st' := [.inr (.inr 361), .inl (H.1 361 9), .inr (.inr 362)]) rfl ?_
    refine h_cv (i := 120) (j := 84) (b := 361) (M' := mt_84) (xs := []) (rest := [.inl (H.1 361 9), .inr (.inr 362)]) rfl rfl rfl rfl (zs_K (x := kx_361) rfl (by decide)) rfl (Nat.le_of_ble_eq_true rfl) (Nat.le_of_ble_eq_true rfl) (by omega) (k_Reader_name (by omega) hI ) ?_
    rintro _ _ ⟨z7, rfl, g3, rfl⟩
    refine k_run 0 (pc' := 23) (l' := [(0, .inr (.inr 361)), (1, .inl a), (2, .inl (H.1 361 9))]) (st' := [.inr (.inl z7), .inl (H.1 361 9), .inr (.inr 362)]) rfl ?_
    refine k_lst (c := 362) (j := ((H.1 361 9)).toNat) (i := (H.1 361 9)) (x := kx_362) rfl rfl (by decide) (by decide) rfl (by decide) (by omega) (by omega) hI rfl (fun H8 hI9 hw10 => ?_)
    have hf12 : fq [(361, 9)] [362] true H H8 := fq_w (fq_rf _ _ _ _) hw10 (fpa (by decide) rfl)
    refine k_run 0 (pc' := 24) (l' := [(0, .inr (.inr 361)), (1, .inl a), (2, .inl (H.1 361 9))]) (st' := []) rfl ?_
    refine k_run 1 (pc' := 25) (l' := [(0, .inr (.inr 361)), (1, .inl a), (2, .inl (H.1 361 9))]) (st' := [.inr (.inr 361)]) rfl ?_
    refine k_getr (a := 361) (x := kx_361) rfl rfl rfl (by decide) rfl rfl rfl hI9 (fun h13 => ?_)
    obtain ⟨t14, et16⟩ : ∃ t9, t9 = H8.2 361 7 := ⟨_, rfl⟩
    rw [← et16] at h13 ⊢
    have k15 : isE t14 := h13
    refine k_run 0 (pc' := 28) (l' := [(0, .inr (.inr 361)), (1, .inl a), (2, .inl (H.1 361 9))]) (st' := [.inr (.inr t14)]) rfl ?_
    refine k_get (a := t14) (x := (kEo t14)) (v := .inr (.inr (t14 + 5))) rfl rfl k15.1 (iE0 k15) rfl rfl rfl ?_
    refine k_run 0 (pc' := 31) (l' := [(0, .inr (.inr 361)), (1, .inl a), (2, .inl (H.1 361 9))]) (st' := [.inr (.inr (t14 + 5))]) rfl ?_
    refine k_run 2 (pc' := 33) (l' := [(0, .inr (.inr 361)), (1, .inl a), (2, .inl (H.1 361 9))]) (st' := [.inl a, .inl (H.1 361 9), .inr (.inr (t14 + 5))]) rfl ?_
    refine k_ist (z := a) (c := (t14 + 5)) (j := ((H.1 361 9)).toNat) (i := (H.1 361 9)) (x := kEt) rfl k15.2.1 (iE5 k15) (by omega) rfl (by decide) (by omega) (by omega) hI9 (by omega) (show -2 ≤ a ∧ a ≤ 100 by omega) (fun H17 hI18 hw19 hv20 => ?_)
    have hf21 : fq [(361, 9)] [362] true H H17 := fq_w hf12 hw19 (fpg (iEg k15))
    refine k_run 0 (pc' := 34) (l' := [(0, .inr (.inr 361)), (1, .inl a), (2, .inl (H.1 361 9))]) (st' := []) rfl ?_
    refine k_run 3 (pc' := 39) (l' := [(0, .inr (.inr 361)), (1, .inl a), (2, .inl (H.1 361 9))]) (st' := [.inl (H17.1 361 9), .inr (.inr 361)]) rfl ?_
    have g22 : 0 ≤ (H17.1 361 9) ∧ (H17.1 361 9) ≤ 40 := kn (x := kx_361) hI18 rfl 9
    have e23 : (H17.1 361 9) = (H8.1 361 9) := hw19.2 _ _ (fun q => by have h9 := (iEg k15); rw [← q.1] at h9; exact absurd h9 (by decide))
    have e24 : (H8.1 361 9) = (H.1 361 9) := hw10.2 _ _ (fun q => absurd q.1 (by decide))
    refine k_run 2 (pc' := 41) (l' := [(0, .inr (.inr 361)), (1, .inl a), (2, .inl (H.1 361 9))]) (st' := [.inl ((H17.1 361 9) + 1), .inr (.inr 361)]) rfl ?_
    refine k_puti (z := ((H17.1 361 9) + 1)) (a := 361) (x := kx_361) rfl rfl rfl (by decide) (by decide) rfl rfl rfl rfl hI18 (by omega) (show 0 ≤ ((H17.1 361 9) + 1) ∧ ((H17.1 361 9) + 1) ≤ 40 by omega) (fun H25 hI26 hw27 hv28 => ?_)
    have hf29 : fq [(361, 9)] [362] true H H25 := fq_w hf21 hw27 (fpo (by decide) rfl)
    refine k_run 0 (pc' := 44) (l' := [(0, .inr (.inr 361)), (1, .inl a), (2, .inl (H.1 361 9))]) (st' := []) rfl ?_
    refine k_run 1 (pc' := 45) (l' := [(0, .inr (.inr 361)), (1, .inl a), (2, .inl (H.1 361 9))]) (st' := [.inl (H.1 361 9)]) rfl ?_
    refine h_reti (x := (H.1 361 9)) rfl rfl ?_
    exact ⟨_, rfl, (by omega), hI26, hf29⟩

/-! Reader.readVariable -/
set_option maxRecDepth 100000 in
theorem k_Reader_readVariable {d : Nat} (hd : 3 ≤ d) {H : hp} (hI : Inv H) {a : Int} (ha : -2147483648 ≤ a ∧ a ≤ 2147483647) (hp0 : -2 ≤ a ∧ a ≤ 100) : hG (zs zK) d mt_75 0 (zargs 0 [.inr (.inr 361), .inl a]) [] H (fun r9 H9 => ∃ z : Int, r9 = some (.inl z) ∧ ((0 ≤ z ∧ z ≤ 1)) ∧ Inv H9 ∧ fq [(361, 3), (361, 4), (361, 5), (361, 9)] [362] true H H9) := by
  refine k_run 0 (pc' := 0) (l' := [(0, .inr (.inr 361)), (1, .inl a)]) (st' := []) rfl ?_
  refine k_run 2 (pc' := 3) (l' := [(0, .inr (.inr 361)), (1, .inl a)]) (st' := [.inl (-2), .inl a]) rfl ?_
  refine h_ine (off := 9) (t := 12) rfl rfl (by omega) (by decide) (fun c1 => ?_) (fun c1 => ?_)
  · refine k_run 0 (pc' := 12) (l' := [(0, .inr (.inr 361)), (1, .inl a)]) (st' := []) rfl ?_
    refine k_run 2 (pc' := 16) (l' := [(0, .inr (.inr 361)), (1, .inl a)]) (st' := [.inl (H.1 361 6)]) rfl ?_
    have g2 : -2147483648 ≤ (H.1 361 6) ∧ (H.1 361 6) ≤ 2147483647 := kn (x := kx_361) hI rfl 6
    refine k_run 1 (pc' := 17) (l' := [(0, .inr (.inr 361)), (1, .inl a)]) (st' := [.inl 2, .inl (H.1 361 6)]) rfl ?_
    refine h_ine (off := 7) (t := 24) rfl rfl (by omega) (by decide) (fun c3 => ?_) (fun c3 => ?_)
    · refine k_run 0 (pc' := 24) (l' := [(0, .inr (.inr 361)), (1, .inl a)]) (st' := []) rfl ?_
      refine k_run 1 (pc' := 25) (l' := [(0, .inr (.inr 361)), (1, .inl a)]) (st' := [.inr (.inr 361)]) rfl ?_
      refine h_cv (i := 203) (j := 79) (b := 361) (M' := mt_79) (xs := []) (rest := []) rfl rfl rfl rfl (zs_K (x := kx_361) rfl (by decide)) rfl (Nat.le_of_ble_eq_true rfl) (Nat.le_of_ble_eq_true rfl) (by omega) (k_Reader_findVariable (by omega) hI ) ?_
      rintro _ _ ⟨z8, rfl, g4, rfl⟩
      refine k_run 0 (pc' := 28) (l' := [(0, .inr (.inr 361)), (1, .inl a)]) (st' := [.inl z8]) rfl ?_
      refine k_run 2 (pc' := 30) (l' := [(0, .inr (.inr 361)), (1, .inl a), (2, .inl z8)]) (st' := [.inl z8]) rfl ?_
      refine h_zge (off := 17) (t := 47) rfl rfl (by omega) (fun c9 => ?_) (fun c9 => ?_)
      · refine k_run 0 (pc' := 47) (l' := [(0, .inr (.inr 361)), (1, .inl a), (2, .inl z8)]) (st' := []) rfl ?_
        refine k_run 1 (pc' := 48) (l' := [(0, .inr (.inr 361)), (1, .inl a), (2, .inl z8)]) (st' := [.inl z8]) rfl ?_
        refine h_zlt (off := 22) (t := 70) rfl rfl (by omega) (fun c10 => ?_) (fun c10 => ?_)
        · exfalso
          omega
        · refine k_run 0 (pc' := 51) (l' := [(0, .inr (.inr 361)), (1, .inl a), (2, .inl z8)]) (st' := []) rfl ?_
          refine k_run 1 (pc' := 52) (l' := [(0, .inr (.inr 361)), (1, .inl a), (2, .inl z8)]) (st' := [.inr (.inr 361)]) rfl ?_
          refine k_getr (a := 361) (x := kx_361) rfl rfl rfl (by decide) rfl rfl rfl hI (fun h11 => ?_)
          obtain ⟨t12, et14⟩ : ∃ t9, t9 = H.2 361 7 := ⟨_, rfl⟩
          rw [← et14] at h11 ⊢
          have k13 : isE t12 := h11
          refine k_run 0 (pc' := 55) (l' := [(0, .inr (.inr 361)), (1, .inl a), (2, .inl z8)]) (st' := [.inr (.inr t12)]) rfl ?_
          refine k_get (a := t12) (x := (kEo t12)) (v := .inr (.inr (t12 + 5))) rfl rfl k13.1 (iE0 k13) rfl rfl rfl ?_
          refine k_run 0 (pc' := 58) (l' := [(0, .inr (.inr 361)), (1, .inl a), (2, .inl z8)]) (st' := [.inr (.inr (t12 + 5))]) rfl ?_
          refine k_run 1 (pc' := 59) (l' := [(0, .inr (.inr 361)), (1, .inl a), (2, .inl z8)]) (st' := [.inl z8, .inr (.inr (t12 + 5))]) rfl ?_
          refine k_ild (c := (t12 + 5)) (j := (z8).toNat) (i := z8) (x := kEt) rfl k13.2.1 (iE5 k13) rfl (by decide) (by omega) (by omega) ?_
          have g15 : -2 ≤ (H.1 (t12 + 5) (z8).toNat) ∧ (H.1 (t12 + 5) (z8).toNat) ≤ 100 := kn hI k13.2.1 (z8).toNat
          refine k_run 0 (pc' := 60) (l' := [(0, .inr (.inr 361)), (1, .inl a), (2, .inl z8)]) (st' := [.inl (H.1 (t12 + 5) (z8).toNat)]) rfl ?_
          refine k_run 1 (pc' := 61) (l' := [(0, .inr (.inr 361)), (1, .inl a), (2, .inl z8)]) (st' := [.inl a, .inl (H.1 (t12 + 5) (z8).toNat)]) rfl ?_
          refine h_ieq (off := 9) (t := 70) rfl rfl (by omega) (by omega) (fun c16 => ?_) (fun c16 => ?_)
          · refine k_run 0 (pc' := 70) (l' := [(0, .inr (.inr 361)), (1, .inl a), (2, .inl z8)]) (st' := []) rfl ?_
            refine k_run 1 (pc' := 71) (l' := [(0, .inr (.inr 361)), (1, .inl a), (2, .inl z8)]) (st' := [.inl z8]) rfl ?_
            refine h_zge (off := 18) (t := 89) rfl rfl (by omega) (fun c17 => ?_) (fun c17 => ?_)
            · refine k_run 0 (pc' := 89) (l' := [(0, .inr (.inr 361)), (1, .inl a), (2, .inl z8)]) (st' := []) rfl ?_
              refine k_run 3 (pc' := 92) (l' := [(0, .inr (.inr 361)), (1, .inl a), (2, .inl z8)]) (st' := [.inl z8, .inl 3, .inr (.inr 361)]) rfl ?_
              refine h_zge (off := 11) (t := 103) rfl rfl (by omega) (fun c18 => ?_) (fun c18 => ?_)
              · refine k_run 0 (pc' := 103) (l' := [(0, .inr (.inr 361)), (1, .inl a), (2, .inl z8)]) (st' := [.inl 3, .inr (.inr 361)]) rfl ?_
                refine k_run 2 (pc' := 105) (l' := [(0, .inr (.inr 361)), (1, .inl a), (2, .inl z8)]) (st' := [.inl 0, .inl z8, .inl 3, .inr (.inr 361)]) rfl ?_
                refine h_cs (i := 153) (j := 48) (M' := mt_48) (xs := [.inl 0, .inl z8, .inl 3]) (rest := [.inr (.inr 361)]) rfl rfl rfl rfl rfl (Nat.le_of_ble_eq_true rfl) (Nat.le_of_ble_eq_true rfl) (by omega) (k_Term_codeOf (by omega)  (by decide) (by omega) (by decide)) ?_
                rintro _ _ ⟨z23, rfl, g19, rfl⟩
                refine k_run 0 (pc' := 108) (l' := [(0, .inr (.inr 361)), (1, .inl a), (2, .inl z8)]) (st' := [.inl z23, .inr (.inr 361)]) rfl ?_
                refine h_cv (i := 157) (j := 77) (b := 361) (M' := mt_77) (xs := [.inl z23]) (rest := []) rfl rfl rfl rfl (zs_K (x := kx_361) rfl (by decide)) rfl (Nat.le_of_ble_eq_true rfl) (Nat.le_of_ble_eq_true rfl) (by omega) (k_Reader_addName (by omega) hI (by omega)) ?_
                rintro _ H25 ⟨z28, rfl, g24, hI26, hq27⟩
                have hf29 : fq [(361, 3), (361, 4), (361, 5), (361, 9)] [362] true H H25 := fq_t (fq_rf _ _ _ _) hq27 rfl rfl rfl
                refine k_run 0 (pc' := 111) (l' := [(0, .inr (.inr 361)), (1, .inl a), (2, .inl z8)]) (st' := [.inl z28]) rfl ?_
                refine h_retz (x := z28) rfl rfl (by omega) ?_
                exact ⟨_, rfl, (by omega), hI26, hf29⟩
              · exfalso
                omega
            · exfalso
              omega
          · refine k_run 0 (pc' := 64) (l' := [(0, .inr (.inr 361)), (1, .inl a), (2, .inl z8)]) (st' := []) rfl ?_
            refine k_run 2 (pc' := 66) (l' := [(0, .inr (.inr 361)), (1, .inl a), (2, .inl z8)]) (st' := [.inl 4, .inr (.inr 361)]) rfl ?_
            refine h_cv (i := 128) (j := 86) (b := 361) (M' := mt_86) (xs := [.inl 4]) (rest := []) rfl rfl rfl rfl (zs_K (x := kx_361) rfl (by decide)) rfl (Nat.le_of_ble_eq_true rfl) (Nat.le_of_ble_eq_true rfl) (by omega) (k_Reader_fails (by omega) hI (by decide)) ?_
            rintro _ H31 ⟨z34, rfl, g30, hI32, hq33⟩
            have hf35 : fq [(361, 3), (361, 4), (361, 5), (361, 9)] [362] true H H31 := fq_t (fq_rf _ _ _ _) hq33 rfl rfl rfl
            refine k_run 0 (pc' := 69) (l' := [(0, .inr (.inr 361)), (1, .inl a), (2, .inl z8)]) (st' := [.inl z34]) rfl ?_
            refine h_retz (x := z34) rfl rfl (by omega) ?_
            exact ⟨_, rfl, (by omega), hI32, hf35⟩
      · refine k_run 0 (pc' := 33) (l' := [(0, .inr (.inr 361)), (1, .inl a), (2, .inl z8)]) (st' := []) rfl ?_
        refine k_run 3 (pc' := 38) (l' := [(0, .inr (.inr 361)), (1, .inl a), (2, .inl z8)]) (st' := [.inl 1, .inl (H.1 361 6)]) rfl ?_
        refine h_ieq (off := 9) (t := 47) rfl rfl (by omega) (by decide) (fun c36 => ?_) (fun c36 => ?_)
        · refine k_run 0 (pc' := 47) (l' := [(0, .inr (.inr 361)), (1, .inl a), (2, .inl z8)]) (st' := []) rfl ?_
          refine k_run 1 (pc' := 48) (l' := [(0, .inr (.inr 361)), (1, .inl a), (2, .inl z8)]) (st' := [.inl z8]) rfl ?_
          refine h_zlt (off := 22) (t := 70) rfl rfl (by omega) (fun c37 => ?_) (fun c37 => ?_)
          · refine k_run 0 (pc' := 70) (l' := [(0, .inr (.inr 361)), (1, .inl a), (2, .inl z8)]) (st' := []) rfl ?_
            refine k_run 1 (pc' := 71) (l' := [(0, .inr (.inr 361)), (1, .inl a), (2, .inl z8)]) (st' := [.inl z8]) rfl ?_
            refine h_zge (off := 18) (t := 89) rfl rfl (by omega) (fun c38 => ?_) (fun c38 => ?_)
            · exfalso
              omega
            · refine k_run 0 (pc' := 74) (l' := [(0, .inr (.inr 361)), (1, .inl a), (2, .inl z8)]) (st' := []) rfl ?_
              refine k_run 2 (pc' := 78) (l' := [(0, .inr (.inr 361)), (1, .inl a), (2, .inl z8)]) (st' := [.inl (H.1 361 9)]) rfl ?_
              have g39 : 0 ≤ (H.1 361 9) ∧ (H.1 361 9) ≤ 40 := kn (x := kx_361) hI rfl 9
              refine k_run 1 (pc' := 80) (l' := [(0, .inr (.inr 361)), (1, .inl a), (2, .inl z8)]) (st' := [.inl 6, .inl (H.1 361 9)]) rfl ?_
              refine h_ilt (off := 9) (t := 89) rfl rfl (by omega) (by decide) (fun c40 => ?_) (fun c40 => ?_)
              · refine k_run 0 (pc' := 89) (l' := [(0, .inr (.inr 361)), (1, .inl a), (2, .inl z8)]) (st' := []) rfl ?_
                refine k_run 3 (pc' := 92) (l' := [(0, .inr (.inr 361)), (1, .inl a), (2, .inl z8)]) (st' := [.inl z8, .inl 3, .inr (.inr 361)]) rfl ?_
                refine h_zge (off := 11) (t := 103) rfl rfl (by omega) (fun c41 => ?_) (fun c41 => ?_)
                · exfalso
                  omega
                · refine k_run 0 (pc' := 95) (l' := [(0, .inr (.inr 361)), (1, .inl a), (2, .inl z8)]) (st' := [.inl 3, .inr (.inr 361)]) rfl ?_
                  refine k_run 2 (pc' := 97) (l' := [(0, .inr (.inr 361)), (1, .inl a), (2, .inl z8)]) (st' := [.inl a, .inr (.inr 361), .inl 3, .inr (.inr 361)]) rfl ?_
                  refine h_cv (i := 206) (j := 76) (b := 361) (M' := mt_76) (xs := [.inl a]) (rest := [.inl 3, .inr (.inr 361)]) rfl rfl rfl rfl (zs_K (x := kx_361) rfl (by decide)) rfl (Nat.le_of_ble_eq_true rfl) (Nat.le_of_ble_eq_true rfl) (by omega) (k_Reader_tellVariable (by omega) hI (by omega) (by omega)) ?_
                  rintro _ H43 ⟨z46, rfl, g42, hI44, hq45⟩
                  have hf47 : fq [(361, 3), (361, 4), (361, 5), (361, 9)] [362] true H H43 := fq_t (fq_rf _ _ _ _) hq45 rfl rfl rfl
                  refine k_run 0 (pc' := 100) (l' := [(0, .inr (.inr 361)), (1, .inl a), (2, .inl z8)]) (st' := [.inl z46, .inl 3, .inr (.inr 361)]) rfl ?_
                  refine k_run 2 (pc' := 105) (l' := [(0, .inr (.inr 361)), (1, .inl a), (2, .inl z8)]) (st' := [.inl 0, .inl z46, .inl 3, .inr (.inr 361)]) rfl ?_
                  refine h_cs (i := 153) (j := 48) (M' := mt_48) (xs := [.inl 0, .inl z46, .inl 3]) (rest := [.inr (.inr 361)]) rfl rfl rfl rfl rfl (Nat.le_of_ble_eq_true rfl) (Nat.le_of_ble_eq_true rfl) (by omega) (k_Term_codeOf (by omega)  (by decide) (by omega) (by decide)) ?_
                  rintro _ _ ⟨z52, rfl, g48, rfl⟩
                  refine k_run 0 (pc' := 108) (l' := [(0, .inr (.inr 361)), (1, .inl a), (2, .inl z8)]) (st' := [.inl z52, .inr (.inr 361)]) rfl ?_
                  refine h_cv (i := 157) (j := 77) (b := 361) (M' := mt_77) (xs := [.inl z52]) (rest := []) rfl rfl rfl rfl (zs_K (x := kx_361) rfl (by decide)) rfl (Nat.le_of_ble_eq_true rfl) (Nat.le_of_ble_eq_true rfl) (by omega) (k_Reader_addName (by omega) hI44 (by omega)) ?_
                  rintro _ H54 ⟨z57, rfl, g53, hI55, hq56⟩
                  have hf58 : fq [(361, 3), (361, 4), (361, 5), (361, 9)] [362] true H H54 := fq_t hf47 hq56 rfl rfl rfl
                  refine k_run 0 (pc' := 111) (l' := [(0, .inr (.inr 361)), (1, .inl a), (2, .inl z8)]) (st' := [.inl z57]) rfl ?_
                  refine h_retz (x := z57) rfl rfl (by omega) ?_
                  exact ⟨_, rfl, (by omega), hI55, hf58⟩
              · refine k_run 0 (pc' := 83) (l' := [(0, .inr (.inr 361)), (1, .inl a), (2, .inl z8)]) (st' := []) rfl ?_
                refine k_run 2 (pc' := 85) (l' := [(0, .inr (.inr 361)), (1, .inl a), (2, .inl z8)]) (st' := [.inl 5, .inr (.inr 361)]) rfl ?_
                refine h_cv (i := 128) (j := 86) (b := 361) (M' := mt_86) (xs := [.inl 5]) (rest := []) rfl rfl rfl rfl (zs_K (x := kx_361) rfl (by decide)) rfl (Nat.le_of_ble_eq_true rfl) (Nat.le_of_ble_eq_true rfl) (by omega) (k_Reader_fails (by omega) hI (by decide)) ?_
                rintro _ H60 ⟨z63, rfl, g59, hI61, hq62⟩
                have hf64 : fq [(361, 3), (361, 4), (361, 5), (361, 9)] [362] true H H60 := fq_t (fq_rf _ _ _ _) hq62 rfl rfl rfl
                refine k_run 0 (pc' := 88) (l' := [(0, .inr (.inr 361)), (1, .inl a), (2, .inl z8)]) (st' := [.inl z63]) rfl ?_
                refine h_retz (x := z63) rfl rfl (by omega) ?_
                exact ⟨_, rfl, (by omega), hI61, hf64⟩
          · exfalso
            omega
        · refine k_run 0 (pc' := 41) (l' := [(0, .inr (.inr 361)), (1, .inl a), (2, .inl z8)]) (st' := []) rfl ?_
          refine k_run 2 (pc' := 43) (l' := [(0, .inr (.inr 361)), (1, .inl a), (2, .inl z8)]) (st' := [.inl 3, .inr (.inr 361)]) rfl ?_
          refine h_cv (i := 128) (j := 86) (b := 361) (M' := mt_86) (xs := [.inl 3]) (rest := []) rfl rfl rfl rfl (zs_K (x := kx_361) rfl (by decide)) rfl (Nat.le_of_ble_eq_true rfl) (Nat.le_of_ble_eq_true rfl) (by omega) (k_Reader_fails (by omega) hI (by decide)) ?_
          rintro _ H66 ⟨z69, rfl, g65, hI67, hq68⟩
          have hf70 : fq [(361, 3), (361, 4), (361, 5), (361, 9)] [362] true H H66 := fq_t (fq_rf _ _ _ _) hq68 rfl rfl rfl
          refine k_run 0 (pc' := 46) (l' := [(0, .inr (.inr 361)), (1, .inl a), (2, .inl z8)]) (st' := [.inl z69]) rfl ?_
          refine h_retz (x := z69) rfl rfl (by omega) ?_
          exact ⟨_, rfl, (by omega), hI67, hf70⟩
    · refine k_run 0 (pc' := 20) (l' := [(0, .inr (.inr 361)), (1, .inl a)]) (st' := []) rfl ?_
      refine k_run 4 (pc' := 30) (l' := [(0, .inr (.inr 361)), (1, .inl a), (2, .inl (-1))]) (st' := [.inl (-1)]) rfl ?_
      refine h_zge (off := 17) (t := 47) rfl rfl (by decide) (fun c => absurd c (by decide)) (fun _ => ?_)
      refine k_run 0 (pc' := 33) (l' := [(0, .inr (.inr 361)), (1, .inl a), (2, .inl (-1))]) (st' := []) rfl ?_
      refine k_run 3 (pc' := 38) (l' := [(0, .inr (.inr 361)), (1, .inl a), (2, .inl (-1))]) (st' := [.inl 1, .inl (H.1 361 6)]) rfl ?_
      refine h_ieq (off := 9) (t := 47) rfl rfl (by omega) (by decide) (fun c71 => ?_) (fun c71 => ?_)
      · refine k_run 0 (pc' := 47) (l' := [(0, .inr (.inr 361)), (1, .inl a), (2, .inl (-1))]) (st' := []) rfl ?_
        refine k_run 1 (pc' := 48) (l' := [(0, .inr (.inr 361)), (1, .inl a), (2, .inl (-1))]) (st' := [.inl (-1)]) rfl ?_
        refine h_zlt (off := 22) (t := 70) rfl rfl (by decide) (fun _ => ?_) (fun c => absurd c (by decide))
        refine k_run 0 (pc' := 70) (l' := [(0, .inr (.inr 361)), (1, .inl a), (2, .inl (-1))]) (st' := []) rfl ?_
        refine k_run 1 (pc' := 71) (l' := [(0, .inr (.inr 361)), (1, .inl a), (2, .inl (-1))]) (st' := [.inl (-1)]) rfl ?_
        refine h_zge (off := 18) (t := 89) rfl rfl (by decide) (fun c => absurd c (by decide)) (fun _ => ?_)
        refine k_run 0 (pc' := 74) (l' := [(0, .inr (.inr 361)), (1, .inl a), (2, .inl (-1))]) (st' := []) rfl ?_
        refine k_run 2 (pc' := 78) (l' := [(0, .inr (.inr 361)), (1, .inl a), (2, .inl (-1))]) (st' := [.inl (H.1 361 9)]) rfl ?_
        have g72 : 0 ≤ (H.1 361 9) ∧ (H.1 361 9) ≤ 40 := kn (x := kx_361) hI rfl 9
        refine k_run 1 (pc' := 80) (l' := [(0, .inr (.inr 361)), (1, .inl a), (2, .inl (-1))]) (st' := [.inl 6, .inl (H.1 361 9)]) rfl ?_
        refine h_ilt (off := 9) (t := 89) rfl rfl (by omega) (by decide) (fun c73 => ?_) (fun c73 => ?_)
        · refine k_run 0 (pc' := 89) (l' := [(0, .inr (.inr 361)), (1, .inl a), (2, .inl (-1))]) (st' := []) rfl ?_
          refine k_run 3 (pc' := 92) (l' := [(0, .inr (.inr 361)), (1, .inl a), (2, .inl (-1))]) (st' := [.inl (-1), .inl 3, .inr (.inr 361)]) rfl ?_
          refine h_zge (off := 11) (t := 103) rfl rfl (by decide) (fun c => absurd c (by decide)) (fun _ => ?_)
          refine k_run 0 (pc' := 95) (l' := [(0, .inr (.inr 361)), (1, .inl a), (2, .inl (-1))]) (st' := [.inl 3, .inr (.inr 361)]) rfl ?_
          refine k_run 2 (pc' := 97) (l' := [(0, .inr (.inr 361)), (1, .inl a), (2, .inl (-1))]) (st' := [.inl a, .inr (.inr 361), .inl 3, .inr (.inr 361)]) rfl ?_
          refine h_cv (i := 206) (j := 76) (b := 361) (M' := mt_76) (xs := [.inl a]) (rest := [.inl 3, .inr (.inr 361)]) rfl rfl rfl rfl (zs_K (x := kx_361) rfl (by decide)) rfl (Nat.le_of_ble_eq_true rfl) (Nat.le_of_ble_eq_true rfl) (by omega) (k_Reader_tellVariable (by omega) hI (by omega) (by omega)) ?_
          rintro _ H75 ⟨z78, rfl, g74, hI76, hq77⟩
          have hf79 : fq [(361, 3), (361, 4), (361, 5), (361, 9)] [362] true H H75 := fq_t (fq_rf _ _ _ _) hq77 rfl rfl rfl
          refine k_run 0 (pc' := 100) (l' := [(0, .inr (.inr 361)), (1, .inl a), (2, .inl (-1))]) (st' := [.inl z78, .inl 3, .inr (.inr 361)]) rfl ?_
          refine k_run 2 (pc' := 105) (l' := [(0, .inr (.inr 361)), (1, .inl a), (2, .inl (-1))]) (st' := [.inl 0, .inl z78, .inl 3, .inr (.inr 361)]) rfl ?_
          refine h_cs (i := 153) (j := 48) (M' := mt_48) (xs := [.inl 0, .inl z78, .inl 3]) (rest := [.inr (.inr 361)]) rfl rfl rfl rfl rfl (Nat.le_of_ble_eq_true rfl) (Nat.le_of_ble_eq_true rfl) (by omega) (k_Term_codeOf (by omega)  (by decide) (by omega) (by decide)) ?_
          rintro _ _ ⟨z84, rfl, g80, rfl⟩
          refine k_run 0 (pc' := 108) (l' := [(0, .inr (.inr 361)), (1, .inl a), (2, .inl (-1))]) (st' := [.inl z84, .inr (.inr 361)]) rfl ?_
          refine h_cv (i := 157) (j := 77) (b := 361) (M' := mt_77) (xs := [.inl z84]) (rest := []) rfl rfl rfl rfl (zs_K (x := kx_361) rfl (by decide)) rfl (Nat.le_of_ble_eq_true rfl) (Nat.le_of_ble_eq_true rfl) (by omega) (k_Reader_addName (by omega) hI76 (by omega)) ?_
          rintro _ H86 ⟨z89, rfl, g85, hI87, hq88⟩
          have hf90 : fq [(361, 3), (361, 4), (361, 5), (361, 9)] [362] true H H86 := fq_t hf79 hq88 rfl rfl rfl
          refine k_run 0 (pc' := 111) (l' := [(0, .inr (.inr 361)), (1, .inl a), (2, .inl (-1))]) (st' := [.inl z89]) rfl ?_
          refine h_retz (x := z89) rfl rfl (by omega) ?_
          exact ⟨_, rfl, (by omega), hI87, hf90⟩
        · refine k_run 0 (pc' := 83) (l' := [(0, .inr (.inr 361)), (1, .inl a), (2, .inl (-1))]) (st' := []) rfl ?_
          refine k_run 2 (pc' := 85) (l' := [(0, .inr (.inr 361)), (1, .inl a), (2, .inl (-1))]) (st' := [.inl 5, .inr (.inr 361)]) rfl ?_
          refine h_cv (i := 128) (j := 86) (b := 361) (M' := mt_86) (xs := [.inl 5]) (rest := []) rfl rfl rfl rfl (zs_K (x := kx_361) rfl (by decide)) rfl (Nat.le_of_ble_eq_true rfl) (Nat.le_of_ble_eq_true rfl) (by omega) (k_Reader_fails (by omega) hI (by decide)) ?_
          rintro _ H92 ⟨z95, rfl, g91, hI93, hq94⟩
          have hf96 : fq [(361, 3), (361, 4), (361, 5), (361, 9)] [362] true H H92 := fq_t (fq_rf _ _ _ _) hq94 rfl rfl rfl
          refine k_run 0 (pc' := 88) (l' := [(0, .inr (.inr 361)), (1, .inl a), (2, .inl (-1))]) (st' := [.inl z95]) rfl ?_
          refine h_retz (x := z95) rfl rfl (by omega) ?_
          exact ⟨_, rfl, (by omega), hI93, hf96⟩
      · refine k_run 0 (pc' := 41) (l' := [(0, .inr (.inr 361)), (1, .inl a), (2, .inl (-1))]) (st' := []) rfl ?_
        refine k_run 2 (pc' := 43) (l' := [(0, .inr (.inr 361)), (1, .inl a), (2, .inl (-1))]) (st' := [.inl 3, .inr (.inr 361)]) rfl ?_
        refine h_cv (i := 128) (j := 86) (b := 361) (M' := mt_86) (xs := [.inl 3]) (rest := []) rfl rfl rfl rfl (zs_K (x := kx_361) rfl (by decide)) rfl (Nat.le_of_ble_eq_true rfl) (Nat.le_of_ble_eq_true rfl) (by omega) (k_Reader_fails (by omega) hI (by decide)) ?_
        rintro _ H98 ⟨z101, rfl, g97, hI99, hq100⟩
        have hf102 : fq [(361, 3), (361, 4), (361, 5), (361, 9)] [362] true H H98 := fq_t (fq_rf _ _ _ _) hq100 rfl rfl rfl
        refine k_run 0 (pc' := 46) (l' := [(0, .inr (.inr 361)), (1, .inl a), (2, .inl (-1))]) (st' := [.inl z101]) rfl ?_
        refine h_retz (x := z101) rfl rfl (by omega) ?_
        exact ⟨_, rfl, (by omega), hI99, hf102⟩
  · refine k_run 0 (pc' := 6) (l' := [(0, .inr (.inr 361)), (1, .inl a)]) (st' := []) rfl ?_
    refine k_run 2 (pc' := 8) (l' := [(0, .inr (.inr 361)), (1, .inl a)]) (st' := [.inl 2, .inr (.inr 361)]) rfl ?_
    refine h_cv (i := 128) (j := 86) (b := 361) (M' := mt_86) (xs := [.inl 2]) (rest := []) rfl rfl rfl rfl (zs_K (x := kx_361) rfl (by decide)) rfl (Nat.le_of_ble_eq_true rfl) (Nat.le_of_ble_eq_true rfl) (by omega) (k_Reader_fails (by omega) hI (by decide)) ?_
    rintro _ H104 ⟨z107, rfl, g103, hI105, hq106⟩
    have hf108 : fq [(361, 3), (361, 4), (361, 5), (361, 9)] [362] true H H104 := fq_t (fq_rf _ _ _ _) hq106 rfl rfl rfl
    refine k_run 0 (pc' := 11) (l' := [(0, .inr (.inr 361)), (1, .inl a)]) (st' := [.inl z107]) rfl ?_
    refine h_retz (x := z107) rfl rfl (by omega) ?_
    exact ⟨_, rfl, (by omega), hI105, hf108⟩

/-! Reader.readPatternVariable -/
set_option maxRecDepth 100000 in
theorem k_Reader_readPatternVariable {d : Nat} (hd : 3 ≤ d) {H : hp} (hI : Inv H) {a : Int} (ha : -2147483648 ≤ a ∧ a ≤ 2147483647) (hp0 : -2 ≤ a ∧ a ≤ 100) : hG (zs zK) d mt_71 0 (zargs 0 [.inr (.inr 361), .inl a]) [] H (fun r9 H9 => ∃ z : Int, r9 = some (.inl z) ∧ ((0 ≤ z ∧ z ≤ 1)) ∧ Inv H9 ∧ fq [(361, 3), (361, 4), (361, 5), (361, 9)] [362] true H H9) := by
  refine k_run 0 (pc' := 0) (l' := [(0, .inr (.inr 361)), (1, .inl a)]) (st' := []) rfl ?_
  refine k_run 4 (pc' := 8) (l' := [(0, .inr (.inr 361)), (1, .inl a)]) (st' := [.inr (.inr 361), .inr (.inr 18)]) rfl ?_
  refine h_cv (i := 120) (j := 84) (b := 361) (M' := mt_84) (xs := []) (rest := [.inr (.inr 18)]) rfl rfl rfl rfl (zs_K (x := kx_361) rfl (by decide)) rfl (Nat.le_of_ble_eq_true rfl) (Nat.le_of_ble_eq_true rfl) (by omega) (k_Reader_name (by omega) hI ) ?_
  rintro _ _ ⟨z5, rfl, g1, rfl⟩
  refine k_run 0 (pc' := 11) (l' := [(0, .inr (.inr 361)), (1, .inl a)]) (st' := [.inr (.inl z5), .inr (.inr 18)]) rfl ?_
  have g6 : 0 ≤ (H.1 18 4) ∧ (H.1 18 4) ≤ 16 := kn (x := kx_18) hI rfl 4
  refine h_cv (i := 124) (j := 41) (b := 18) (M' := mt_41) (xs := [.inr (.inl z5)]) (rest := []) rfl rfl rfl rfl (zs_K (x := kx_18) rfl (by decide)) rfl (Nat.le_of_ble_eq_true rfl) (Nat.le_of_ble_eq_true rfl) (by omega) (k_Symbols_find_18 (by omega) hI ) ?_
  rintro _ _ ⟨z11, rfl, g7, rfl⟩
  refine k_run 0 (pc' := 14) (l' := [(0, .inr (.inr 361)), (1, .inl a)]) (st' := [.inl z11]) rfl ?_
  refine h_zlt (off := 9) (t := 23) rfl rfl (by omega) (fun c12 => ?_) (fun c12 => ?_)
  · refine k_run 0 (pc' := 23) (l' := [(0, .inr (.inr 361)), (1, .inl a)]) (st' := []) rfl ?_
    refine k_run 1 (pc' := 24) (l' := [(0, .inr (.inr 361)), (1, .inl a)]) (st' := [.inr (.inr 361)]) rfl ?_
    refine h_cv (i := 203) (j := 79) (b := 361) (M' := mt_79) (xs := []) (rest := []) rfl rfl rfl rfl (zs_K (x := kx_361) rfl (by decide)) rfl (Nat.le_of_ble_eq_true rfl) (Nat.le_of_ble_eq_true rfl) (by omega) (k_Reader_findVariable (by omega) hI ) ?_
    rintro _ _ ⟨z17, rfl, g13, rfl⟩
    refine k_run 0 (pc' := 27) (l' := [(0, .inr (.inr 361)), (1, .inl a)]) (st' := [.inl z17]) rfl ?_
    refine h_zlt (off := 9) (t := 36) rfl rfl (by omega) (fun c18 => ?_) (fun c18 => ?_)
    · refine k_run 0 (pc' := 36) (l' := [(0, .inr (.inr 361)), (1, .inl a)]) (st' := []) rfl ?_
      refine k_run 4 (pc' := 40) (l' := [(0, .inr (.inr 361)), (1, .inl a)]) (st' := [.inl a, .inr (.inr 361), .inl 3, .inr (.inr 361)]) rfl ?_
      refine h_cv (i := 206) (j := 76) (b := 361) (M' := mt_76) (xs := [.inl a]) (rest := [.inl 3, .inr (.inr 361)]) rfl rfl rfl rfl (zs_K (x := kx_361) rfl (by decide)) rfl (Nat.le_of_ble_eq_true rfl) (Nat.le_of_ble_eq_true rfl) (by omega) (k_Reader_tellVariable (by omega) hI (by omega) (by omega)) ?_
      rintro _ H20 ⟨z23, rfl, g19, hI21, hq22⟩
      have hf24 : fq [(361, 3), (361, 4), (361, 5), (361, 9)] [362] true H H20 := fq_t (fq_rf _ _ _ _) hq22 rfl rfl rfl
      refine k_run 0 (pc' := 43) (l' := [(0, .inr (.inr 361)), (1, .inl a)]) (st' := [.inl z23, .inl 3, .inr (.inr 361)]) rfl ?_
      refine k_run 1 (pc' := 44) (l' := [(0, .inr (.inr 361)), (1, .inl a)]) (st' := [.inl 0, .inl z23, .inl 3, .inr (.inr 361)]) rfl ?_
      refine h_cs (i := 153) (j := 48) (M' := mt_48) (xs := [.inl 0, .inl z23, .inl 3]) (rest := [.inr (.inr 361)]) rfl rfl rfl rfl rfl (Nat.le_of_ble_eq_true rfl) (Nat.le_of_ble_eq_true rfl) (by omega) (k_Term_codeOf (by omega)  (by decide) (by omega) (by decide)) ?_
      rintro _ _ ⟨z29, rfl, g25, rfl⟩
      refine k_run 0 (pc' := 47) (l' := [(0, .inr (.inr 361)), (1, .inl a)]) (st' := [.inl z29, .inr (.inr 361)]) rfl ?_
      refine h_cv (i := 157) (j := 77) (b := 361) (M' := mt_77) (xs := [.inl z29]) (rest := []) rfl rfl rfl rfl (zs_K (x := kx_361) rfl (by decide)) rfl (Nat.le_of_ble_eq_true rfl) (Nat.le_of_ble_eq_true rfl) (by omega) (k_Reader_addName (by omega) hI21 (by omega)) ?_
      rintro _ H31 ⟨z34, rfl, g30, hI32, hq33⟩
      have hf35 : fq [(361, 3), (361, 4), (361, 5), (361, 9)] [362] true H H31 := fq_t hf24 hq33 rfl rfl rfl
      refine k_run 0 (pc' := 50) (l' := [(0, .inr (.inr 361)), (1, .inl a)]) (st' := [.inl z34]) rfl ?_
      refine h_retz (x := z34) rfl rfl (by omega) ?_
      exact ⟨_, rfl, (by omega), hI32, hf35⟩
    · refine k_run 0 (pc' := 30) (l' := [(0, .inr (.inr 361)), (1, .inl a)]) (st' := []) rfl ?_
      refine k_run 2 (pc' := 32) (l' := [(0, .inr (.inr 361)), (1, .inl a)]) (st' := [.inl 3, .inr (.inr 361)]) rfl ?_
      refine h_cv (i := 128) (j := 86) (b := 361) (M' := mt_86) (xs := [.inl 3]) (rest := []) rfl rfl rfl rfl (zs_K (x := kx_361) rfl (by decide)) rfl (Nat.le_of_ble_eq_true rfl) (Nat.le_of_ble_eq_true rfl) (by omega) (k_Reader_fails (by omega) hI (by decide)) ?_
      rintro _ H37 ⟨z40, rfl, g36, hI38, hq39⟩
      have hf41 : fq [(361, 3), (361, 4), (361, 5), (361, 9)] [362] true H H37 := fq_t (fq_rf _ _ _ _) hq39 rfl rfl rfl
      refine k_run 0 (pc' := 35) (l' := [(0, .inr (.inr 361)), (1, .inl a)]) (st' := [.inl z40]) rfl ?_
      refine h_retz (x := z40) rfl rfl (by omega) ?_
      exact ⟨_, rfl, (by omega), hI38, hf41⟩
  · refine k_run 0 (pc' := 17) (l' := [(0, .inr (.inr 361)), (1, .inl a)]) (st' := []) rfl ?_
    refine k_run 2 (pc' := 19) (l' := [(0, .inr (.inr 361)), (1, .inl a)]) (st' := [.inl 2, .inr (.inr 361)]) rfl ?_
    refine h_cv (i := 128) (j := 86) (b := 361) (M' := mt_86) (xs := [.inl 2]) (rest := []) rfl rfl rfl rfl (zs_K (x := kx_361) rfl (by decide)) rfl (Nat.le_of_ble_eq_true rfl) (Nat.le_of_ble_eq_true rfl) (by omega) (k_Reader_fails (by omega) hI (by decide)) ?_
    rintro _ H43 ⟨z46, rfl, g42, hI44, hq45⟩
    have hf47 : fq [(361, 3), (361, 4), (361, 5), (361, 9)] [362] true H H43 := fq_t (fq_rf _ _ _ _) hq45 rfl rfl rfl
    refine k_run 0 (pc' := 22) (l' := [(0, .inr (.inr 361)), (1, .inl a)]) (st' := [.inl z46]) rfl ?_
    refine h_retz (x := z46) rfl rfl (by omega) ?_
    exact ⟨_, rfl, (by omega), hI44, hf47⟩

/-! Reader.readResult -/
set_option maxRecDepth 100000 in
theorem k_Reader_readResult {d : Nat} (hd : 3 ≤ d) {H : hp} (hI : Inv H) {a : Int} (ha : -2147483648 ≤ a ∧ a ≤ 2147483647) (hp0 : 0 ≤ a ∧ a < 16) : hG (zs zK) d mt_67 0 (zargs 0 [.inr (.inr 361), .inl a]) [] H (fun r9 H9 => ∃ z : Int, r9 = some (.inl z) ∧ ((0 ≤ z ∧ z ≤ 1)) ∧ Inv H9 ∧ fq [(361, 3), (361, 4), (361, 5)] [20] false H H9) := by
  refine k_run 0 (pc' := 0) (l' := [(0, .inr (.inr 361)), (1, .inl a)]) (st' := []) rfl ?_
  refine k_run 1 (pc' := 1) (l' := [(0, .inr (.inr 361)), (1, .inl a)]) (st' := [.inr (.inr 361)]) rfl ?_
  refine h_cv (i := 72) (j := 83) (b := 361) (M' := mt_83) (xs := []) (rest := []) rfl rfl rfl rfl (zs_K (x := kx_361) rfl (by decide)) rfl (Nat.le_of_ble_eq_true rfl) (Nat.le_of_ble_eq_true rfl) (by omega) (k_Reader_token (by omega) hI ) ?_
  rintro _ _ ⟨z5, rfl, g1, rfl⟩
  refine k_run 0 (pc' := 4) (l' := [(0, .inr (.inr 361)), (1, .inl a)]) (st' := [.inl z5]) rfl ?_
  refine k_run 1 (pc' := 5) (l' := [(0, .inr (.inr 361)), (1, .inl a)]) (st' := [.inl 3, .inl z5]) rfl ?_
  refine h_ieq (off := 8) (t := 13) rfl rfl (by omega) (by decide) (fun c6 => ?_) (fun c6 => ?_)
  · refine k_run 0 (pc' := 13) (l' := [(0, .inr (.inr 361)), (1, .inl a)]) (st' := []) rfl ?_
    refine k_run 4 (pc' := 21) (l' := [(0, .inr (.inr 361)), (1, .inl a)]) (st' := [.inr (.inr 361), .inr (.inr 8)]) rfl ?_
    refine h_cv (i := 120) (j := 84) (b := 361) (M' := mt_84) (xs := []) (rest := [.inr (.inr 8)]) rfl rfl rfl rfl (zs_K (x := kx_361) rfl (by decide)) rfl (Nat.le_of_ble_eq_true rfl) (Nat.le_of_ble_eq_true rfl) (by omega) (k_Reader_name (by omega) hI ) ?_
    rintro _ _ ⟨z11, rfl, g7, rfl⟩
    refine k_run 0 (pc' := 24) (l' := [(0, .inr (.inr 361)), (1, .inl a)]) (st' := [.inr (.inl z11), .inr (.inr 8)]) rfl ?_
    have g12 : 0 ≤ (H.1 8 4) ∧ (H.1 8 4) ≤ 6 := kn (x := kx_8) hI rfl 4
    refine h_cv (i := 124) (j := 41) (b := 8) (M' := mt_41) (xs := [.inr (.inl z11)]) (rest := []) rfl rfl rfl rfl (zs_K (x := kx_8) rfl (by decide)) rfl (Nat.le_of_ble_eq_true rfl) (Nat.le_of_ble_eq_true rfl) (by omega) (k_Symbols_find_8 (by omega) hI ) ?_
    rintro _ _ ⟨z17, rfl, g13, rfl⟩
    refine k_run 0 (pc' := 27) (l' := [(0, .inr (.inr 361)), (1, .inl a)]) (st' := [.inl z17]) rfl ?_
    refine k_run 2 (pc' := 29) (l' := [(0, .inr (.inr 361)), (1, .inl a), (2, .inl z17)]) (st' := [.inl z17]) rfl ?_
    refine h_zge (off := 9) (t := 38) rfl rfl (by omega) (fun c18 => ?_) (fun c18 => ?_)
    · refine k_run 0 (pc' := 38) (l' := [(0, .inr (.inr 361)), (1, .inl a), (2, .inl z17)]) (st' := []) rfl ?_
      refine k_run 6 (pc' := 50) (l' := [(0, .inr (.inr 361)), (1, .inl a), (2, .inl z17)]) (st' := [.inl z17, .inl a, .inr (.inr 20)]) rfl ?_
      refine k_ist (z := z17) (c := 20) (j := (a).toNat) (i := a) (x := kx_20) rfl rfl (by decide) (by decide) rfl (by decide) (by omega) (by omega) hI (by omega) (show -2 ≤ z17 ∧ z17 ≤ 100 by omega) (fun H19 hI20 hw21 hv22 => ?_)
      have hf23 : fq [(361, 3), (361, 4), (361, 5)] [20] false H H19 := fq_w (fq_rf _ _ _ _) hw21 (fpa (by decide) rfl)
      refine k_run 0 (pc' := 51) (l' := [(0, .inr (.inr 361)), (1, .inl a), (2, .inl z17)]) (st' := []) rfl ?_
      refine k_run 3 (pc' := 56) (l' := [(0, .inr (.inr 361)), (1, .inl a), (2, .inl z17)]) (st' := [.inl (H19.1 361 3), .inr (.inr 361)]) rfl ?_
      have g24 : -2147483648 ≤ (H19.1 361 3) ∧ (H19.1 361 3) ≤ 2147483647 := kn (x := kx_361) hI20 rfl 3
      have e25 : (H19.1 361 3) = (H.1 361 3) := hw21.2 _ _ (fun q => absurd q.1 (by decide))
      refine k_run 2 (pc' := 58) (l' := [(0, .inr (.inr 361)), (1, .inl a), (2, .inl z17)]) (st' := [.inl ((H19.1 361 3) + 1), .inr (.inr 361)]) rfl ?_
      refine k_putw (a := 361) (x := kx_361) rfl rfl rfl (by decide) (by decide) rfl rfl rfl rfl hI20 rfl (fun H26 hI27 hw28 => ?_)
      have hf30 : fq [(361, 3), (361, 4), (361, 5)] [20] false H H26 := fq_w hf23 hw28 (fpo (by decide) rfl)
      refine k_run 0 (pc' := 61) (l' := [(0, .inr (.inr 361)), (1, .inl a), (2, .inl z17)]) (st' := []) rfl ?_
      refine k_run 1 (pc' := 62) (l' := [(0, .inr (.inr 361)), (1, .inl a), (2, .inl z17)]) (st' := [.inl 1]) rfl ?_
      refine h_retz (x := 1) rfl rfl (by decide) ?_
      exact ⟨_, rfl, (by omega), hI27, hf30⟩
    · refine k_run 0 (pc' := 32) (l' := [(0, .inr (.inr 361)), (1, .inl a), (2, .inl z17)]) (st' := []) rfl ?_
      refine k_run 2 (pc' := 34) (l' := [(0, .inr (.inr 361)), (1, .inl a), (2, .inl z17)]) (st' := [.inl 3, .inr (.inr 361)]) rfl ?_
      refine h_cv (i := 128) (j := 86) (b := 361) (M' := mt_86) (xs := [.inl 3]) (rest := []) rfl rfl rfl rfl (zs_K (x := kx_361) rfl (by decide)) rfl (Nat.le_of_ble_eq_true rfl) (Nat.le_of_ble_eq_true rfl) (by omega) (k_Reader_fails (by omega) hI (by decide)) ?_
      rintro _ H32 ⟨z35, rfl, g31, hI33, hq34⟩
      have hf36 : fq [(361, 3), (361, 4), (361, 5)] [20] false H H32 := fq_t (fq_rf _ _ _ _) hq34 rfl rfl rfl
      refine k_run 0 (pc' := 37) (l' := [(0, .inr (.inr 361)), (1, .inl a), (2, .inl z17)]) (st' := [.inl z35]) rfl ?_
      refine h_retz (x := z35) rfl rfl (by omega) ?_
      exact ⟨_, rfl, (by omega), hI33, hf36⟩
  · refine k_run 0 (pc' := 8) (l' := [(0, .inr (.inr 361)), (1, .inl a)]) (st' := []) rfl ?_
    refine k_run 1 (pc' := 9) (l' := [(0, .inr (.inr 361)), (1, .inl a)]) (st' := [.inr (.inr 361)]) rfl ?_
    refine h_cv (i := 89) (j := 85) (b := 361) (M' := mt_85) (xs := []) (rest := []) rfl rfl rfl rfl (zs_K (x := kx_361) rfl (by decide)) rfl (Nat.le_of_ble_eq_true rfl) (Nat.le_of_ble_eq_true rfl) (by omega) (k_Reader_misplaced (by omega) hI ) ?_
    rintro _ H38 ⟨z41, rfl, g37, hI39, hq40⟩
    have hf42 : fq [(361, 3), (361, 4), (361, 5)] [20] false H H38 := fq_t (fq_rf _ _ _ _) hq40 rfl rfl rfl
    refine k_run 0 (pc' := 12) (l' := [(0, .inr (.inr 361)), (1, .inl a)]) (st' := [.inl z41]) rfl ?_
    refine h_retz (x := z41) rfl rfl (by omega) ?_
    exact ⟨_, rfl, (by omega), hI39, hf42⟩

/-! Reader.readConstructor -/
set_option maxRecDepth 100000 in
theorem k_Reader_readConstructor_cut {d : Nat} (hd : 4 ≤ d) {H : hp} (hI : Inv H) {a : Int} (ha : -2147483648 ≤ a ∧ a ≤ 2147483647) (hp0 : -2 ≤ a ∧ a ≤ 100) : ∀ w : Nat, (∀ (H1 : hp), Inv H1 → fq [(13, 4), (361, 3), (361, 4), (361, 5)] [14, 15, 16, 17] false H H1 → ∀ (x2 : Int) , (-2147483648 ≤ x2 ∧ x2 ≤ 2147483647) → (0 ≤ x2 ∧ x2 ≤ 4) → (((10 - x2).toNat) < w) → hG (zs zK) d mt_65 20 [(0, .inr (.inr 361)), (1, .inl a), (2, .inl x2)] [] H1 (fun r9 H9 => ∃ z : Int, r9 = some (.inl z) ∧ ((0 ≤ z ∧ z ≤ 1)) ∧ Inv H9 ∧ fq [(13, 4), (361, 3), (361, 4), (361, 5)] [14, 15, 16, 17] false H H9)) := by
  intro w
  induction w with
  | zero => exact fun _ _ _ _ _ _ h => absurd h (Nat.not_lt_zero _)
  | succ w ih =>
    intro H1 hI1 hf1 x2 hx2 hi0 hw
    refine k_run 2 (pc' := 22) (l' := [(0, .inr (.inr 361)), (1, .inl a), (2, .inl x2)]) (st' := [.inl 3, .inl x2]) rfl ?_
    refine h_igt (off := 74) (t := 96) rfl rfl (by omega) (by decide) (fun c8 => ?_) (fun c8 => ?_)
    · refine k_run 0 (pc' := 96) (l' := [(0, .inr (.inr 361)), (1, .inl a), (2, .inl x2)]) (st' := []) rfl ?_
      refine k_run 1 (pc' := 97) (l' := [(0, .inr (.inr 361)), (1, .inl a), (2, .inl x2)]) (st' := [.inl 1]) rfl ?_
      refine h_retz (x := 1) rfl rfl (by decide) ?_
      exact ⟨_, rfl, (by omega), hI1, hf1⟩
    · refine k_run 0 (pc' := 25) (l' := [(0, .inr (.inr 361)), (1, .inl a), (2, .inl x2)]) (st' := []) rfl ?_
      refine k_run 1 (pc' := 26) (l' := [(0, .inr (.inr 361)), (1, .inl a), (2, .inl x2)]) (st' := [.inr (.inr 361)]) rfl ?_
      refine h_cv (i := 72) (j := 83) (b := 361) (M' := mt_83) (xs := []) (rest := []) rfl rfl rfl rfl (zs_K (x := kx_361) rfl (by decide)) rfl (Nat.le_of_ble_eq_true rfl) (Nat.le_of_ble_eq_true rfl) (by omega) (k_Reader_token (by omega) hI1 ) ?_
      rintro _ _ ⟨z13, rfl, g9, rfl⟩
      refine k_run 0 (pc' := 29) (l' := [(0, .inr (.inr 361)), (1, .inl a), (2, .inl x2)]) (st' := [.inl z13]) rfl ?_
      refine k_run 1 (pc' := 30) (l' := [(0, .inr (.inr 361)), (1, .inl a), (2, .inl x2)]) (st' := [.inl 3, .inl z13]) rfl ?_
      refine h_ine (off := 66) (t := 96) rfl rfl (by omega) (by decide) (fun c14 => ?_) (fun c14 => ?_)
      · refine k_run 0 (pc' := 96) (l' := [(0, .inr (.inr 361)), (1, .inl a), (2, .inl x2)]) (st' := []) rfl ?_
        refine k_run 1 (pc' := 97) (l' := [(0, .inr (.inr 361)), (1, .inl a), (2, .inl x2)]) (st' := [.inl 1]) rfl ?_
        refine h_retz (x := 1) rfl rfl (by decide) ?_
        exact ⟨_, rfl, (by omega), hI1, hf1⟩
      · refine k_run 0 (pc' := 33) (l' := [(0, .inr (.inr 361)), (1, .inl a), (2, .inl x2)]) (st' := []) rfl ?_
        refine k_run 4 (pc' := 41) (l' := [(0, .inr (.inr 361)), (1, .inl a), (2, .inl x2)]) (st' := [.inr (.inr 361), .inr (.inr 8)]) rfl ?_
        refine h_cv (i := 120) (j := 84) (b := 361) (M' := mt_84) (xs := []) (rest := [.inr (.inr 8)]) rfl rfl rfl rfl (zs_K (x := kx_361) rfl (by decide)) rfl (Nat.le_of_ble_eq_true rfl) (Nat.le_of_ble_eq_true rfl) (by omega) (k_Reader_name (by omega) hI1 ) ?_
        rintro _ _ ⟨z19, rfl, g15, rfl⟩
        refine k_run 0 (pc' := 44) (l' := [(0, .inr (.inr 361)), (1, .inl a), (2, .inl x2)]) (st' := [.inr (.inl z19), .inr (.inr 8)]) rfl ?_
        have g20 : 0 ≤ (H1.1 8 4) ∧ (H1.1 8 4) ≤ 6 := kn (x := kx_8) hI1 rfl 4
        have e21 : (H1.1 8 4) = (H.1 8 4) := (hf1.1 8 4 rfl (by decide) (by decide)).1
        refine h_cv (i := 124) (j := 41) (b := 8) (M' := mt_41) (xs := [.inr (.inl z19)]) (rest := []) rfl rfl rfl rfl (zs_K (x := kx_8) rfl (by decide)) rfl (Nat.le_of_ble_eq_true rfl) (Nat.le_of_ble_eq_true rfl) (by omega) (k_Symbols_find_8 (by omega) hI1 ) ?_
        rintro _ _ ⟨z26, rfl, g22, rfl⟩
        refine k_run 0 (pc' := 47) (l' := [(0, .inr (.inr 361)), (1, .inl a), (2, .inl x2)]) (st' := [.inl z26]) rfl ?_
        refine k_run 2 (pc' := 49) (l' := [(0, .inr (.inr 361)), (1, .inl a), (2, .inl x2), (3, .inl z26)]) (st' := [.inl z26]) rfl ?_
        refine h_zge (off := 9) (t := 58) rfl rfl (by omega) (fun c27 => ?_) (fun c27 => ?_)
        · refine k_run 0 (pc' := 58) (l' := [(0, .inr (.inr 361)), (1, .inl a), (2, .inl x2), (3, .inl z26)]) (st' := []) rfl ?_
          refine k_run 2 (pc' := 60) (l' := [(0, .inr (.inr 361)), (1, .inl a), (2, .inl x2), (3, .inl z26)]) (st' := [.inl 3, .inl x2]) rfl ?_
          refine h_ine (off := 9) (t := 69) rfl rfl (by omega) (by decide) (fun c28 => ?_) (fun c28 => ?_)
          · refine k_run 0 (pc' := 69) (l' := [(0, .inr (.inr 361)), (1, .inl a), (2, .inl x2), (3, .inl z26)]) (st' := []) rfl ?_
            refine k_run 4 (pc' := 77) (l' := [(0, .inr (.inr 361)), (1, .inl a), (2, .inl x2), (3, .inl z26)]) (st' := [.inl z26, .inr (.inr 13)]) rfl ?_
            refine h_cv (i := 131) (j := 44) (b := 13) (M' := mt_44) (xs := [.inl z26]) (rest := []) rfl rfl rfl rfl (zs_K (x := kx_13) rfl (by decide)) rfl (Nat.le_of_ble_eq_true rfl) (Nat.le_of_ble_eq_true rfl) (by omega) (k_Symbols_addArgument_13 (by omega) hI1 (by omega) (by omega)) ?_
            rintro _ H30 ⟨rfl, hI31, hq32⟩
            have hf33 : fq [(13, 4), (361, 3), (361, 4), (361, 5)] [14, 15, 16, 17] false H H30 := fq_t hf1 hq32 rfl rfl rfl
            refine k_run 0 (pc' := 80) (l' := [(0, .inr (.inr 361)), (1, .inl a), (2, .inl x2), (3, .inl z26)]) (st' := []) rfl ?_
            refine k_run 3 (pc' := 85) (l' := [(0, .inr (.inr 361)), (1, .inl a), (2, .inl x2), (3, .inl z26)]) (st' := [.inl (H30.1 361 3), .inr (.inr 361)]) rfl ?_
            have g34 : -2147483648 ≤ (H30.1 361 3) ∧ (H30.1 361 3) ≤ 2147483647 := kn (x := kx_361) hI31 rfl 3
            have e35 : (H30.1 361 3) = (H1.1 361 3) := (hq32.1 361 3 rfl (by decide) (by decide)).1
            refine k_run 2 (pc' := 87) (l' := [(0, .inr (.inr 361)), (1, .inl a), (2, .inl x2), (3, .inl z26)]) (st' := [.inl ((H30.1 361 3) + 1), .inr (.inr 361)]) rfl ?_
            refine k_putw (a := 361) (x := kx_361) rfl rfl rfl (by decide) (by decide) rfl rfl rfl rfl hI31 rfl (fun H36 hI37 hw38 => ?_)
            have hf40 : fq [(13, 4), (361, 3), (361, 4), (361, 5)] [14, 15, 16, 17] false H H36 := fq_w hf33 hw38 (fpo (by decide) rfl)
            refine k_run 0 (pc' := 90) (l' := [(0, .inr (.inr 361)), (1, .inl a), (2, .inl x2), (3, .inl z26)]) (st' := []) rfl ?_
            refine k_run 2 (pc' := 20) (l' := [(0, .inr (.inr 361)), (1, .inl a), (2, .inl (x2 + 1)), (3, .inl z26)]) (st' := []) rfl ?_
            refine h_loc [0, 1, 2] rfl ?_
            exact ih H36 hI37 hf40 (x2 + 1) (by omega) (by omega) (by omega)
          · refine k_run 0 (pc' := 63) (l' := [(0, .inr (.inr 361)), (1, .inl a), (2, .inl x2), (3, .inl z26)]) (st' := []) rfl ?_
            refine k_run 2 (pc' := 65) (l' := [(0, .inr (.inr 361)), (1, .inl a), (2, .inl x2), (3, .inl z26)]) (st' := [.inl 5, .inr (.inr 361)]) rfl ?_
            refine h_cv (i := 128) (j := 86) (b := 361) (M' := mt_86) (xs := [.inl 5]) (rest := []) rfl rfl rfl rfl (zs_K (x := kx_361) rfl (by decide)) rfl (Nat.le_of_ble_eq_true rfl) (Nat.le_of_ble_eq_true rfl) (by omega) (k_Reader_fails (by omega) hI1 (by decide)) ?_
            rintro _ H42 ⟨z45, rfl, g41, hI43, hq44⟩
            have hf46 : fq [(13, 4), (361, 3), (361, 4), (361, 5)] [14, 15, 16, 17] false H H42 := fq_t hf1 hq44 rfl rfl rfl
            refine k_run 0 (pc' := 68) (l' := [(0, .inr (.inr 361)), (1, .inl a), (2, .inl x2), (3, .inl z26)]) (st' := [.inl z45]) rfl ?_
            refine h_retz (x := z45) rfl rfl (by omega) ?_
            exact ⟨_, rfl, (by omega), hI43, hf46⟩
        · refine k_run 0 (pc' := 52) (l' := [(0, .inr (.inr 361)), (1, .inl a), (2, .inl x2), (3, .inl z26)]) (st' := []) rfl ?_
          refine k_run 2 (pc' := 54) (l' := [(0, .inr (.inr 361)), (1, .inl a), (2, .inl x2), (3, .inl z26)]) (st' := [.inl 3, .inr (.inr 361)]) rfl ?_
          refine h_cv (i := 128) (j := 86) (b := 361) (M' := mt_86) (xs := [.inl 3]) (rest := []) rfl rfl rfl rfl (zs_K (x := kx_361) rfl (by decide)) rfl (Nat.le_of_ble_eq_true rfl) (Nat.le_of_ble_eq_true rfl) (by omega) (k_Reader_fails (by omega) hI1 (by decide)) ?_
          rintro _ H48 ⟨z51, rfl, g47, hI49, hq50⟩
          have hf52 : fq [(13, 4), (361, 3), (361, 4), (361, 5)] [14, 15, 16, 17] false H H48 := fq_t hf1 hq50 rfl rfl rfl
          refine k_run 0 (pc' := 57) (l' := [(0, .inr (.inr 361)), (1, .inl a), (2, .inl x2), (3, .inl z26)]) (st' := [.inl z51]) rfl ?_
          refine h_retz (x := z51) rfl rfl (by omega) ?_
          exact ⟨_, rfl, (by omega), hI49, hf52⟩
set_option maxRecDepth 100000 in
theorem k_Reader_readConstructor {d : Nat} (hd : 4 ≤ d) {H : hp} (hI : Inv H) {a : Int} (ha : -2147483648 ≤ a ∧ a ≤ 2147483647) (hp0 : -2 ≤ a ∧ a ≤ 100) : hG (zs zK) d mt_65 0 (zargs 0 [.inr (.inr 361), .inl a]) [] H (fun r9 H9 => ∃ z : Int, r9 = some (.inl z) ∧ ((0 ≤ z ∧ z ≤ 1)) ∧ Inv H9 ∧ fq [(13, 4), (361, 3), (361, 4), (361, 5)] [14, 15, 16, 17] false H H9) := by
  refine k_run 0 (pc' := 0) (l' := [(0, .inr (.inr 361)), (1, .inl a)]) (st' := []) rfl ?_
  refine k_run 6 (pc' := 10) (l' := [(0, .inr (.inr 361)), (1, .inl a)]) (st' := [.inl a, .inl 3, .inr (.inr 13), .inr (.inr 361)]) rfl ?_
  refine h_cv (i := 113) (j := 78) (b := 361) (M' := mt_78) (xs := [.inl a, .inl 3, .inr (.inr 13)]) (rest := []) rfl rfl rfl rfl (zs_K (x := kx_361) rfl (by decide)) rfl (Nat.le_of_ble_eq_true rfl) (Nat.le_of_ble_eq_true rfl) (by omega) (k_Reader_tellName_13 (by omega) hI (by decide) (by omega) (by omega)) ?_
  rintro _ H2 ⟨z5, rfl, g1, hI3, hq4⟩
  have hf6 : fq [(13, 4), (361, 3), (361, 4), (361, 5)] [14, 15, 16, 17] false H H2 := fq_t (fq_rf _ _ _ _) hq4 rfl rfl rfl
  refine k_run 0 (pc' := 13) (l' := [(0, .inr (.inr 361)), (1, .inl a)]) (st' := [.inl z5]) rfl ?_
  refine h_zne (off := 5) (t := 18) rfl rfl (by omega) (fun c7 => ?_) (fun c7 => ?_)
  · refine k_run 0 (pc' := 18) (l' := [(0, .inr (.inr 361)), (1, .inl a)]) (st' := []) rfl ?_
    refine k_run 2 (pc' := 20) (l' := [(0, .inr (.inr 361)), (1, .inl a), (2, .inl 0)]) (st' := []) rfl ?_
    exact (k_Reader_readConstructor_cut hd hI ha hp0 _) H2 hI3 hf6 (0 : Int) (by decide) (by omega) (Nat.lt_succ_self _)
  · refine k_run 0 (pc' := 16) (l' := [(0, .inr (.inr 361)), (1, .inl a)]) (st' := []) rfl ?_
    refine k_run 1 (pc' := 17) (l' := [(0, .inr (.inr 361)), (1, .inl a)]) (st' := [.inl 0]) rfl ?_
    refine h_retz (x := 0) rfl rfl (by decide) ?_
    exact ⟨_, rfl, (by omega), hI3, hf6⟩

/-! Reader.readData -/
set_option maxRecDepth 100000 in
theorem k_Reader_readData_cut {d : Nat} (hd : 5 ≤ d) {H : hp} (hI : Inv H)   : ∀ w : Nat, (∀ (H1 : hp), Inv H1 → fq [(8, 4), (13, 4), (361, 3), (361, 4), (361, 5)] [9, 10, 11, 14, 15, 16, 17] false H H1 → ∀ (x1 : Int) (x2 : Int) (x3 : Int) , (-2147483648 ≤ x1 ∧ x1 ≤ 2147483647) → (-2147483648 ≤ x2 ∧ x2 ≤ 2147483647) → (-2147483648 ≤ x3 ∧ x3 ≤ 2147483647) → (0 ≤ x3 ∧ x3 ≤ 17) → (0 ≤ x2 ∧ x2 ≤ 1) → (-2 ≤ x1 ∧ x1 ≤ 100) → (((100 - x3).toNat) < w) → hG (zs zK) d mt_64 58 [(0, .inr (.inr 361)), (1, .inl x1), (2, .inl x2), (3, .inl x3)] [] H1 (fun r9 H9 => ∃ z : Int, r9 = some (.inl z) ∧ ((0 ≤ z ∧ z ≤ 1)) ∧ Inv H9 ∧ fq [(8, 4), (13, 4), (361, 3), (361, 4), (361, 5)] [9, 10, 11, 14, 15, 16, 17] false H H9)) := by
  intro w
  induction w with
  | zero => exact fun _ _ _ _ _ _ _ _ _ _ _ _ h => absurd h (Nat.not_lt_zero _)
  | succ w ih =>
    intro H1 hI1 hf1 x1 x2 x3 hx1 hx2 hx3 hi0 hi1 hi2 hw
    refine k_run 1 (pc' := 59) (l' := [(0, .inr (.inr 361)), (1, .inl x1), (2, .inl x2), (3, .inl x3)]) (st' := [.inl x2]) rfl ?_
    refine h_zeq (off := 40) (t := 99) rfl rfl (by omega) (fun c29 => ?_) (fun c29 => ?_)
    · refine k_run 0 (pc' := 99) (l' := [(0, .inr (.inr 361)), (1, .inl x1), (2, .inl x2), (3, .inl x3)]) (st' := []) rfl ?_
      refine k_run 1 (pc' := 100) (l' := [(0, .inr (.inr 361)), (1, .inl x1), (2, .inl x2), (3, .inl x3)]) (st' := [.inl x2]) rfl ?_
      refine h_retz (x := x2) rfl rfl (by omega) ?_
      exact ⟨_, rfl, (by omega), hI1, hf1⟩
    · refine k_run 0 (pc' := 62) (l' := [(0, .inr (.inr 361)), (1, .inl x1), (2, .inl x2), (3, .inl x3)]) (st' := []) rfl ?_
      refine k_run 2 (pc' := 65) (l' := [(0, .inr (.inr 361)), (1, .inl x1), (2, .inl x2), (3, .inl x3)]) (st' := [.inl 16, .inl x3]) rfl ?_
      refine h_igt (off := 34) (t := 99) rfl rfl (by omega) (by decide) (fun c30 => ?_) (fun c30 => ?_)
      · refine k_run 0 (pc' := 99) (l' := [(0, .inr (.inr 361)), (1, .inl x1), (2, .inl x2), (3, .inl x3)]) (st' := []) rfl ?_
        refine k_run 1 (pc' := 100) (l' := [(0, .inr (.inr 361)), (1, .inl x1), (2, .inl x2), (3, .inl x3)]) (st' := [.inl x2]) rfl ?_
        refine h_retz (x := x2) rfl rfl (by omega) ?_
        exact ⟨_, rfl, (by omega), hI1, hf1⟩
      · refine k_run 0 (pc' := 68) (l' := [(0, .inr (.inr 361)), (1, .inl x1), (2, .inl x2), (3, .inl x3)]) (st' := []) rfl ?_
        refine k_run 1 (pc' := 69) (l' := [(0, .inr (.inr 361)), (1, .inl x1), (2, .inl x2), (3, .inl x3)]) (st' := [.inr (.inr 361)]) rfl ?_
        refine h_cv (i := 72) (j := 83) (b := 361) (M' := mt_83) (xs := []) (rest := []) rfl rfl rfl rfl (zs_K (x := kx_361) rfl (by decide)) rfl (Nat.le_of_ble_eq_true rfl) (Nat.le_of_ble_eq_true rfl) (by omega) (k_Reader_token (by omega) hI1 ) ?_
        rintro _ _ ⟨z35, rfl, g31, rfl⟩
        refine k_run 0 (pc' := 72) (l' := [(0, .inr (.inr 361)), (1, .inl x1), (2, .inl x2), (3, .inl x3)]) (st' := [.inl z35]) rfl ?_
        refine k_run 1 (pc' := 74) (l' := [(0, .inr (.inr 361)), (1, .inl x1), (2, .inl x2), (3, .inl x3)]) (st' := [.inl 124, .inl z35]) rfl ?_
        refine h_ine (off := 25) (t := 99) rfl rfl (by omega) (by decide) (fun c36 => ?_) (fun c36 => ?_)
        · refine k_run 0 (pc' := 99) (l' := [(0, .inr (.inr 361)), (1, .inl x1), (2, .inl x2), (3, .inl x3)]) (st' := []) rfl ?_
          refine k_run 1 (pc' := 100) (l' := [(0, .inr (.inr 361)), (1, .inl x1), (2, .inl x2), (3, .inl x3)]) (st' := [.inl x2]) rfl ?_
          refine h_retz (x := x2) rfl rfl (by omega) ?_
          exact ⟨_, rfl, (by omega), hI1, hf1⟩
        · refine k_run 0 (pc' := 77) (l' := [(0, .inr (.inr 361)), (1, .inl x1), (2, .inl x2), (3, .inl x3)]) (st' := []) rfl ?_
          refine k_run 3 (pc' := 82) (l' := [(0, .inr (.inr 361)), (1, .inl x1), (2, .inl x2), (3, .inl x3)]) (st' := [.inl (H1.1 361 3), .inr (.inr 361)]) rfl ?_
          have g37 : -2147483648 ≤ (H1.1 361 3) ∧ (H1.1 361 3) ≤ 2147483647 := kn (x := kx_361) hI1 rfl 3
          refine k_run 2 (pc' := 84) (l' := [(0, .inr (.inr 361)), (1, .inl x1), (2, .inl x2), (3, .inl x3)]) (st' := [.inl ((H1.1 361 3) + 1), .inr (.inr 361)]) rfl ?_
          refine k_putw (a := 361) (x := kx_361) rfl rfl rfl (by decide) (by decide) rfl rfl rfl rfl hI1 rfl (fun H38 hI39 hw40 => ?_)
          have hf42 : fq [(8, 4), (13, 4), (361, 3), (361, 4), (361, 5)] [9, 10, 11, 14, 15, 16, 17] false H H38 := fq_w hf1 hw40 (fpo (by decide) rfl)
          refine k_run 0 (pc' := 87) (l' := [(0, .inr (.inr 361)), (1, .inl x1), (2, .inl x2), (3, .inl x3)]) (st' := []) rfl ?_
          refine k_run 2 (pc' := 89) (l' := [(0, .inr (.inr 361)), (1, .inl x1), (2, .inl x2), (3, .inl x3)]) (st' := [.inl x1, .inr (.inr 361)]) rfl ?_
          refine h_cv (i := 117) (j := 65) (b := 361) (M' := mt_65) (xs := [.inl x1]) (rest := []) rfl rfl rfl rfl (zs_K (x := kx_361) rfl (by decide)) rfl (Nat.le_of_ble_eq_true rfl) (Nat.le_of_ble_eq_true rfl) (by omega) (k_Reader_readConstructor (by omega) hI39 (by omega) (by omega)) ?_
          rintro _ H44 ⟨z47, rfl, g43, hI45, hq46⟩
          have hf48 : fq [(8, 4), (13, 4), (361, 3), (361, 4), (361, 5)] [9, 10, 11, 14, 15, 16, 17] false H H44 := fq_t hf42 hq46 rfl rfl rfl
          refine k_run 0 (pc' := 92) (l' := [(0, .inr (.inr 361)), (1, .inl x1), (2, .inl x2), (3, .inl x3)]) (st' := [.inl z47]) rfl ?_
          refine k_run 3 (pc' := 58) (l' := [(0, .inr (.inr 361)), (1, .inl x1), (2, .inl z47), (3, .inl (x3 + 1))]) (st' := []) rfl ?_
          exact ih H44 hI45 hf48 x1 z47 (x3 + 1) (by omega) (by omega) (by omega) (by omega) (by omega) (by omega) (by omega)
set_option maxRecDepth 100000 in
theorem k_Reader_readData {d : Nat} (hd : 5 ≤ d) {H : hp} (hI : Inv H)   : hG (zs zK) d mt_64 0 (zargs 0 [.inr (.inr 361)]) [] H (fun r9 H9 => ∃ z : Int, r9 = some (.inl z) ∧ ((0 ≤ z ∧ z ≤ 1)) ∧ Inv H9 ∧ fq [(8, 4), (13, 4), (361, 3), (361, 4), (361, 5)] [9, 10, 11, 14, 15, 16, 17] false H H9) := by
  refine k_run 0 (pc' := 0) (l' := [(0, .inr (.inr 361))]) (st' := []) rfl ?_
  refine k_run 3 (pc' := 5) (l' := [(0, .inr (.inr 361))]) (st' := [.inl (H.1 361 3), .inr (.inr 361)]) rfl ?_
  have g1 : -2147483648 ≤ (H.1 361 3) ∧ (H.1 361 3) ≤ 2147483647 := kn (x := kx_361) hI rfl 3
  refine k_run 2 (pc' := 7) (l' := [(0, .inr (.inr 361))]) (st' := [.inl ((H.1 361 3) + 1), .inr (.inr 361)]) rfl ?_
  refine k_putw (a := 361) (x := kx_361) rfl rfl rfl (by decide) (by decide) rfl rfl rfl rfl hI rfl (fun H2 hI3 hw4 => ?_)
  have hf6 : fq [(8, 4), (13, 4), (361, 3), (361, 4), (361, 5)] [9, 10, 11, 14, 15, 16, 17] false H H2 := fq_w (fq_rf _ _ _ _) hw4 (fpo (by decide) rfl)
  refine k_run 0 (pc' := 10) (l' := [(0, .inr (.inr 361))]) (st' := []) rfl ?_
  refine k_run 6 (pc' := 20) (l' := [(0, .inr (.inr 361))]) (st' := [.inl (-1), .inl 3, .inr (.inr 8), .inr (.inr 361)]) rfl ?_
  refine h_cv (i := 113) (j := 78) (b := 361) (M' := mt_78) (xs := [.inl (-1), .inl 3, .inr (.inr 8)]) (rest := []) rfl rfl rfl rfl (zs_K (x := kx_361) rfl (by decide)) rfl (Nat.le_of_ble_eq_true rfl) (Nat.le_of_ble_eq_true rfl) (by omega) (k_Reader_tellName_8 (by omega) hI3 (by decide) (by decide) (by omega)) ?_
  rintro _ H8 ⟨z11, rfl, g7, hI9, hq10⟩
  have hf12 : fq [(8, 4), (13, 4), (361, 3), (361, 4), (361, 5)] [9, 10, 11, 14, 15, 16, 17] false H H8 := fq_t hf6 hq10 rfl rfl rfl
  refine k_run 0 (pc' := 23) (l' := [(0, .inr (.inr 361))]) (st' := [.inl z11]) rfl ?_
  refine h_zeq (off := 12) (t := 35) rfl rfl (by omega) (fun c13 => ?_) (fun c13 => ?_)
  · refine k_run 0 (pc' := 35) (l' := [(0, .inr (.inr 361))]) (st' := []) rfl ?_
    refine k_run 1 (pc' := 36) (l' := [(0, .inr (.inr 361))]) (st' := [.inl 0]) rfl ?_
    refine h_retz (x := 0) rfl rfl (by decide) ?_
    exact ⟨_, rfl, (by omega), hI9, hf12⟩
  · refine k_run 0 (pc' := 26) (l' := [(0, .inr (.inr 361))]) (st' := []) rfl ?_
    refine k_run 2 (pc' := 29) (l' := [(0, .inr (.inr 361))]) (st' := [.inl 61, .inr (.inr 361)]) rfl ?_
    refine h_cv (i := 92) (j := 82) (b := 361) (M' := mt_82) (xs := [.inl 61]) (rest := []) rfl rfl rfl rfl (zs_K (x := kx_361) rfl (by decide)) rfl (Nat.le_of_ble_eq_true rfl) (Nat.le_of_ble_eq_true rfl) (by omega) (k_Reader_take (by omega) hI9 (by decide)) ?_
    rintro _ H15 ⟨z18, rfl, g14, hI16, hq17⟩
    have hf19 : fq [(8, 4), (13, 4), (361, 3), (361, 4), (361, 5)] [9, 10, 11, 14, 15, 16, 17] false H H15 := fq_t hf12 hq17 rfl rfl rfl
    refine k_run 0 (pc' := 32) (l' := [(0, .inr (.inr 361))]) (st' := [.inl z18]) rfl ?_
    refine h_zne (off := 5) (t := 37) rfl rfl (by omega) (fun c20 => ?_) (fun c20 => ?_)
    · refine k_run 0 (pc' := 37) (l' := [(0, .inr (.inr 361))]) (st' := []) rfl ?_
      refine k_run 4 (pc' := 47) (l' := [(0, .inr (.inr 361))]) (st' := [.inl (H15.1 8 4)]) rfl ?_
      have g21 : 0 ≤ (H15.1 8 4) ∧ (H15.1 8 4) ≤ 6 := kn (x := kx_8) hI16 rfl 4
      have e22 : (H15.1 8 4) = (H8.1 8 4) := (hq17.1 8 4 rfl (by decide) (by decide)).1
      refine k_run 5 (pc' := 52) (l' := [(0, .inr (.inr 361)), (1, .inl ((H15.1 8 4) - 1))]) (st' := [.inl ((H15.1 8 4) - 1), .inr (.inr 361)]) rfl ?_
      refine h_cv (i := 117) (j := 65) (b := 361) (M' := mt_65) (xs := [.inl ((H15.1 8 4) - 1)]) (rest := []) rfl rfl rfl rfl (zs_K (x := kx_361) rfl (by decide)) rfl (Nat.le_of_ble_eq_true rfl) (Nat.le_of_ble_eq_true rfl) (by omega) (k_Reader_readConstructor (by omega) hI16 (by omega) (by omega)) ?_
      rintro _ H24 ⟨z27, rfl, g23, hI25, hq26⟩
      have hf28 : fq [(8, 4), (13, 4), (361, 3), (361, 4), (361, 5)] [9, 10, 11, 14, 15, 16, 17] false H H24 := fq_t hf19 hq26 rfl rfl rfl
      refine k_run 0 (pc' := 55) (l' := [(0, .inr (.inr 361)), (1, .inl ((H15.1 8 4) - 1))]) (st' := [.inl z27]) rfl ?_
      refine k_run 3 (pc' := 58) (l' := [(0, .inr (.inr 361)), (1, .inl ((H15.1 8 4) - 1)), (2, .inl z27), (3, .inl 1)]) (st' := []) rfl ?_
      exact (k_Reader_readData_cut hd hI  _) H24 hI25 hf28 ((H15.1 8 4) - 1) z27 (1 : Int) (by omega) (by omega) (by decide) (by omega) (by omega) (by omega) (Nat.lt_succ_self _)
    · refine k_run 0 (pc' := 35) (l' := [(0, .inr (.inr 361))]) (st' := []) rfl ?_
      refine k_run 1 (pc' := 36) (l' := [(0, .inr (.inr 361))]) (st' := [.inl 0]) rfl ?_
      refine h_retz (x := 0) rfl rfl (by decide) ?_
      exact ⟨_, rfl, (by omega), hI16, hf19⟩

/-! Reader.readFunction -/
set_option maxRecDepth 100000 in
theorem k_Reader_readFunction_cut {d : Nat} (hd : 4 ≤ d) {H : hp} (hI : Inv H)   : ∀ w : Nat, (∀ (H1 : hp), Inv H1 → fq [(18, 4), (361, 3), (361, 4), (361, 5)] [19, 20, 21, 22] false H H1 → ∀ (x1 : Int) (x2 : Int) (x3 : Int) , (-2147483648 ≤ x1 ∧ x1 ≤ 2147483647) → (-2147483648 ≤ x2 ∧ x2 ≤ 2147483647) → (-2147483648 ≤ x3 ∧ x3 ≤ 2147483647) → (0 ≤ x3 ∧ x3 ≤ 5) → (0 ≤ x2 ∧ x2 ≤ 1) → (x2 = 0 ∨ (0 ≤ x1 ∧ x1 < 16)) → (((100 - x3).toNat) < w) → hG (zs zK) d mt_66 70 [(0, .inr (.inr 361)), (1, .inl x1), (2, .inl x2), (3, .inl x3)] [] H1 (fun r9 H9 => ∃ z : Int, r9 = some (.inl z) ∧ ((0 ≤ z ∧ z ≤ 1)) ∧ Inv H9 ∧ fq [(18, 4), (361, 3), (361, 4), (361, 5)] [19, 20, 21, 22] false H H9)) := by
  intro w
  induction w with
  | zero => exact fun _ _ _ _ _ _ _ _ _ _ _ _ h => absurd h (Nat.not_lt_zero _)
  | succ w ih =>
    intro H1 hI1 hf1 x1 x2 x3 hx1 hx2 hx3 hi0 hi1 hi2 hw
    refine k_run 1 (pc' := 71) (l' := [(0, .inr (.inr 361)), (1, .inl x1), (2, .inl x2), (3, .inl x3)]) (st' := [.inl x2]) rfl ?_
    refine h_zeq (off := 72) (t := 143) rfl rfl (by omega) (fun c31 => ?_) (fun c31 => ?_)
    · refine k_run 0 (pc' := 143) (l' := [(0, .inr (.inr 361)), (1, .inl x1), (2, .inl x2), (3, .inl x3)]) (st' := []) rfl ?_
      refine k_run 1 (pc' := 144) (l' := [(0, .inr (.inr 361)), (1, .inl x1), (2, .inl x2), (3, .inl x3)]) (st' := [.inl x2]) rfl ?_
      refine h_retz (x := x2) rfl rfl (by omega) ?_
      exact ⟨_, rfl, (by omega), hI1, hf1⟩
    · refine k_run 0 (pc' := 74) (l' := [(0, .inr (.inr 361)), (1, .inl x1), (2, .inl x2), (3, .inl x3)]) (st' := []) rfl ?_
      refine k_run 2 (pc' := 76) (l' := [(0, .inr (.inr 361)), (1, .inl x1), (2, .inl x2), (3, .inl x3)]) (st' := [.inl 4, .inl x3]) rfl ?_
      refine h_igt (off := 67) (t := 143) rfl rfl (by omega) (by decide) (fun c32 => ?_) (fun c32 => ?_)
      · refine k_run 0 (pc' := 143) (l' := [(0, .inr (.inr 361)), (1, .inl x1), (2, .inl x2), (3, .inl x3)]) (st' := []) rfl ?_
        refine k_run 1 (pc' := 144) (l' := [(0, .inr (.inr 361)), (1, .inl x1), (2, .inl x2), (3, .inl x3)]) (st' := [.inl x2]) rfl ?_
        refine h_retz (x := x2) rfl rfl (by omega) ?_
        exact ⟨_, rfl, (by omega), hI1, hf1⟩
      · refine k_run 0 (pc' := 79) (l' := [(0, .inr (.inr 361)), (1, .inl x1), (2, .inl x2), (3, .inl x3)]) (st' := []) rfl ?_
        refine k_run 1 (pc' := 80) (l' := [(0, .inr (.inr 361)), (1, .inl x1), (2, .inl x2), (3, .inl x3)]) (st' := [.inr (.inr 361)]) rfl ?_
        refine h_cv (i := 72) (j := 83) (b := 361) (M' := mt_83) (xs := []) (rest := []) rfl rfl rfl rfl (zs_K (x := kx_361) rfl (by decide)) rfl (Nat.le_of_ble_eq_true rfl) (Nat.le_of_ble_eq_true rfl) (by omega) (k_Reader_token (by omega) hI1 ) ?_
        rintro _ _ ⟨z37, rfl, g33, rfl⟩
        refine k_run 0 (pc' := 83) (l' := [(0, .inr (.inr 361)), (1, .inl x1), (2, .inl x2), (3, .inl x3)]) (st' := [.inl z37]) rfl ?_
        refine k_run 1 (pc' := 85) (l' := [(0, .inr (.inr 361)), (1, .inl x1), (2, .inl x2), (3, .inl x3)]) (st' := [.inl 62, .inl z37]) rfl ?_
        refine h_ine (off := 58) (t := 143) rfl rfl (by omega) (by decide) (fun c38 => ?_) (fun c38 => ?_)
        · refine k_run 0 (pc' := 143) (l' := [(0, .inr (.inr 361)), (1, .inl x1), (2, .inl x2), (3, .inl x3)]) (st' := []) rfl ?_
          refine k_run 1 (pc' := 144) (l' := [(0, .inr (.inr 361)), (1, .inl x1), (2, .inl x2), (3, .inl x3)]) (st' := [.inl x2]) rfl ?_
          refine h_retz (x := x2) rfl rfl (by omega) ?_
          exact ⟨_, rfl, (by omega), hI1, hf1⟩
        · refine k_run 0 (pc' := 88) (l' := [(0, .inr (.inr 361)), (1, .inl x1), (2, .inl x2), (3, .inl x3)]) (st' := []) rfl ?_
          refine k_run 2 (pc' := 90) (l' := [(0, .inr (.inr 361)), (1, .inl x1), (2, .inl x2), (3, .inl x3)]) (st' := [.inl 4, .inl x3]) rfl ?_
          refine h_ine (off := 9) (t := 99) rfl rfl (by omega) (by decide) (fun c39 => ?_) (fun c39 => ?_)
          · refine k_run 0 (pc' := 99) (l' := [(0, .inr (.inr 361)), (1, .inl x1), (2, .inl x2), (3, .inl x3)]) (st' := []) rfl ?_
            refine k_run 8 (pc' := 117) (l' := [(0, .inr (.inr 361)), (1, .inl x1), (2, .inl x2), (3, .inl x3)]) (st' := [.inl x1, .inr (.inr 20), .inr (.inr 18)]) rfl ?_
            refine k_ild (c := 20) (j := (x1).toNat) (i := x1) (x := kx_20) rfl rfl (by decide) rfl (by decide) (by omega) (by omega) ?_
            have g40 : -2 ≤ (H1.1 20 (x1).toNat) ∧ (H1.1 20 (x1).toNat) ≤ 100 := kn (x := kx_20) hI1 rfl (x1).toNat
            refine k_run 0 (pc' := 118) (l' := [(0, .inr (.inr 361)), (1, .inl x1), (2, .inl x2), (3, .inl x3)]) (st' := [.inl (H1.1 20 (x1).toNat), .inr (.inr 18)]) rfl ?_
            refine h_cv (i := 131) (j := 44) (b := 18) (M' := mt_44) (xs := [.inl (H1.1 20 (x1).toNat)]) (rest := []) rfl rfl rfl rfl (zs_K (x := kx_18) rfl (by decide)) rfl (Nat.le_of_ble_eq_true rfl) (Nat.le_of_ble_eq_true rfl) (by omega) (k_Symbols_addArgument_18 (by omega) hI1 (by omega) (by omega)) ?_
            rintro _ H42 ⟨rfl, hI43, hq44⟩
            have hf45 : fq [(18, 4), (361, 3), (361, 4), (361, 5)] [19, 20, 21, 22] false H H42 := fq_t hf1 hq44 rfl rfl rfl
            refine k_run 0 (pc' := 121) (l' := [(0, .inr (.inr 361)), (1, .inl x1), (2, .inl x2), (3, .inl x3)]) (st' := []) rfl ?_
            refine k_run 3 (pc' := 126) (l' := [(0, .inr (.inr 361)), (1, .inl x1), (2, .inl x2), (3, .inl x3)]) (st' := [.inl (H42.1 361 3), .inr (.inr 361)]) rfl ?_
            have g46 : -2147483648 ≤ (H42.1 361 3) ∧ (H42.1 361 3) ≤ 2147483647 := kn (x := kx_361) hI43 rfl 3
            have e47 : (H42.1 361 3) = (H1.1 361 3) := (hq44.1 361 3 rfl (by decide) (by decide)).1
            refine k_run 2 (pc' := 128) (l' := [(0, .inr (.inr 361)), (1, .inl x1), (2, .inl x2), (3, .inl x3)]) (st' := [.inl ((H42.1 361 3) + 1), .inr (.inr 361)]) rfl ?_
            refine k_putw (a := 361) (x := kx_361) rfl rfl rfl (by decide) (by decide) rfl rfl rfl rfl hI43 rfl (fun H48 hI49 hw50 => ?_)
            have hf52 : fq [(18, 4), (361, 3), (361, 4), (361, 5)] [19, 20, 21, 22] false H H48 := fq_w hf45 hw50 (fpo (by decide) rfl)
            refine k_run 0 (pc' := 131) (l' := [(0, .inr (.inr 361)), (1, .inl x1), (2, .inl x2), (3, .inl x3)]) (st' := []) rfl ?_
            refine k_run 2 (pc' := 133) (l' := [(0, .inr (.inr 361)), (1, .inl x1), (2, .inl x2), (3, .inl x3)]) (st' := [.inl x1, .inr (.inr 361)]) rfl ?_
            refine h_cv (i := 135) (j := 67) (b := 361) (M' := mt_67) (xs := [.inl x1]) (rest := []) rfl rfl rfl rfl (zs_K (x := kx_361) rfl (by decide)) rfl (Nat.le_of_ble_eq_true rfl) (Nat.le_of_ble_eq_true rfl) (by omega) (k_Reader_readResult (by omega) hI49 (by omega) (by omega)) ?_
            rintro _ H54 ⟨z57, rfl, g53, hI55, hq56⟩
            have hf58 : fq [(18, 4), (361, 3), (361, 4), (361, 5)] [19, 20, 21, 22] false H H54 := fq_t hf52 hq56 rfl rfl rfl
            refine k_run 0 (pc' := 136) (l' := [(0, .inr (.inr 361)), (1, .inl x1), (2, .inl x2), (3, .inl x3)]) (st' := [.inl z57]) rfl ?_
            refine k_run 3 (pc' := 70) (l' := [(0, .inr (.inr 361)), (1, .inl x1), (2, .inl z57), (3, .inl (x3 + 1))]) (st' := []) rfl ?_
            exact ih H54 hI55 hf58 x1 z57 (x3 + 1) (by omega) (by omega) (by omega) (by omega) (by omega) (by omega) (by omega)
          · refine k_run 0 (pc' := 93) (l' := [(0, .inr (.inr 361)), (1, .inl x1), (2, .inl x2), (3, .inl x3)]) (st' := []) rfl ?_
            refine k_run 2 (pc' := 95) (l' := [(0, .inr (.inr 361)), (1, .inl x1), (2, .inl x2), (3, .inl x3)]) (st' := [.inl 5, .inr (.inr 361)]) rfl ?_
            refine h_cv (i := 128) (j := 86) (b := 361) (M' := mt_86) (xs := [.inl 5]) (rest := []) rfl rfl rfl rfl (zs_K (x := kx_361) rfl (by decide)) rfl (Nat.le_of_ble_eq_true rfl) (Nat.le_of_ble_eq_true rfl) (by omega) (k_Reader_fails (by omega) hI1 (by decide)) ?_
            rintro _ H60 ⟨z63, rfl, g59, hI61, hq62⟩
            have hf64 : fq [(18, 4), (361, 3), (361, 4), (361, 5)] [19, 20, 21, 22] false H H60 := fq_t hf1 hq62 rfl rfl rfl
            refine k_run 0 (pc' := 98) (l' := [(0, .inr (.inr 361)), (1, .inl x1), (2, .inl x2), (3, .inl x3)]) (st' := [.inl z63]) rfl ?_
            refine h_retz (x := z63) rfl rfl (by omega) ?_
            exact ⟨_, rfl, (by omega), hI61, hf64⟩
set_option maxRecDepth 100000 in
theorem k_Reader_readFunction {d : Nat} (hd : 4 ≤ d) {H : hp} (hI : Inv H)   : hG (zs zK) d mt_66 0 (zargs 0 [.inr (.inr 361)]) [] H (fun r9 H9 => ∃ z : Int, r9 = some (.inl z) ∧ ((0 ≤ z ∧ z ≤ 1)) ∧ Inv H9 ∧ fq [(18, 4), (361, 3), (361, 4), (361, 5)] [19, 20, 21, 22] false H H9) := by
  refine k_run 0 (pc' := 0) (l' := [(0, .inr (.inr 361))]) (st' := []) rfl ?_
  refine k_run 3 (pc' := 5) (l' := [(0, .inr (.inr 361))]) (st' := [.inl (H.1 361 3), .inr (.inr 361)]) rfl ?_
  have g1 : -2147483648 ≤ (H.1 361 3) ∧ (H.1 361 3) ≤ 2147483647 := kn (x := kx_361) hI rfl 3
  refine k_run 2 (pc' := 7) (l' := [(0, .inr (.inr 361))]) (st' := [.inl ((H.1 361 3) + 1), .inr (.inr 361)]) rfl ?_
  refine k_putw (a := 361) (x := kx_361) rfl rfl rfl (by decide) (by decide) rfl rfl rfl rfl hI rfl (fun H2 hI3 hw4 => ?_)
  have hf6 : fq [(18, 4), (361, 3), (361, 4), (361, 5)] [19, 20, 21, 22] false H H2 := fq_w (fq_rf _ _ _ _) hw4 (fpo (by decide) rfl)
  refine k_run 0 (pc' := 10) (l' := [(0, .inr (.inr 361))]) (st' := []) rfl ?_
  refine k_run 6 (pc' := 20) (l' := [(0, .inr (.inr 361))]) (st' := [.inl (-1), .inl 2, .inr (.inr 18), .inr (.inr 361)]) rfl ?_
  refine h_cv (i := 113) (j := 78) (b := 361) (M' := mt_78) (xs := [.inl (-1), .inl 2, .inr (.inr 18)]) (rest := []) rfl rfl rfl rfl (zs_K (x := kx_361) rfl (by decide)) rfl (Nat.le_of_ble_eq_true rfl) (Nat.le_of_ble_eq_true rfl) (by omega) (k_Reader_tellName_18 (by omega) hI3 (by decide) (by decide) (by omega)) ?_
  rintro _ H8 ⟨z11, rfl, g7, hI9, hq10⟩
  have hf12 : fq [(18, 4), (361, 3), (361, 4), (361, 5)] [19, 20, 21, 22] false H H8 := fq_t hf6 hq10 rfl rfl rfl
  refine k_run 0 (pc' := 23) (l' := [(0, .inr (.inr 361))]) (st' := [.inl z11]) rfl ?_
  refine h_zeq (off := 12) (t := 35) rfl rfl (by omega) (fun c13 => ?_) (fun c13 => ?_)
  · refine k_run 0 (pc' := 35) (l' := [(0, .inr (.inr 361))]) (st' := []) rfl ?_
    refine k_run 1 (pc' := 36) (l' := [(0, .inr (.inr 361))]) (st' := [.inl 0]) rfl ?_
    refine h_retz (x := 0) rfl rfl (by decide) ?_
    exact ⟨_, rfl, (by omega), hI9, hf12⟩
  · refine k_run 0 (pc' := 26) (l' := [(0, .inr (.inr 361))]) (st' := []) rfl ?_
    refine k_run 2 (pc' := 29) (l' := [(0, .inr (.inr 361))]) (st' := [.inl 58, .inr (.inr 361)]) rfl ?_
    refine h_cv (i := 92) (j := 82) (b := 361) (M' := mt_82) (xs := [.inl 58]) (rest := []) rfl rfl rfl rfl (zs_K (x := kx_361) rfl (by decide)) rfl (Nat.le_of_ble_eq_true rfl) (Nat.le_of_ble_eq_true rfl) (by omega) (k_Reader_take (by omega) hI9 (by decide)) ?_
    rintro _ H15 ⟨z18, rfl, g14, hI16, hq17⟩
    have hf19 : fq [(18, 4), (361, 3), (361, 4), (361, 5)] [19, 20, 21, 22] false H H15 := fq_t hf12 hq17 rfl rfl rfl
    refine k_run 0 (pc' := 32) (l' := [(0, .inr (.inr 361))]) (st' := [.inl z18]) rfl ?_
    refine h_zne (off := 5) (t := 37) rfl rfl (by omega) (fun c20 => ?_) (fun c20 => ?_)
    · refine k_run 0 (pc' := 37) (l' := [(0, .inr (.inr 361))]) (st' := []) rfl ?_
      refine k_run 4 (pc' := 47) (l' := [(0, .inr (.inr 361))]) (st' := [.inl (H15.1 18 4)]) rfl ?_
      have g21 : 0 ≤ (H15.1 18 4) ∧ (H15.1 18 4) ≤ 16 := kn (x := kx_18) hI16 rfl 4
      have e22 : (H15.1 18 4) = (H8.1 18 4) := (hq17.1 18 4 rfl (by decide) (by decide)).1
      refine k_run 4 (pc' := 51) (l' := [(0, .inr (.inr 361)), (1, .inl ((H15.1 18 4) - 1))]) (st' := [.inl ((H15.1 18 4) - 1)]) rfl ?_
      refine h_zlt (off := 15) (t := 66) rfl rfl (by omega) (fun c23 => ?_) (fun c23 => ?_)
      · refine k_run 0 (pc' := 66) (l' := [(0, .inr (.inr 361)), (1, .inl ((H15.1 18 4) - 1))]) (st' := []) rfl ?_
        refine k_run 4 (pc' := 70) (l' := [(0, .inr (.inr 361)), (1, .inl ((H15.1 18 4) - 1)), (2, .inl 0), (3, .inl 0)]) (st' := []) rfl ?_
        exact (k_Reader_readFunction_cut hd hI  _) H15 hI16 hf19 ((H15.1 18 4) - 1) (0 : Int) (0 : Int) (by omega) (by decide) (by decide) (by omega) (by omega) (by omega) (Nat.lt_succ_self _)
      · refine k_run 0 (pc' := 54) (l' := [(0, .inr (.inr 361)), (1, .inl ((H15.1 18 4) - 1))]) (st' := []) rfl ?_
        refine k_run 2 (pc' := 56) (l' := [(0, .inr (.inr 361)), (1, .inl ((H15.1 18 4) - 1))]) (st' := [.inl ((H15.1 18 4) - 1), .inr (.inr 361)]) rfl ?_
        refine h_cv (i := 135) (j := 67) (b := 361) (M' := mt_67) (xs := [.inl ((H15.1 18 4) - 1)]) (rest := []) rfl rfl rfl rfl (zs_K (x := kx_361) rfl (by decide)) rfl (Nat.le_of_ble_eq_true rfl) (Nat.le_of_ble_eq_true rfl) (by omega) (k_Reader_readResult (by omega) hI16 (by omega) (by omega)) ?_
        rintro _ H25 ⟨z28, rfl, g24, hI26, hq27⟩
        have hf29 : fq [(18, 4), (361, 3), (361, 4), (361, 5)] [19, 20, 21, 22] false H H25 := fq_t hf19 hq27 rfl rfl rfl
        refine k_run 0 (pc' := 59) (l' := [(0, .inr (.inr 361)), (1, .inl ((H15.1 18 4) - 1))]) (st' := [.inl z28]) rfl ?_
        refine h_zeq (off := 7) (t := 66) rfl rfl (by omega) (fun c30 => ?_) (fun c30 => ?_)
        · refine k_run 0 (pc' := 66) (l' := [(0, .inr (.inr 361)), (1, .inl ((H15.1 18 4) - 1))]) (st' := []) rfl ?_
          refine k_run 4 (pc' := 70) (l' := [(0, .inr (.inr 361)), (1, .inl ((H15.1 18 4) - 1)), (2, .inl 0), (3, .inl 0)]) (st' := []) rfl ?_
          exact (k_Reader_readFunction_cut hd hI  _) H25 hI26 hf29 ((H15.1 18 4) - 1) (0 : Int) (0 : Int) (by omega) (by decide) (by decide) (by omega) (by omega) (by omega) (Nat.lt_succ_self _)
        · refine k_run 0 (pc' := 62) (l' := [(0, .inr (.inr 361)), (1, .inl ((H15.1 18 4) - 1))]) (st' := []) rfl ?_
          refine k_run 5 (pc' := 70) (l' := [(0, .inr (.inr 361)), (1, .inl ((H15.1 18 4) - 1)), (2, .inl 1), (3, .inl 0)]) (st' := []) rfl ?_
          exact (k_Reader_readFunction_cut hd hI  _) H25 hI26 hf29 ((H15.1 18 4) - 1) (1 : Int) (0 : Int) (by omega) (by decide) (by decide) (by omega) (by omega) (by omega) (Nat.lt_succ_self _)
    · refine k_run 0 (pc' := 35) (l' := [(0, .inr (.inr 361))]) (st' := []) rfl ?_
      refine k_run 1 (pc' := 36) (l' := [(0, .inr (.inr 361))]) (st' := [.inl 0]) rfl ?_
      refine h_retz (x := 0) rfl rfl (by decide) ?_
      exact ⟨_, rfl, (by omega), hI16, hf19⟩
