/-! the class: the reader -/
/-! Reader.token -/
set_option maxRecDepth 100000 in
theorem f_Reader_token {d : Nat} (hd : 1 ≤ d) {H : hp} (hI : Inv H)   : hG (zs zK) d mt_83 0 (zargs 0 [.inr (.inr 361)]) [] H (fun r9 H9 => ∃ z : Int, r9 = some (.inl z) ∧ ((-2147483648 ≤ z ∧ z ≤ 2147483647)) ∧ H = H9) := by
  refine k_run 0 (pc' := 0) (l' := [(0, .inr (.inr 361))]) (st' := []) rfl ?_
  refine k_run 2 (pc' := 4) (l' := [(0, .inr (.inr 361))]) (st' := [.inl (H.1 361 3)]) rfl ?_
  have g1 : -2147483648 ≤ (H.1 361 3) ∧ (H.1 361 3) ≤ 2147483647 := kn (x := kx_361) hI rfl 3
  refine h_zlt (off := 32) (t := 36) rfl rfl (by omega) (fun c2 => ?_) (fun c2 => ?_)
  · refine k_run 0 (pc' := 36) (l' := [(0, .inr (.inr 361))]) (st' := []) rfl ?_
    refine k_run 1 (pc' := 37) (l' := [(0, .inr (.inr 361))]) (st' := [.inl 0]) rfl ?_
    refine h_reti (x := 0) rfl rfl ?_
    exact ⟨_, rfl, (by omega), rfl⟩
  · refine k_run 0 (pc' := 7) (l' := [(0, .inr (.inr 361))]) (st' := []) rfl ?_
    refine k_run 5 (pc' := 18) (l' := [(0, .inr (.inr 361))]) (st' := [.inl (H.1 2 5), .inl (H.1 361 3)]) rfl ?_
    have g3 : 0 ≤ (H.1 2 5) ∧ (H.1 2 5) ≤ 1001 := kn (x := kx_2) hI rfl 5
    refine h_ige (off := 18) (t := 36) rfl rfl (by omega) (by omega) (fun c4 => ?_) (fun c4 => ?_)
    · refine k_run 0 (pc' := 36) (l' := [(0, .inr (.inr 361))]) (st' := []) rfl ?_
      refine k_run 1 (pc' := 37) (l' := [(0, .inr (.inr 361))]) (st' := [.inl 0]) rfl ?_
      refine h_reti (x := 0) rfl rfl ?_
      exact ⟨_, rfl, (by omega), rfl⟩
    · refine k_run 0 (pc' := 21) (l' := [(0, .inr (.inr 361))]) (st' := []) rfl ?_
      refine k_run 5 (pc' := 32) (l' := [(0, .inr (.inr 361))]) (st' := [.inl (H.1 361 3), .inr (.inr 4)]) rfl ?_
      refine k_ild (c := 4) (j := ((H.1 361 3)).toNat) (i := (H.1 361 3)) (x := kx_4) rfl rfl (by decide) rfl (by decide) (by omega) (by omega) ?_
      have g5 : -2147483648 ≤ (H.1 4 ((H.1 361 3)).toNat) ∧ (H.1 4 ((H.1 361 3)).toNat) ≤ 2147483647 := kn (x := kx_4) hI rfl ((H.1 361 3)).toNat
      refine k_run 0 (pc' := 33) (l' := [(0, .inr (.inr 361))]) (st' := [.inl (H.1 4 ((H.1 361 3)).toNat)]) rfl ?_
      refine k_run 1 (pc' := 37) (l' := [(0, .inr (.inr 361))]) (st' := [.inl (H.1 4 ((H.1 361 3)).toNat)]) rfl ?_
      refine h_reti (x := (H.1 4 ((H.1 361 3)).toNat)) rfl rfl ?_
      exact ⟨_, rfl, (by omega), rfl⟩

/-! Reader.name -/
set_option maxRecDepth 100000 in
theorem f_Reader_name {d : Nat} (hd : 1 ≤ d) {H : hp} (hI : Inv H)   : hG (zs zK) d mt_84 0 (zargs 0 [.inr (.inr 361)]) [] H (fun r9 H9 => ∃ z : Int, r9 = some (.inr (.inl z)) ∧ (-9223372036854775808 ≤ z ∧ z ≤ 9223372036854775807) ∧ H = H9) := by
  refine k_run 0 (pc' := 0) (l' := [(0, .inr (.inr 361))]) (st' := []) rfl ?_
  refine k_run 2 (pc' := 4) (l' := [(0, .inr (.inr 361))]) (st' := [.inl (H.1 361 3)]) rfl ?_
  have g1 : -2147483648 ≤ (H.1 361 3) ∧ (H.1 361 3) ≤ 2147483647 := kn (x := kx_361) hI rfl 3
  refine h_zlt (off := 32) (t := 36) rfl rfl (by omega) (fun c2 => ?_) (fun c2 => ?_)
  · refine k_run 0 (pc' := 36) (l' := [(0, .inr (.inr 361))]) (st' := []) rfl ?_
    refine k_run 1 (pc' := 37) (l' := [(0, .inr (.inr 361))]) (st' := [.inr (.inl 0)]) rfl ?_
    refine h_retl (x := 0) rfl rfl ?_
    exact ⟨_, rfl, (by decide), rfl⟩
  · refine k_run 0 (pc' := 7) (l' := [(0, .inr (.inr 361))]) (st' := []) rfl ?_
    refine k_run 5 (pc' := 18) (l' := [(0, .inr (.inr 361))]) (st' := [.inl (H.1 2 5), .inl (H.1 361 3)]) rfl ?_
    have g3 : 0 ≤ (H.1 2 5) ∧ (H.1 2 5) ≤ 1001 := kn (x := kx_2) hI rfl 5
    refine h_ige (off := 18) (t := 36) rfl rfl (by omega) (by omega) (fun c4 => ?_) (fun c4 => ?_)
    · refine k_run 0 (pc' := 36) (l' := [(0, .inr (.inr 361))]) (st' := []) rfl ?_
      refine k_run 1 (pc' := 37) (l' := [(0, .inr (.inr 361))]) (st' := [.inr (.inl 0)]) rfl ?_
      refine h_retl (x := 0) rfl rfl ?_
      exact ⟨_, rfl, (by decide), rfl⟩
    · refine k_run 0 (pc' := 21) (l' := [(0, .inr (.inr 361))]) (st' := []) rfl ?_
      refine k_run 5 (pc' := 32) (l' := [(0, .inr (.inr 361))]) (st' := [.inl (H.1 361 3), .inr (.inr 6)]) rfl ?_
      refine k_lld (c := 6) (j := ((H.1 361 3)).toNat) (i := (H.1 361 3)) (x := kx_6) rfl rfl (by decide) rfl (by decide) (by omega) (by omega) ?_
      have g5 : -9223372036854775808 ≤ (H.1 6 ((H.1 361 3)).toNat) ∧ (H.1 6 ((H.1 361 3)).toNat) ≤ 9223372036854775807 := kn (x := kx_6) hI rfl ((H.1 361 3)).toNat
      refine k_run 0 (pc' := 33) (l' := [(0, .inr (.inr 361))]) (st' := [.inr (.inl (H.1 6 ((H.1 361 3)).toNat))]) rfl ?_
      refine k_run 1 (pc' := 37) (l' := [(0, .inr (.inr 361))]) (st' := [.inr (.inl (H.1 6 ((H.1 361 3)).toNat))]) rfl ?_
      refine h_retl (x := (H.1 6 ((H.1 361 3)).toNat)) rfl rfl ?_
      exact ⟨_, rfl, (by omega), rfl⟩

/-! Reader.fails -/
set_option maxRecDepth 100000 in
theorem f_Reader_fails {d : Nat} (hd : 1 ≤ d) {H : hp} (hI : Inv H) {a : Int} (ha : -2147483648 ≤ a ∧ a ≤ 2147483647) : hG (zs zK) d mt_86 0 (zargs 0 [.inr (.inr 361), .inl a]) [] H (fun r9 H9 => ∃ z : Int, r9 = some (.inl z) ∧ ((0 ≤ z ∧ z ≤ 1) ∧ (z = 0)) ∧ Inv H9 ∧ fq [(361, 4), (361, 5)] [] false H H9) := by
  refine k_run 0 (pc' := 0) (l' := [(0, .inr (.inr 361)), (1, .inl a)]) (st' := []) rfl ?_
  refine k_run 2 (pc' := 2) (l' := [(0, .inr (.inr 361)), (1, .inl a)]) (st' := [.inl a, .inr (.inr 361)]) rfl ?_
  refine k_putw (a := 361) (x := kx_361) rfl rfl rfl (by decide) (by decide) rfl rfl rfl rfl hI rfl (fun H1 hI2 hw3 => ?_)
  have hf5 : fq [(361, 4), (361, 5)] [] false H H1 := fq_w (fq_rf _ _ _ _) hw3 (fpo (by decide) rfl)
  refine k_run 0 (pc' := 5) (l' := [(0, .inr (.inr 361)), (1, .inl a)]) (st' := []) rfl ?_
  refine k_run 3 (pc' := 10) (l' := [(0, .inr (.inr 361)), (1, .inl a)]) (st' := [.inl (H1.1 361 3), .inr (.inr 361)]) rfl ?_
  have g6 : -2147483648 ≤ (H1.1 361 3) ∧ (H1.1 361 3) ≤ 2147483647 := kn (x := kx_361) hI2 rfl 3
  have e7 : (H1.1 361 3) = (H.1 361 3) := hw3.2 _ _ (fun q => absurd q.2 (by decide))
  refine h_zlt (off := 32) (t := 42) rfl rfl (by omega) (fun c8 => ?_) (fun c8 => ?_)
  · refine k_run 0 (pc' := 42) (l' := [(0, .inr (.inr 361)), (1, .inl a)]) (st' := [.inr (.inr 361)]) rfl ?_
    refine k_run 3 (pc' := 49) (l' := [(0, .inr (.inr 361)), (1, .inl a)]) (st' := [.inl (H1.1 2 1), .inr (.inr 361)]) rfl ?_
    have g9 : 0 ≤ (H1.1 2 1) ∧ (H1.1 2 1) ≤ 1000 := kn (x := kx_2) hI2 rfl 1
    have e10 : (H1.1 2 1) = (H.1 2 1) := hw3.2 _ _ (fun q => absurd q.1 (by decide))
    refine k_puti (z := (H1.1 2 1)) (a := 361) (x := kx_361) rfl rfl rfl (by decide) (by decide) rfl rfl rfl rfl hI2 (by omega) (show 0 ≤ (H1.1 2 1) ∧ (H1.1 2 1) ≤ 1000 by omega) (fun H11 hI12 hw13 hv14 => ?_)
    have hf15 : fq [(361, 4), (361, 5)] [] false H H11 := fq_w hf5 hw13 (fpo (by decide) rfl)
    refine k_run 0 (pc' := 52) (l' := [(0, .inr (.inr 361)), (1, .inl a)]) (st' := []) rfl ?_
    refine k_run 1 (pc' := 53) (l' := [(0, .inr (.inr 361)), (1, .inl a)]) (st' := [.inl 0]) rfl ?_
    refine h_retz (x := 0) rfl rfl (by decide) ?_
    have g16 : -2147483648 ≤ (H11.1 361 4) ∧ (H11.1 361 4) ≤ 2147483647 := kn (x := kx_361) hI12 rfl 4
    have e17 : (H11.1 361 4) = (H1.1 361 4) := hw13.2 _ _ (fun q => absurd q.2 (by decide))
    exact ⟨_, rfl, (by omega), hI12, hf15⟩
  · refine k_run 0 (pc' := 13) (l' := [(0, .inr (.inr 361)), (1, .inl a)]) (st' := [.inr (.inr 361)]) rfl ?_
    refine k_run 5 (pc' := 24) (l' := [(0, .inr (.inr 361)), (1, .inl a)]) (st' := [.inl (H1.1 2 5), .inl (H1.1 361 3), .inr (.inr 361)]) rfl ?_
    have g18 : 0 ≤ (H1.1 2 5) ∧ (H1.1 2 5) ≤ 1001 := kn (x := kx_2) hI2 rfl 5
    have e19 : (H1.1 2 5) = (H.1 2 5) := hw3.2 _ _ (fun q => absurd q.1 (by decide))
    refine h_ige (off := 18) (t := 42) rfl rfl (by omega) (by omega) (fun c20 => ?_) (fun c20 => ?_)
    · refine k_run 0 (pc' := 42) (l' := [(0, .inr (.inr 361)), (1, .inl a)]) (st' := [.inr (.inr 361)]) rfl ?_
      refine k_run 3 (pc' := 49) (l' := [(0, .inr (.inr 361)), (1, .inl a)]) (st' := [.inl (H1.1 2 1), .inr (.inr 361)]) rfl ?_
      have g21 : 0 ≤ (H1.1 2 1) ∧ (H1.1 2 1) ≤ 1000 := kn (x := kx_2) hI2 rfl 1
      have e22 : (H1.1 2 1) = (H.1 2 1) := hw3.2 _ _ (fun q => absurd q.1 (by decide))
      refine k_puti (z := (H1.1 2 1)) (a := 361) (x := kx_361) rfl rfl rfl (by decide) (by decide) rfl rfl rfl rfl hI2 (by omega) (show 0 ≤ (H1.1 2 1) ∧ (H1.1 2 1) ≤ 1000 by omega) (fun H23 hI24 hw25 hv26 => ?_)
      have hf27 : fq [(361, 4), (361, 5)] [] false H H23 := fq_w hf5 hw25 (fpo (by decide) rfl)
      refine k_run 0 (pc' := 52) (l' := [(0, .inr (.inr 361)), (1, .inl a)]) (st' := []) rfl ?_
      refine k_run 1 (pc' := 53) (l' := [(0, .inr (.inr 361)), (1, .inl a)]) (st' := [.inl 0]) rfl ?_
      refine h_retz (x := 0) rfl rfl (by decide) ?_
      have g28 : -2147483648 ≤ (H23.1 361 4) ∧ (H23.1 361 4) ≤ 2147483647 := kn (x := kx_361) hI24 rfl 4
      have e29 : (H23.1 361 4) = (H1.1 361 4) := hw25.2 _ _ (fun q => absurd q.2 (by decide))
      exact ⟨_, rfl, (by omega), hI24, hf27⟩
    · refine k_run 0 (pc' := 27) (l' := [(0, .inr (.inr 361)), (1, .inl a)]) (st' := [.inr (.inr 361)]) rfl ?_
      refine k_run 5 (pc' := 38) (l' := [(0, .inr (.inr 361)), (1, .inl a)]) (st' := [.inl (H1.1 361 3), .inr (.inr 5), .inr (.inr 361)]) rfl ?_
      refine k_ild (c := 5) (j := ((H1.1 361 3)).toNat) (i := (H1.1 361 3)) (x := kx_5) rfl rfl (by decide) rfl (by decide) (by omega) (by omega) ?_
      have g30 : 0 ≤ (H1.1 5 ((H1.1 361 3)).toNat) ∧ (H1.1 5 ((H1.1 361 3)).toNat) ≤ 1000 := kn (x := kx_5) hI2 rfl ((H1.1 361 3)).toNat
      have e31 : (H1.1 5 ((H1.1 361 3)).toNat) = (H.1 5 ((H1.1 361 3)).toNat) := hw3.2 _ _ (fun q => absurd q.1 (by decide))
      refine k_run 0 (pc' := 39) (l' := [(0, .inr (.inr 361)), (1, .inl a)]) (st' := [.inl (H1.1 5 ((H1.1 361 3)).toNat), .inr (.inr 361)]) rfl ?_
      refine k_run 1 (pc' := 49) (l' := [(0, .inr (.inr 361)), (1, .inl a)]) (st' := [.inl (H1.1 5 ((H1.1 361 3)).toNat), .inr (.inr 361)]) rfl ?_
      refine k_puti (z := (H1.1 5 ((H1.1 361 3)).toNat)) (a := 361) (x := kx_361) rfl rfl rfl (by decide) (by decide) rfl rfl rfl rfl hI2 (by omega) (show 0 ≤ (H1.1 5 ((H1.1 361 3)).toNat) ∧ (H1.1 5 ((H1.1 361 3)).toNat) ≤ 1000 by omega) (fun H32 hI33 hw34 hv35 => ?_)
      have hf36 : fq [(361, 4), (361, 5)] [] false H H32 := fq_w hf5 hw34 (fpo (by decide) rfl)
      refine k_run 0 (pc' := 52) (l' := [(0, .inr (.inr 361)), (1, .inl a)]) (st' := []) rfl ?_
      refine k_run 1 (pc' := 53) (l' := [(0, .inr (.inr 361)), (1, .inl a)]) (st' := [.inl 0]) rfl ?_
      refine h_retz (x := 0) rfl rfl (by decide) ?_
      have g37 : -2147483648 ≤ (H32.1 361 4) ∧ (H32.1 361 4) ≤ 2147483647 := kn (x := kx_361) hI33 rfl 4
      have e38 : (H32.1 361 4) = (H1.1 361 4) := hw34.2 _ _ (fun q => absurd q.2 (by decide))
      exact ⟨_, rfl, (by omega), hI33, hf36⟩

/-! Reader.misplaced -/
set_option maxRecDepth 100000 in
theorem f_Reader_misplaced {d : Nat} (hd : 2 ≤ d) {H : hp} (hI : Inv H)   : hG (zs zK) d mt_85 0 (zargs 0 [.inr (.inr 361)]) [] H (fun r9 H9 => ∃ z : Int, r9 = some (.inl z) ∧ ((0 ≤ z ∧ z ≤ 1) ∧ (z = 0)) ∧ Inv H9 ∧ fq [(361, 4), (361, 5)] [] false H H9) := by
  refine k_run 0 (pc' := 0) (l' := [(0, .inr (.inr 361))]) (st' := []) rfl ?_
  refine k_run 2 (pc' := 2) (l' := [(0, .inr (.inr 361))]) (st' := [.inr (.inr 361), .inr (.inr 361)]) rfl ?_
  refine h_cv (i := 72) (j := 83) (b := 361) (M' := mt_83) (xs := []) (rest := [.inr (.inr 361)]) rfl rfl rfl rfl (zs_K (x := kx_361) rfl (by decide)) rfl (Nat.le_of_ble_eq_true rfl) (Nat.le_of_ble_eq_true rfl) (by omega) (f_Reader_token (by omega) hI ) ?_
  rintro _ _ ⟨z5, rfl, g1, rfl⟩
  refine k_run 0 (pc' := 5) (l' := [(0, .inr (.inr 361))]) (st' := [.inl z5, .inr (.inr 361)]) rfl ?_
  refine k_run 1 (pc' := 6) (l' := [(0, .inr (.inr 361))]) (st' := [.inl 1, .inl z5, .inr (.inr 361)]) rfl ?_
  refine h_ine (off := 7) (t := 13) rfl rfl (by omega) (by decide) (fun c6 => ?_) (fun c6 => ?_)
  · refine k_run 0 (pc' := 13) (l' := [(0, .inr (.inr 361))]) (st' := [.inr (.inr 361)]) rfl ?_
    refine k_run 1 (pc' := 14) (l' := [(0, .inr (.inr 361))]) (st' := [.inl 2, .inr (.inr 361)]) rfl ?_
    refine h_cv (i := 128) (j := 86) (b := 361) (M' := mt_86) (xs := [.inl 2]) (rest := []) rfl rfl rfl rfl (zs_K (x := kx_361) rfl (by decide)) rfl (Nat.le_of_ble_eq_true rfl) (Nat.le_of_ble_eq_true rfl) (by omega) (f_Reader_fails (by omega) hI (by decide)) ?_
    rintro _ H8 ⟨z11, rfl, g7, hI9, hq10⟩
    have hf12 : fq [(361, 4), (361, 5)] [] false H H8 := fq_t (fq_rf _ _ _ _) hq10 rfl rfl rfl
    refine k_run 0 (pc' := 17) (l' := [(0, .inr (.inr 361))]) (st' := [.inl z11]) rfl ?_
    refine h_retz (x := z11) rfl rfl (by omega) ?_
    have g13 : -2147483648 ≤ (H8.1 361 4) ∧ (H8.1 361 4) ≤ 2147483647 := kn (x := kx_361) hI9 rfl 4
    exact ⟨_, rfl, (by omega), hI9, hf12⟩
  · refine k_run 0 (pc' := 9) (l' := [(0, .inr (.inr 361))]) (st' := [.inr (.inr 361)]) rfl ?_
    refine k_run 2 (pc' := 14) (l' := [(0, .inr (.inr 361))]) (st' := [.inl 1, .inr (.inr 361)]) rfl ?_
    refine h_cv (i := 128) (j := 86) (b := 361) (M' := mt_86) (xs := [.inl 1]) (rest := []) rfl rfl rfl rfl (zs_K (x := kx_361) rfl (by decide)) rfl (Nat.le_of_ble_eq_true rfl) (Nat.le_of_ble_eq_true rfl) (by omega) (f_Reader_fails (by omega) hI (by decide)) ?_
    rintro _ H15 ⟨z18, rfl, g14, hI16, hq17⟩
    have hf19 : fq [(361, 4), (361, 5)] [] false H H15 := fq_t (fq_rf _ _ _ _) hq17 rfl rfl rfl
    refine k_run 0 (pc' := 17) (l' := [(0, .inr (.inr 361))]) (st' := [.inl z18]) rfl ?_
    refine h_retz (x := z18) rfl rfl (by omega) ?_
    have g20 : -2147483648 ≤ (H15.1 361 4) ∧ (H15.1 361 4) ≤ 2147483647 := kn (x := kx_361) hI16 rfl 4
    exact ⟨_, rfl, (by omega), hI16, hf19⟩

/-! Reader.take -/
set_option maxRecDepth 100000 in
theorem f_Reader_take {d : Nat} (hd : 3 ≤ d) {H : hp} (hI : Inv H) {a : Int} (ha : -2147483648 ≤ a ∧ a ≤ 2147483647) : hG (zs zK) d mt_82 0 (zargs 0 [.inr (.inr 361), .inl a]) [] H (fun r9 H9 => ∃ z : Int, r9 = some (.inl z) ∧ ((0 ≤ z ∧ z ≤ 1) ∧ ((z = 0 ∨ H9.1 361 4 = H.1 361 4))) ∧ Inv H9 ∧ fq [(361, 3), (361, 4), (361, 5)] [] false H H9) := by
  refine k_run 0 (pc' := 0) (l' := [(0, .inr (.inr 361)), (1, .inl a)]) (st' := []) rfl ?_
  refine k_run 1 (pc' := 1) (l' := [(0, .inr (.inr 361)), (1, .inl a)]) (st' := [.inr (.inr 361)]) rfl ?_
  refine h_cv (i := 72) (j := 83) (b := 361) (M' := mt_83) (xs := []) (rest := []) rfl rfl rfl rfl (zs_K (x := kx_361) rfl (by decide)) rfl (Nat.le_of_ble_eq_true rfl) (Nat.le_of_ble_eq_true rfl) (by omega) (f_Reader_token (by omega) hI ) ?_
  rintro _ _ ⟨z5, rfl, g1, rfl⟩
  refine k_run 0 (pc' := 4) (l' := [(0, .inr (.inr 361)), (1, .inl a)]) (st' := [.inl z5]) rfl ?_
  refine k_run 1 (pc' := 5) (l' := [(0, .inr (.inr 361)), (1, .inl a)]) (st' := [.inl a, .inl z5]) rfl ?_
  refine h_ieq (off := 8) (t := 13) rfl rfl (by omega) (by omega) (fun c6 => ?_) (fun c6 => ?_)
  · refine k_run 0 (pc' := 13) (l' := [(0, .inr (.inr 361)), (1, .inl a)]) (st' := []) rfl ?_
    refine k_run 3 (pc' := 18) (l' := [(0, .inr (.inr 361)), (1, .inl a)]) (st' := [.inl (H.1 361 3), .inr (.inr 361)]) rfl ?_
    have g7 : -2147483648 ≤ (H.1 361 3) ∧ (H.1 361 3) ≤ 2147483647 := kn (x := kx_361) hI rfl 3
    refine k_run 2 (pc' := 20) (l' := [(0, .inr (.inr 361)), (1, .inl a)]) (st' := [.inl ((H.1 361 3) + 1), .inr (.inr 361)]) rfl ?_
    refine k_putw (a := 361) (x := kx_361) rfl rfl rfl (by decide) (by decide) rfl rfl rfl rfl hI rfl (fun H8 hI9 hw10 => ?_)
    have hf12 : fq [(361, 3), (361, 4), (361, 5)] [] false H H8 := fq_w (fq_rf _ _ _ _) hw10 (fpo (by decide) rfl)
    refine k_run 0 (pc' := 23) (l' := [(0, .inr (.inr 361)), (1, .inl a)]) (st' := []) rfl ?_
    refine k_run 1 (pc' := 24) (l' := [(0, .inr (.inr 361)), (1, .inl a)]) (st' := [.inl 1]) rfl ?_
    refine h_retz (x := 1) rfl rfl (by decide) ?_
    have g13 : -2147483648 ≤ (H8.1 361 4) ∧ (H8.1 361 4) ≤ 2147483647 := kn (x := kx_361) hI9 rfl 4
    have e14 : (H8.1 361 4) = (H.1 361 4) := hw10.2 _ _ (fun q => absurd q.2 (by decide))
    exact ⟨_, rfl, (by omega), hI9, hf12⟩
  · refine k_run 0 (pc' := 8) (l' := [(0, .inr (.inr 361)), (1, .inl a)]) (st' := []) rfl ?_
    refine k_run 1 (pc' := 9) (l' := [(0, .inr (.inr 361)), (1, .inl a)]) (st' := [.inr (.inr 361)]) rfl ?_
    refine h_cv (i := 89) (j := 85) (b := 361) (M' := mt_85) (xs := []) (rest := []) rfl rfl rfl rfl (zs_K (x := kx_361) rfl (by decide)) rfl (Nat.le_of_ble_eq_true rfl) (Nat.le_of_ble_eq_true rfl) (by omega) (f_Reader_misplaced (by omega) hI ) ?_
    rintro _ H16 ⟨z19, rfl, g15, hI17, hq18⟩
    have hf20 : fq [(361, 3), (361, 4), (361, 5)] [] false H H16 := fq_t (fq_rf _ _ _ _) hq18 rfl rfl rfl
    refine k_run 0 (pc' := 12) (l' := [(0, .inr (.inr 361)), (1, .inl a)]) (st' := [.inl z19]) rfl ?_
    refine h_retz (x := z19) rfl rfl (by omega) ?_
    have g21 : -2147483648 ≤ (H16.1 361 4) ∧ (H16.1 361 4) ≤ 2147483647 := kn (x := kx_361) hI17 rfl 4
    exact ⟨_, rfl, (by omega), hI17, hf20⟩

/-! Reader.startTerm -/
set_option maxRecDepth 100000 in
theorem f_Reader_startTerm {d : Nat} (hd : 1 ≤ d) {H : hp} (hI : Inv H) {t n : Nat} (ht : isT t n) : hG (zs zK) d mt_81 0 (zargs 0 [.inr (.inr 361), .inr (.inr t)]) [] H (fun r9 H9 => r9 = none ∧ (H9.1 361 4 = H.1 361 4) ∧ Inv H9 ∧ fq [(361, 8)] [] false H H9) := by
  have htb := ht.2.2.2.2
  refine k_run 0 (pc' := 0) (l' := [(0, .inr (.inr 361)), (1, .inr (.inr t))]) (st' := []) rfl ?_
  refine k_run 2 (pc' := 2) (l' := [(0, .inr (.inr 361)), (1, .inr (.inr t))]) (st' := [.inr (.inr t), .inr (.inr 361)]) rfl ?_
  refine k_putr (t := t) (a := 361) (x := kx_361) rfl rfl rfl (by decide) (by decide) rfl rfl (fun g9 e9 => congrArg Value.ref e9) rfl rfl hI (show ∃ n, isT t n from ⟨_, ht⟩) (fun H1 hI2 hw3 => ?_)
  have hf5 : fq [(361, 8)] [] false H H1 := fq_r (fq_rf _ _ _ _) hw3 (fpo (by decide) rfl)
  refine k_run 0 (pc' := 5) (l' := [(0, .inr (.inr 361)), (1, .inr (.inr t))]) (st' := []) rfl ?_
  refine k_run 1 (pc' := 6) (l' := [(0, .inr (.inr 361)), (1, .inr (.inr t))]) (st' := [.inr (.inr 361)]) rfl ?_
  refine k_getr (a := 361) (x := kx_361) rfl rfl rfl (by decide) rfl rfl rfl hI2 (fun h6 => ?_)
  obtain ⟨t7, et9⟩ : ∃ t9, t9 = H1.2 361 8 := ⟨_, rfl⟩
  rw [← et9] at h6 ⊢
  obtain ⟨n10, k8⟩ := (show ∃ n, isT t7 n from h6)
  have k8b := k8.2.2.2.2
  refine k_run 0 (pc' := 9) (l' := [(0, .inr (.inr 361)), (1, .inr (.inr t))]) (st' := [.inr (.inr t7)]) rfl ?_
  refine k_run 1 (pc' := 10) (l' := [(0, .inr (.inr 361)), (1, .inr (.inr t))]) (st' := [.inl 0, .inr (.inr t7)]) rfl ?_
  refine k_puti (z := 0) (a := t7) (x := (kTo t7 n10)) rfl rfl k8.1 (iT0 k8) k8.2.2.1 rfl rfl rfl rfl hI2 (by decide) (show 0 ≤ (0 : Int) ∧ (0 : Int) ≤ n10 by omega) (fun H11 hI12 hw13 hv14 => ?_)
  have hf15 : fq [(361, 8)] [] false H H11 := fq_w hf5 hw13 (fpT k8)
  refine k_run 0 (pc' := 13) (l' := [(0, .inr (.inr 361)), (1, .inr (.inr t))]) (st' := []) rfl ?_
  refine h_ret rfl rfl ?_
  have g16 : -2147483648 ≤ (H11.1 361 4) ∧ (H11.1 361 4) ≤ 2147483647 := kn (x := kx_361) hI12 rfl 4
  have e17 : (H11.1 361 4) = (H1.1 361 4) := hw13.2 _ _ (fun q => by have h9 := (iTf k8); rw [← q.1] at h9; exact absurd h9 (by decide))
  have e18 : (H1.1 361 4) = (H.1 361 4) := congrFun (congrFun hw3.1 _) _
  exact ⟨rfl, (by omega), hI12, hf15⟩

/-! Reader.startEquation -/
set_option maxRecDepth 100000 in
theorem f_Reader_startEquation {d : Nat} (hd : 2 ≤ d) {H : hp} (hI : Inv H) {e : Nat} {a : Int} (he : isE e) (ha : -2147483648 ≤ a ∧ a ≤ 2147483647) : hG (zs zK) d mt_80 0 (zargs 0 [.inr (.inr 361), .inr (.inr e), .inl a]) [] H (fun r9 H9 => r9 = none ∧ (H9.1 361 4 = H.1 361 4) ∧ Inv H9 ∧ fq [(361, 6), (361, 7), (361, 8), (361, 9)] [] false H H9) := by
  refine k_run 0 (pc' := 0) (l' := [(0, .inr (.inr 361)), (1, .inr (.inr e)), (2, .inl a)]) (st' := []) rfl ?_
  refine k_run 2 (pc' := 2) (l' := [(0, .inr (.inr 361)), (1, .inr (.inr e)), (2, .inl a)]) (st' := [.inr (.inr e), .inr (.inr 361)]) rfl ?_
  refine k_putr (t := e) (a := 361) (x := kx_361) rfl rfl rfl (by decide) (by decide) rfl rfl (fun g9 e9 => congrArg Value.ref e9) rfl rfl hI (show isE e from he) (fun H1 hI2 hw3 => ?_)
  have hf5 : fq [(361, 6), (361, 7), (361, 8), (361, 9)] [] false H H1 := fq_r (fq_rf _ _ _ _) hw3 (fpo (by decide) rfl)
  refine k_run 0 (pc' := 5) (l' := [(0, .inr (.inr 361)), (1, .inr (.inr e)), (2, .inl a)]) (st' := []) rfl ?_
  refine k_run 2 (pc' := 7) (l' := [(0, .inr (.inr 361)), (1, .inr (.inr e)), (2, .inl a)]) (st' := [.inl a, .inr (.inr 361)]) rfl ?_
  refine k_putw (a := 361) (x := kx_361) rfl rfl rfl (by decide) (by decide) rfl rfl rfl rfl hI2 rfl (fun H6 hI7 hw8 => ?_)
  have hf10 : fq [(361, 6), (361, 7), (361, 8), (361, 9)] [] false H H6 := fq_w hf5 hw8 (fpo (by decide) rfl)
  refine k_run 0 (pc' := 10) (l' := [(0, .inr (.inr 361)), (1, .inr (.inr e)), (2, .inl a)]) (st' := []) rfl ?_
  refine k_run 2 (pc' := 12) (l' := [(0, .inr (.inr 361)), (1, .inr (.inr e)), (2, .inl a)]) (st' := [.inl 0, .inr (.inr 361)]) rfl ?_
  refine k_puti (z := 0) (a := 361) (x := kx_361) rfl rfl rfl (by decide) (by decide) rfl rfl rfl rfl hI7 (by decide) (show 0 ≤ (0 : Int) ∧ (0 : Int) ≤ 40 by omega) (fun H11 hI12 hw13 hv14 => ?_)
  have hf15 : fq [(361, 6), (361, 7), (361, 8), (361, 9)] [] false H H11 := fq_w hf10 hw13 (fpo (by decide) rfl)
  refine k_run 0 (pc' := 15) (l' := [(0, .inr (.inr 361)), (1, .inr (.inr e)), (2, .inl a)]) (st' := []) rfl ?_
  refine k_run 2 (pc' := 17) (l' := [(0, .inr (.inr 361)), (1, .inr (.inr e)), (2, .inl a)]) (st' := [.inr (.inr e), .inr (.inr 361)]) rfl ?_
  refine k_get (a := e) (x := (kEo e)) (v := .inr (.inr (e + 1))) rfl rfl he.1 (iE0 he) rfl rfl rfl ?_
  refine k_run 0 (pc' := 20) (l' := [(0, .inr (.inr 361)), (1, .inr (.inr e)), (2, .inl a)]) (st' := [.inr (.inr (e + 1)), .inr (.inr 361)]) rfl ?_
  refine h_cv (i := 105) (j := 81) (b := 361) (M' := mt_81) (xs := [.inr (.inr (e + 1))]) (rest := []) rfl rfl rfl rfl (zs_K (x := kx_361) rfl (by decide)) rfl (Nat.le_of_ble_eq_true rfl) (Nat.le_of_ble_eq_true rfl) (by omega) (f_Reader_startTerm (by omega) hI12 (iEl he)) ?_
  rintro _ H17 ⟨rfl, g16, hI18, hq19⟩
  have hf20 : fq [(361, 6), (361, 7), (361, 8), (361, 9)] [] false H H17 := fq_t hf15 hq19 rfl rfl rfl
  refine k_run 0 (pc' := 23) (l' := [(0, .inr (.inr 361)), (1, .inr (.inr e)), (2, .inl a)]) (st' := []) rfl ?_
  refine h_ret rfl rfl ?_
  have g21 : -2147483648 ≤ (H17.1 361 4) ∧ (H17.1 361 4) ≤ 2147483647 := kn (x := kx_361) hI18 rfl 4
  have e22 : (H17.1 361 4) = (H11.1 361 4) := (hq19.1 361 4 rfl (by decide) (by decide)).1
  have e23 : (H11.1 361 4) = (H6.1 361 4) := hw13.2 _ _ (fun q => absurd q.2 (by decide))
  have e24 : (H6.1 361 4) = (H1.1 361 4) := hw8.2 _ _ (fun q => absurd q.2 (by decide))
  have e25 : (H1.1 361 4) = (H.1 361 4) := congrFun (congrFun hw3.1 _) _
  exact ⟨rfl, (by omega), hI18, hf20⟩

/-! Reader.findVariable -/
set_option maxRecDepth 100000 in
theorem f_Reader_findVariable_cut {d : Nat} (hd : 2 ≤ d) {H : hp} (hI : Inv H)   : ∀ w : Nat, (∀ (x1 : Int) , (-2147483648 ≤ x1 ∧ x1 ≤ 2147483647) → (0 ≤ x1) → (((100 - x1).toNat) < w) → hG (zs zK) d mt_79 2 [(0, .inr (.inr 361)), (1, .inl x1)] [] H (fun r9 H9 => ∃ z : Int, r9 = some (.inl z) ∧ ((-2147483648 ≤ z ∧ z ≤ 2147483647) ∧ (-1 ≤ z ∧ z < 40)) ∧ H = H9)) := by
  intro w
  induction w with
  | zero => exact fun _ _ _ h => absurd h (Nat.not_lt_zero _)
  | succ w ih =>
    intro x1 hx1 hi0 hw
    refine k_run 3 (pc' := 7) (l' := [(0, .inr (.inr 361)), (1, .inl x1)]) (st' := [.inl (H.1 361 9), .inl x1]) rfl ?_
    have g1 : 0 ≤ (H.1 361 9) ∧ (H.1 361 9) ≤ 40 := kn (x := kx_361) hI rfl 9
    refine h_ige (off := 34) (t := 41) rfl rfl (by omega) (by omega) (fun c2 => ?_) (fun c2 => ?_)
    · refine k_run 0 (pc' := 41) (l' := [(0, .inr (.inr 361)), (1, .inl x1)]) (st' := []) rfl ?_
      refine k_run 1 (pc' := 42) (l' := [(0, .inr (.inr 361)), (1, .inl x1)]) (st' := [.inl (-1)]) rfl ?_
      refine h_reti (x := (-1)) rfl rfl ?_
      exact ⟨_, rfl, (by omega), rfl⟩
    · refine k_run 0 (pc' := 10) (l' := [(0, .inr (.inr 361)), (1, .inl x1)]) (st' := []) rfl ?_
      refine k_run 3 (pc' := 15) (l' := [(0, .inr (.inr 361)), (1, .inl x1)]) (st' := [.inr (.inr 362), .inl x1]) rfl ?_
      refine k_alen (c := 362) (x := kx_362) rfl rfl (by decide) rfl ?_
      refine k_run 0 (pc' := 16) (l' := [(0, .inr (.inr 361)), (1, .inl x1)]) (st' := [.inl 40, .inl x1]) rfl ?_
      refine h_ige (off := 25) (t := 41) rfl rfl (by omega) (by decide) (fun c3 => ?_) (fun c3 => ?_)
      · refine k_run 0 (pc' := 41) (l' := [(0, .inr (.inr 361)), (1, .inl x1)]) (st' := []) rfl ?_
        refine k_run 1 (pc' := 42) (l' := [(0, .inr (.inr 361)), (1, .inl x1)]) (st' := [.inl (-1)]) rfl ?_
        refine h_reti (x := (-1)) rfl rfl ?_
        exact ⟨_, rfl, (by omega), rfl⟩
      · refine k_run 0 (pc' := 19) (l' := [(0, .inr (.inr 361)), (1, .inl x1)]) (st' := []) rfl ?_
        refine k_run 3 (pc' := 24) (l' := [(0, .inr (.inr 361)), (1, .inl x1)]) (st' := [.inl x1, .inr (.inr 362)]) rfl ?_
        refine k_lld (c := 362) (j := (x1).toNat) (i := x1) (x := kx_362) rfl rfl (by decide) rfl (by decide) (by omega) (by omega) ?_
        have g4 : -9223372036854775808 ≤ (H.1 362 (x1).toNat) ∧ (H.1 362 (x1).toNat) ≤ 9223372036854775807 := kn (x := kx_362) hI rfl (x1).toNat
        refine k_run 0 (pc' := 25) (l' := [(0, .inr (.inr 361)), (1, .inl x1)]) (st' := [.inr (.inl (H.1 362 (x1).toNat))]) rfl ?_
        refine k_run 1 (pc' := 26) (l' := [(0, .inr (.inr 361)), (1, .inl x1)]) (st' := [.inr (.inr 361), .inr (.inl (H.1 362 (x1).toNat))]) rfl ?_
        refine h_cv (i := 120) (j := 84) (b := 361) (M' := mt_84) (xs := []) (rest := [.inr (.inl (H.1 362 (x1).toNat))]) rfl rfl rfl rfl (zs_K (x := kx_361) rfl (by decide)) rfl (Nat.le_of_ble_eq_true rfl) (Nat.le_of_ble_eq_true rfl) (by omega) (f_Reader_name (by omega) hI ) ?_
        rintro _ _ ⟨z9, rfl, g5, rfl⟩
        refine k_run 0 (pc' := 29) (l' := [(0, .inr (.inr 361)), (1, .inl x1)]) (st' := [.inr (.inl z9), .inr (.inl (H.1 362 (x1).toNat))]) rfl ?_
        refine k_run 1 (pc' := 30) (l' := [(0, .inr (.inr 361)), (1, .inl x1)]) (st' := [.inl (z_cmp (H.1 362 (x1).toNat) z9)]) rfl ?_
        refine k_nrm (fun y10 hy10 => ?_)
        refine k_run 0 (pc' := 30) (l' := [(0, .inr (.inr 361)), (1, .inl x1)]) (st' := [.inl y10]) rfl ?_
        refine h_zne (off := 5) (t := 35) rfl rfl (by omega) (fun c11 => ?_) (fun c11 => ?_)
        · refine k_run 0 (pc' := 35) (l' := [(0, .inr (.inr 361)), (1, .inl x1)]) (st' := []) rfl ?_
          refine k_run 2 (pc' := 2) (l' := [(0, .inr (.inr 361)), (1, .inl (x1 + 1))]) (st' := []) rfl ?_
          exact ih (x1 + 1) (by omega) (by omega) (by omega)
        · refine k_run 0 (pc' := 33) (l' := [(0, .inr (.inr 361)), (1, .inl x1)]) (st' := []) rfl ?_
          refine k_run 1 (pc' := 34) (l' := [(0, .inr (.inr 361)), (1, .inl x1)]) (st' := [.inl x1]) rfl ?_
          refine h_reti (x := x1) rfl rfl ?_
          exact ⟨_, rfl, (by omega), rfl⟩
set_option maxRecDepth 100000 in
theorem f_Reader_findVariable {d : Nat} (hd : 2 ≤ d) {H : hp} (hI : Inv H)   : hG (zs zK) d mt_79 0 (zargs 0 [.inr (.inr 361)]) [] H (fun r9 H9 => ∃ z : Int, r9 = some (.inl z) ∧ ((-2147483648 ≤ z ∧ z ≤ 2147483647) ∧ (-1 ≤ z ∧ z < 40)) ∧ H = H9) := by
  refine k_run 0 (pc' := 0) (l' := [(0, .inr (.inr 361))]) (st' := []) rfl ?_
  refine k_run 2 (pc' := 2) (l' := [(0, .inr (.inr 361)), (1, .inl 0)]) (st' := []) rfl ?_
  exact (f_Reader_findVariable_cut hd hI  _) (0 : Int) (by decide) (by omega) (Nat.lt_succ_self _)

/-! Reader.tellName -/
set_option maxRecDepth 100000 in
theorem f_Reader_tellName_8 {d : Nat} (hd : 3 ≤ d) {H : hp} (hI : Inv H) {a : Int} {b : Int} (ha : -2147483648 ≤ a ∧ a ≤ 2147483647) (hb : -2147483648 ≤ b ∧ b ≤ 2147483647) (hp0 : -2 ≤ b ∧ b ≤ 100) : hG (zs zK) d mt_78 0 (zargs 0 [.inr (.inr 361), .inr (.inr 8), .inl a, .inl b]) [] H (fun r9 H9 => ∃ z : Int, r9 = some (.inl z) ∧ ((0 ≤ z ∧ z ≤ 1) ∧ ((z = 0 ∨ H9.1 361 4 = H.1 361 4))) ∧ Inv H9 ∧ fq [(8, 4), (361, 3), (361, 4), (361, 5)] [9, 10, 11] false H H9) := by
  refine k_run 0 (pc' := 0) (l' := [(0, .inr (.inr 361)), (1, .inr (.inr 8)), (2, .inl a), (3, .inl b)]) (st' := []) rfl ?_
  refine k_run 1 (pc' := 1) (l' := [(0, .inr (.inr 361)), (1, .inr (.inr 8)), (2, .inl a), (3, .inl b)]) (st' := [.inr (.inr 361)]) rfl ?_
  refine h_cv (i := 72) (j := 83) (b := 361) (M' := mt_83) (xs := []) (rest := []) rfl rfl rfl rfl (zs_K (x := kx_361) rfl (by decide)) rfl (Nat.le_of_ble_eq_true rfl) (Nat.le_of_ble_eq_true rfl) (by omega) (f_Reader_token (by omega) hI ) ?_
  rintro _ _ ⟨z5, rfl, g1, rfl⟩
  refine k_run 0 (pc' := 4) (l' := [(0, .inr (.inr 361)), (1, .inr (.inr 8)), (2, .inl a), (3, .inl b)]) (st' := [.inl z5]) rfl ?_
  refine k_run 1 (pc' := 5) (l' := [(0, .inr (.inr 361)), (1, .inr (.inr 8)), (2, .inl a), (3, .inl b)]) (st' := [.inl a, .inl z5]) rfl ?_
  refine h_ieq (off := 8) (t := 13) rfl rfl (by omega) (by omega) (fun c6 => ?_) (fun c6 => ?_)
  · refine k_run 0 (pc' := 13) (l' := [(0, .inr (.inr 361)), (1, .inr (.inr 8)), (2, .inl a), (3, .inl b)]) (st' := []) rfl ?_
    refine k_run 2 (pc' := 15) (l' := [(0, .inr (.inr 361)), (1, .inr (.inr 8)), (2, .inl a), (3, .inl b)]) (st' := [.inr (.inr 361), .inr (.inr 8)]) rfl ?_
    refine h_cv (i := 120) (j := 84) (b := 361) (M' := mt_84) (xs := []) (rest := [.inr (.inr 8)]) rfl rfl rfl rfl (zs_K (x := kx_361) rfl (by decide)) rfl (Nat.le_of_ble_eq_true rfl) (Nat.le_of_ble_eq_true rfl) (by omega) (f_Reader_name (by omega) hI ) ?_
    rintro _ _ ⟨z11, rfl, g7, rfl⟩
    refine k_run 0 (pc' := 18) (l' := [(0, .inr (.inr 361)), (1, .inr (.inr 8)), (2, .inl a), (3, .inl b)]) (st' := [.inr (.inl z11), .inr (.inr 8)]) rfl ?_
    have g12 : 0 ≤ (H.1 8 4) ∧ (H.1 8 4) ≤ 6 := kn (x := kx_8) hI rfl 4
    refine h_cv (i := 124) (j := 41) (b := 8) (M' := mt_41) (xs := [.inr (.inl z11)]) (rest := []) rfl rfl rfl rfl (zs_K (x := kx_8) rfl (by decide)) rfl (Nat.le_of_ble_eq_true rfl) (Nat.le_of_ble_eq_true rfl) (by omega) (k_Symbols_find_8 (by omega) hI ) ?_
    rintro _ _ ⟨z17, rfl, g13, rfl⟩
    refine k_run 0 (pc' := 21) (l' := [(0, .inr (.inr 361)), (1, .inr (.inr 8)), (2, .inl a), (3, .inl b)]) (st' := [.inl z17]) rfl ?_
    refine h_zlt (off := 9) (t := 30) rfl rfl (by omega) (fun c18 => ?_) (fun c18 => ?_)
    · refine k_run 0 (pc' := 30) (l' := [(0, .inr (.inr 361)), (1, .inr (.inr 8)), (2, .inl a), (3, .inl b)]) (st' := []) rfl ?_
      refine k_run 1 (pc' := 31) (l' := [(0, .inr (.inr 361)), (1, .inr (.inr 8)), (2, .inl a), (3, .inl b)]) (st' := [.inr (.inr 8)]) rfl ?_
      refine h_cv (i := 225) (j := 42) (b := 8) (M' := mt_42) (xs := []) (rest := []) rfl rfl rfl rfl (zs_K (x := kx_8) rfl (by decide)) rfl (Nat.le_of_ble_eq_true rfl) (Nat.le_of_ble_eq_true rfl) (by omega) (k_Symbols_isFull_8 (by omega) hI ) ?_
      rintro _ _ ⟨z23, rfl, g19, rfl⟩
      refine k_run 0 (pc' := 34) (l' := [(0, .inr (.inr 361)), (1, .inr (.inr 8)), (2, .inl a), (3, .inl b)]) (st' := [.inl z23]) rfl ?_
      refine h_zeq (off := 9) (t := 43) rfl rfl (by omega) (fun c24 => ?_) (fun c24 => ?_)
      · refine k_run 0 (pc' := 43) (l' := [(0, .inr (.inr 361)), (1, .inr (.inr 8)), (2, .inl a), (3, .inl b)]) (st' := []) rfl ?_
        refine k_run 2 (pc' := 45) (l' := [(0, .inr (.inr 361)), (1, .inr (.inr 8)), (2, .inl a), (3, .inl b)]) (st' := [.inr (.inr 361), .inr (.inr 8)]) rfl ?_
        refine h_cv (i := 120) (j := 84) (b := 361) (M' := mt_84) (xs := []) (rest := [.inr (.inr 8)]) rfl rfl rfl rfl (zs_K (x := kx_361) rfl (by decide)) rfl (Nat.le_of_ble_eq_true rfl) (Nat.le_of_ble_eq_true rfl) (by omega) (f_Reader_name (by omega) hI ) ?_
        rintro _ _ ⟨z29, rfl, g25, rfl⟩
        refine k_run 0 (pc' := 48) (l' := [(0, .inr (.inr 361)), (1, .inr (.inr 8)), (2, .inl a), (3, .inl b)]) (st' := [.inr (.inl z29), .inr (.inr 8)]) rfl ?_
        refine k_run 1 (pc' := 49) (l' := [(0, .inr (.inr 361)), (1, .inr (.inr 8)), (2, .inl a), (3, .inl b)]) (st' := [.inl b, .inr (.inl z29), .inr (.inr 8)]) rfl ?_
        refine h_cv (i := 228) (j := 43) (b := 8) (M' := mt_43) (xs := [.inl b, .inr (.inl z29)]) (rest := []) rfl rfl rfl rfl (zs_K (x := kx_8) rfl (by decide)) rfl (Nat.le_of_ble_eq_true rfl) (Nat.le_of_ble_eq_true rfl) (by omega) (k_Symbols_add_8 (by omega) hI (by omega) (by omega)) ?_
        rintro _ H31 ⟨rfl, hI32, hq33⟩
        have hf34 : fq [(8, 4), (361, 3), (361, 4), (361, 5)] [9, 10, 11] false H H31 := fq_t (fq_rf _ _ _ _) hq33 rfl rfl rfl
        refine k_run 0 (pc' := 52) (l' := [(0, .inr (.inr 361)), (1, .inr (.inr 8)), (2, .inl a), (3, .inl b)]) (st' := []) rfl ?_
        refine k_run 3 (pc' := 57) (l' := [(0, .inr (.inr 361)), (1, .inr (.inr 8)), (2, .inl a), (3, .inl b)]) (st' := [.inl (H31.1 361 3), .inr (.inr 361)]) rfl ?_
        have g35 : -2147483648 ≤ (H31.1 361 3) ∧ (H31.1 361 3) ≤ 2147483647 := kn (x := kx_361) hI32 rfl 3
        have e36 : (H31.1 361 3) = (H.1 361 3) := (hq33.1 361 3 rfl (by decide) (by decide)).1
        refine k_run 2 (pc' := 59) (l' := [(0, .inr (.inr 361)), (1, .inr (.inr 8)), (2, .inl a), (3, .inl b)]) (st' := [.inl ((H31.1 361 3) + 1), .inr (.inr 361)]) rfl ?_
        refine k_putw (a := 361) (x := kx_361) rfl rfl rfl (by decide) (by decide) rfl rfl rfl rfl hI32 rfl (fun H37 hI38 hw39 => ?_)
        have hf41 : fq [(8, 4), (361, 3), (361, 4), (361, 5)] [9, 10, 11] false H H37 := fq_w hf34 hw39 (fpo (by decide) rfl)
        refine k_run 0 (pc' := 62) (l' := [(0, .inr (.inr 361)), (1, .inr (.inr 8)), (2, .inl a), (3, .inl b)]) (st' := []) rfl ?_
        refine k_run 1 (pc' := 63) (l' := [(0, .inr (.inr 361)), (1, .inr (.inr 8)), (2, .inl a), (3, .inl b)]) (st' := [.inl 1]) rfl ?_
        refine h_retz (x := 1) rfl rfl (by decide) ?_
        have g42 : -2147483648 ≤ (H37.1 361 4) ∧ (H37.1 361 4) ≤ 2147483647 := kn (x := kx_361) hI38 rfl 4
        have e43 : (H37.1 361 4) = (H31.1 361 4) := hw39.2 _ _ (fun q => absurd q.2 (by decide))
        have e44 : (H31.1 361 4) = (H.1 361 4) := (hq33.1 361 4 rfl (by decide) (by decide)).1
        exact ⟨_, rfl, (by omega), hI38, hf41⟩
      · refine k_run 0 (pc' := 37) (l' := [(0, .inr (.inr 361)), (1, .inr (.inr 8)), (2, .inl a), (3, .inl b)]) (st' := []) rfl ?_
        refine k_run 2 (pc' := 39) (l' := [(0, .inr (.inr 361)), (1, .inr (.inr 8)), (2, .inl a), (3, .inl b)]) (st' := [.inl 5, .inr (.inr 361)]) rfl ?_
        refine h_cv (i := 128) (j := 86) (b := 361) (M' := mt_86) (xs := [.inl 5]) (rest := []) rfl rfl rfl rfl (zs_K (x := kx_361) rfl (by decide)) rfl (Nat.le_of_ble_eq_true rfl) (Nat.le_of_ble_eq_true rfl) (by omega) (f_Reader_fails (by omega) hI (by decide)) ?_
        rintro _ H46 ⟨z49, rfl, g45, hI47, hq48⟩
        have hf50 : fq [(8, 4), (361, 3), (361, 4), (361, 5)] [9, 10, 11] false H H46 := fq_t (fq_rf _ _ _ _) hq48 rfl rfl rfl
        refine k_run 0 (pc' := 42) (l' := [(0, .inr (.inr 361)), (1, .inr (.inr 8)), (2, .inl a), (3, .inl b)]) (st' := [.inl z49]) rfl ?_
        refine h_retz (x := z49) rfl rfl (by omega) ?_
        have g51 : -2147483648 ≤ (H46.1 361 4) ∧ (H46.1 361 4) ≤ 2147483647 := kn (x := kx_361) hI47 rfl 4
        exact ⟨_, rfl, (by omega), hI47, hf50⟩
    · refine k_run 0 (pc' := 24) (l' := [(0, .inr (.inr 361)), (1, .inr (.inr 8)), (2, .inl a), (3, .inl b)]) (st' := []) rfl ?_
      refine k_run 2 (pc' := 26) (l' := [(0, .inr (.inr 361)), (1, .inr (.inr 8)), (2, .inl a), (3, .inl b)]) (st' := [.inl 3, .inr (.inr 361)]) rfl ?_
      refine h_cv (i := 128) (j := 86) (b := 361) (M' := mt_86) (xs := [.inl 3]) (rest := []) rfl rfl rfl rfl (zs_K (x := kx_361) rfl (by decide)) rfl (Nat.le_of_ble_eq_true rfl) (Nat.le_of_ble_eq_true rfl) (by omega) (f_Reader_fails (by omega) hI (by decide)) ?_
      rintro _ H53 ⟨z56, rfl, g52, hI54, hq55⟩
      have hf57 : fq [(8, 4), (361, 3), (361, 4), (361, 5)] [9, 10, 11] false H H53 := fq_t (fq_rf _ _ _ _) hq55 rfl rfl rfl
      refine k_run 0 (pc' := 29) (l' := [(0, .inr (.inr 361)), (1, .inr (.inr 8)), (2, .inl a), (3, .inl b)]) (st' := [.inl z56]) rfl ?_
      refine h_retz (x := z56) rfl rfl (by omega) ?_
      have g58 : -2147483648 ≤ (H53.1 361 4) ∧ (H53.1 361 4) ≤ 2147483647 := kn (x := kx_361) hI54 rfl 4
      exact ⟨_, rfl, (by omega), hI54, hf57⟩
  · refine k_run 0 (pc' := 8) (l' := [(0, .inr (.inr 361)), (1, .inr (.inr 8)), (2, .inl a), (3, .inl b)]) (st' := []) rfl ?_
    refine k_run 1 (pc' := 9) (l' := [(0, .inr (.inr 361)), (1, .inr (.inr 8)), (2, .inl a), (3, .inl b)]) (st' := [.inr (.inr 361)]) rfl ?_
    refine h_cv (i := 89) (j := 85) (b := 361) (M' := mt_85) (xs := []) (rest := []) rfl rfl rfl rfl (zs_K (x := kx_361) rfl (by decide)) rfl (Nat.le_of_ble_eq_true rfl) (Nat.le_of_ble_eq_true rfl) (by omega) (f_Reader_misplaced (by omega) hI ) ?_
    rintro _ H60 ⟨z63, rfl, g59, hI61, hq62⟩
    have hf64 : fq [(8, 4), (361, 3), (361, 4), (361, 5)] [9, 10, 11] false H H60 := fq_t (fq_rf _ _ _ _) hq62 rfl rfl rfl
    refine k_run 0 (pc' := 12) (l' := [(0, .inr (.inr 361)), (1, .inr (.inr 8)), (2, .inl a), (3, .inl b)]) (st' := [.inl z63]) rfl ?_
    refine h_retz (x := z63) rfl rfl (by omega) ?_
    have g65 : -2147483648 ≤ (H60.1 361 4) ∧ (H60.1 361 4) ≤ 2147483647 := kn (x := kx_361) hI61 rfl 4
    exact ⟨_, rfl, (by omega), hI61, hf64⟩

/-! Reader.tellName -/
set_option maxRecDepth 100000 in
theorem f_Reader_tellName_13 {d : Nat} (hd : 3 ≤ d) {H : hp} (hI : Inv H) {a : Int} {b : Int} (ha : -2147483648 ≤ a ∧ a ≤ 2147483647) (hb : -2147483648 ≤ b ∧ b ≤ 2147483647) (hp0 : -2 ≤ b ∧ b ≤ 100) : hG (zs zK) d mt_78 0 (zargs 0 [.inr (.inr 361), .inr (.inr 13), .inl a, .inl b]) [] H (fun r9 H9 => ∃ z : Int, r9 = some (.inl z) ∧ ((0 ≤ z ∧ z ≤ 1) ∧ ((z = 0 ∨ H9.1 361 4 = H.1 361 4))) ∧ Inv H9 ∧ fq [(13, 4), (361, 3), (361, 4), (361, 5)] [14, 15, 16] false H H9) := by
  refine k_run 0 (pc' := 0) (l' := [(0, .inr (.inr 361)), (1, .inr (.inr 13)), (2, .inl a), (3, .inl b)]) (st' := []) rfl ?_
  refine k_run 1 (pc' := 1) (l' := [(0, .inr (.inr 361)), (1, .inr (.inr 13)), (2, .inl a), (3, .inl b)]) (st' := [.inr (.inr 361)]) rfl ?_
  refine h_cv (i := 72) (j := 83) (b := 361) (M' := mt_83) (xs := []) (rest := []) rfl rfl rfl rfl (zs_K (x := kx_361) rfl (by decide)) rfl (Nat.le_of_ble_eq_true rfl) (Nat.le_of_ble_eq_true rfl) (by omega) (f_Reader_token (by omega) hI ) ?_
  rintro _ _ ⟨z5, rfl, g1, rfl⟩
  refine k_run 0 (pc' := 4) (l' := [(0, .inr (.inr 361)), (1, .inr (.inr 13)), (2, .inl a), (3, .inl b)]) (st' := [.inl z5]) rfl ?_
  refine k_run 1 (pc' := 5) (l' := [(0, .inr (.inr 361)), (1, .inr (.inr 13)), (2, .inl a), (3, .inl b)]) (st' := [.inl a, .inl z5]) rfl ?_
  refine h_ieq (off := 8) (t := 13) rfl rfl (by omega) (by omega) (fun c6 => ?_) (fun c6 => ?_)
  · refine k_run 0 (pc' := 13) (l' := [(0, .inr (.inr 361)), (1, .inr (.inr 13)), (2, .inl a), (3, .inl b)]) (st' := []) rfl ?_
    refine k_run 2 (pc' := 15) (l' := [(0, .inr (.inr 361)), (1, .inr (.inr 13)), (2, .inl a), (3, .inl b)]) (st' := [.inr (.inr 361), .inr (.inr 13)]) rfl ?_
    refine h_cv (i := 120) (j := 84) (b := 361) (M' := mt_84) (xs := []) (rest := [.inr (.inr 13)]) rfl rfl rfl rfl (zs_K (x := kx_361) rfl (by decide)) rfl (Nat.le_of_ble_eq_true rfl) (Nat.le_of_ble_eq_true rfl) (by omega) (f_Reader_name (by omega) hI ) ?_
    rintro _ _ ⟨z11, rfl, g7, rfl⟩
    refine k_run 0 (pc' := 18) (l' := [(0, .inr (.inr 361)), (1, .inr (.inr 13)), (2, .inl a), (3, .inl b)]) (st' := [.inr (.inl z11), .inr (.inr 13)]) rfl ?_
    have g12 : 0 ≤ (H.1 13 4) ∧ (H.1 13 4) ≤ 16 := kn (x := kx_13) hI rfl 4
    refine h_cv (i := 124) (j := 41) (b := 13) (M' := mt_41) (xs := [.inr (.inl z11)]) (rest := []) rfl rfl rfl rfl (zs_K (x := kx_13) rfl (by decide)) rfl (Nat.le_of_ble_eq_true rfl) (Nat.le_of_ble_eq_true rfl) (by omega) (k_Symbols_find_13 (by omega) hI ) ?_
    rintro _ _ ⟨z17, rfl, g13, rfl⟩
    refine k_run 0 (pc' := 21) (l' := [(0, .inr (.inr 361)), (1, .inr (.inr 13)), (2, .inl a), (3, .inl b)]) (st' := [.inl z17]) rfl ?_
    refine h_zlt (off := 9) (t := 30) rfl rfl (by omega) (fun c18 => ?_) (fun c18 => ?_)
    · refine k_run 0 (pc' := 30) (l' := [(0, .inr (.inr 361)), (1, .inr (.inr 13)), (2, .inl a), (3, .inl b)]) (st' := []) rfl ?_
      refine k_run 1 (pc' := 31) (l' := [(0, .inr (.inr 361)), (1, .inr (.inr 13)), (2, .inl a), (3, .inl b)]) (st' := [.inr (.inr 13)]) rfl ?_
      refine h_cv (i := 225) (j := 42) (b := 13) (M' := mt_42) (xs := []) (rest := []) rfl rfl rfl rfl (zs_K (x := kx_13) rfl (by decide)) rfl (Nat.le_of_ble_eq_true rfl) (Nat.le_of_ble_eq_true rfl) (by omega) (k_Symbols_isFull_13 (by omega) hI ) ?_
      rintro _ _ ⟨z23, rfl, g19, rfl⟩
      refine k_run 0 (pc' := 34) (l' := [(0, .inr (.inr 361)), (1, .inr (.inr 13)), (2, .inl a), (3, .inl b)]) (st' := [.inl z23]) rfl ?_
      refine h_zeq (off := 9) (t := 43) rfl rfl (by omega) (fun c24 => ?_) (fun c24 => ?_)
      · refine k_run 0 (pc' := 43) (l' := [(0, .inr (.inr 361)), (1, .inr (.inr 13)), (2, .inl a), (3, .inl b)]) (st' := []) rfl ?_
        refine k_run 2 (pc' := 45) (l' := [(0, .inr (.inr 361)), (1, .inr (.inr 13)), (2, .inl a), (3, .inl b)]) (st' := [.inr (.inr 361), .inr (.inr 13)]) rfl ?_
        refine h_cv (i := 120) (j := 84) (b := 361) (M' := mt_84) (xs := []) (rest := [.inr (.inr 13)]) rfl rfl rfl rfl (zs_K (x := kx_361) rfl (by decide)) rfl (Nat.le_of_ble_eq_true rfl) (Nat.le_of_ble_eq_true rfl) (by omega) (f_Reader_name (by omega) hI ) ?_
        rintro _ _ ⟨z29, rfl, g25, rfl⟩
        refine k_run 0 (pc' := 48) (l' := [(0, .inr (.inr 361)), (1, .inr (.inr 13)), (2, .inl a), (3, .inl b)]) (st' := [.inr (.inl z29), .inr (.inr 13)]) rfl ?_
        refine k_run 1 (pc' := 49) (l' := [(0, .inr (.inr 361)), (1, .inr (.inr 13)), (2, .inl a), (3, .inl b)]) (st' := [.inl b, .inr (.inl z29), .inr (.inr 13)]) rfl ?_
        refine h_cv (i := 228) (j := 43) (b := 13) (M' := mt_43) (xs := [.inl b, .inr (.inl z29)]) (rest := []) rfl rfl rfl rfl (zs_K (x := kx_13) rfl (by decide)) rfl (Nat.le_of_ble_eq_true rfl) (Nat.le_of_ble_eq_true rfl) (by omega) (k_Symbols_add_13 (by omega) hI (by omega) (by omega)) ?_
        rintro _ H31 ⟨rfl, hI32, hq33⟩
        have hf34 : fq [(13, 4), (361, 3), (361, 4), (361, 5)] [14, 15, 16] false H H31 := fq_t (fq_rf _ _ _ _) hq33 rfl rfl rfl
        refine k_run 0 (pc' := 52) (l' := [(0, .inr (.inr 361)), (1, .inr (.inr 13)), (2, .inl a), (3, .inl b)]) (st' := []) rfl ?_
        refine k_run 3 (pc' := 57) (l' := [(0, .inr (.inr 361)), (1, .inr (.inr 13)), (2, .inl a), (3, .inl b)]) (st' := [.inl (H31.1 361 3), .inr (.inr 361)]) rfl ?_
        have g35 : -2147483648 ≤ (H31.1 361 3) ∧ (H31.1 361 3) ≤ 2147483647 := kn (x := kx_361) hI32 rfl 3
        have e36 : (H31.1 361 3) = (H.1 361 3) := (hq33.1 361 3 rfl (by decide) (by decide)).1
        refine k_run 2 (pc' := 59) (l' := [(0, .inr (.inr 361)), (1, .inr (.inr 13)), (2, .inl a), (3, .inl b)]) (st' := [.inl ((H31.1 361 3) + 1), .inr (.inr 361)]) rfl ?_
        refine k_putw (a := 361) (x := kx_361) rfl rfl rfl (by decide) (by decide) rfl rfl rfl rfl hI32 rfl (fun H37 hI38 hw39 => ?_)
        have hf41 : fq [(13, 4), (361, 3), (361, 4), (361, 5)] [14, 15, 16] false H H37 := fq_w hf34 hw39 (fpo (by decide) rfl)
        refine k_run 0 (pc' := 62) (l' := [(0, .inr (.inr 361)), (1, .inr (.inr 13)), (2, .inl a), (3, .inl b)]) (st' := []) rfl ?_
        refine k_run 1 (pc' := 63) (l' := [(0, .inr (.inr 361)), (1, .inr (.inr 13)), (2, .inl a), (3, .inl b)]) (st' := [.inl 1]) rfl ?_
        refine h_retz (x := 1) rfl rfl (by decide) ?_
        have g42 : -2147483648 ≤ (H37.1 361 4) ∧ (H37.1 361 4) ≤ 2147483647 := kn (x := kx_361) hI38 rfl 4
        have e43 : (H37.1 361 4) = (H31.1 361 4) := hw39.2 _ _ (fun q => absurd q.2 (by decide))
        have e44 : (H31.1 361 4) = (H.1 361 4) := (hq33.1 361 4 rfl (by decide) (by decide)).1
        exact ⟨_, rfl, (by omega), hI38, hf41⟩
      · refine k_run 0 (pc' := 37) (l' := [(0, .inr (.inr 361)), (1, .inr (.inr 13)), (2, .inl a), (3, .inl b)]) (st' := []) rfl ?_
        refine k_run 2 (pc' := 39) (l' := [(0, .inr (.inr 361)), (1, .inr (.inr 13)), (2, .inl a), (3, .inl b)]) (st' := [.inl 5, .inr (.inr 361)]) rfl ?_
        refine h_cv (i := 128) (j := 86) (b := 361) (M' := mt_86) (xs := [.inl 5]) (rest := []) rfl rfl rfl rfl (zs_K (x := kx_361) rfl (by decide)) rfl (Nat.le_of_ble_eq_true rfl) (Nat.le_of_ble_eq_true rfl) (by omega) (f_Reader_fails (by omega) hI (by decide)) ?_
        rintro _ H46 ⟨z49, rfl, g45, hI47, hq48⟩
        have hf50 : fq [(13, 4), (361, 3), (361, 4), (361, 5)] [14, 15, 16] false H H46 := fq_t (fq_rf _ _ _ _) hq48 rfl rfl rfl
        refine k_run 0 (pc' := 42) (l' := [(0, .inr (.inr 361)), (1, .inr (.inr 13)), (2, .inl a), (3, .inl b)]) (st' := [.inl z49]) rfl ?_
        refine h_retz (x := z49) rfl rfl (by omega) ?_
        have g51 : -2147483648 ≤ (H46.1 361 4) ∧ (H46.1 361 4) ≤ 2147483647 := kn (x := kx_361) hI47 rfl 4
        exact ⟨_, rfl, (by omega), hI47, hf50⟩
    · refine k_run 0 (pc' := 24) (l' := [(0, .inr (.inr 361)), (1, .inr (.inr 13)), (2, .inl a), (3, .inl b)]) (st' := []) rfl ?_
      refine k_run 2 (pc' := 26) (l' := [(0, .inr (.inr 361)), (1, .inr (.inr 13)), (2, .inl a), (3, .inl b)]) (st' := [.inl 3, .inr (.inr 361)]) rfl ?_
      refine h_cv (i := 128) (j := 86) (b := 361) (M' := mt_86) (xs := [.inl 3]) (rest := []) rfl rfl rfl rfl (zs_K (x := kx_361) rfl (by decide)) rfl (Nat.le_of_ble_eq_true rfl) (Nat.le_of_ble_eq_true rfl) (by omega) (f_Reader_fails (by omega) hI (by decide)) ?_
      rintro _ H53 ⟨z56, rfl, g52, hI54, hq55⟩
      have hf57 : fq [(13, 4), (361, 3), (361, 4), (361, 5)] [14, 15, 16] false H H53 := fq_t (fq_rf _ _ _ _) hq55 rfl rfl rfl
      refine k_run 0 (pc' := 29) (l' := [(0, .inr (.inr 361)), (1, .inr (.inr 13)), (2, .inl a), (3, .inl b)]) (st' := [.inl z56]) rfl ?_
      refine h_retz (x := z56) rfl rfl (by omega) ?_
      have g58 : -2147483648 ≤ (H53.1 361 4) ∧ (H53.1 361 4) ≤ 2147483647 := kn (x := kx_361) hI54 rfl 4
      exact ⟨_, rfl, (by omega), hI54, hf57⟩
  · refine k_run 0 (pc' := 8) (l' := [(0, .inr (.inr 361)), (1, .inr (.inr 13)), (2, .inl a), (3, .inl b)]) (st' := []) rfl ?_
    refine k_run 1 (pc' := 9) (l' := [(0, .inr (.inr 361)), (1, .inr (.inr 13)), (2, .inl a), (3, .inl b)]) (st' := [.inr (.inr 361)]) rfl ?_
    refine h_cv (i := 89) (j := 85) (b := 361) (M' := mt_85) (xs := []) (rest := []) rfl rfl rfl rfl (zs_K (x := kx_361) rfl (by decide)) rfl (Nat.le_of_ble_eq_true rfl) (Nat.le_of_ble_eq_true rfl) (by omega) (f_Reader_misplaced (by omega) hI ) ?_
    rintro _ H60 ⟨z63, rfl, g59, hI61, hq62⟩
    have hf64 : fq [(13, 4), (361, 3), (361, 4), (361, 5)] [14, 15, 16] false H H60 := fq_t (fq_rf _ _ _ _) hq62 rfl rfl rfl
    refine k_run 0 (pc' := 12) (l' := [(0, .inr (.inr 361)), (1, .inr (.inr 13)), (2, .inl a), (3, .inl b)]) (st' := [.inl z63]) rfl ?_
    refine h_retz (x := z63) rfl rfl (by omega) ?_
    have g65 : -2147483648 ≤ (H60.1 361 4) ∧ (H60.1 361 4) ≤ 2147483647 := kn (x := kx_361) hI61 rfl 4
    exact ⟨_, rfl, (by omega), hI61, hf64⟩

/-! Reader.tellName -/
set_option maxRecDepth 100000 in
theorem f_Reader_tellName_18 {d : Nat} (hd : 3 ≤ d) {H : hp} (hI : Inv H) {a : Int} {b : Int} (ha : -2147483648 ≤ a ∧ a ≤ 2147483647) (hb : -2147483648 ≤ b ∧ b ≤ 2147483647) (hp0 : -2 ≤ b ∧ b ≤ 100) : hG (zs zK) d mt_78 0 (zargs 0 [.inr (.inr 361), .inr (.inr 18), .inl a, .inl b]) [] H (fun r9 H9 => ∃ z : Int, r9 = some (.inl z) ∧ ((0 ≤ z ∧ z ≤ 1) ∧ ((z = 0 ∨ H9.1 361 4 = H.1 361 4))) ∧ Inv H9 ∧ fq [(18, 4), (361, 3), (361, 4), (361, 5)] [19, 20, 21] false H H9) := by
  refine k_run 0 (pc' := 0) (l' := [(0, .inr (.inr 361)), (1, .inr (.inr 18)), (2, .inl a), (3, .inl b)]) (st' := []) rfl ?_
  refine k_run 1 (pc' := 1) (l' := [(0, .inr (.inr 361)), (1, .inr (.inr 18)), (2, .inl a), (3, .inl b)]) (st' := [.inr (.inr 361)]) rfl ?_
  refine h_cv (i := 72) (j := 83) (b := 361) (M' := mt_83) (xs := []) (rest := []) rfl rfl rfl rfl (zs_K (x := kx_361) rfl (by decide)) rfl (Nat.le_of_ble_eq_true rfl) (Nat.le_of_ble_eq_true rfl) (by omega) (f_Reader_token (by omega) hI ) ?_
  rintro _ _ ⟨z5, rfl, g1, rfl⟩
  refine k_run 0 (pc' := 4) (l' := [(0, .inr (.inr 361)), (1, .inr (.inr 18)), (2, .inl a), (3, .inl b)]) (st' := [.inl z5]) rfl ?_
  refine k_run 1 (pc' := 5) (l' := [(0, .inr (.inr 361)), (1, .inr (.inr 18)), (2, .inl a), (3, .inl b)]) (st' := [.inl a, .inl z5]) rfl ?_
  refine h_ieq (off := 8) (t := 13) rfl rfl (by omega) (by omega) (fun c6 => ?_) (fun c6 => ?_)
  · refine k_run 0 (pc' := 13) (l' := [(0, .inr (.inr 361)), (1, .inr (.inr 18)), (2, .inl a), (3, .inl b)]) (st' := []) rfl ?_
    refine k_run 2 (pc' := 15) (l' := [(0, .inr (.inr 361)), (1, .inr (.inr 18)), (2, .inl a), (3, .inl b)]) (st' := [.inr (.inr 361), .inr (.inr 18)]) rfl ?_
    refine h_cv (i := 120) (j := 84) (b := 361) (M' := mt_84) (xs := []) (rest := [.inr (.inr 18)]) rfl rfl rfl rfl (zs_K (x := kx_361) rfl (by decide)) rfl (Nat.le_of_ble_eq_true rfl) (Nat.le_of_ble_eq_true rfl) (by omega) (f_Reader_name (by omega) hI ) ?_
    rintro _ _ ⟨z11, rfl, g7, rfl⟩
    refine k_run 0 (pc' := 18) (l' := [(0, .inr (.inr 361)), (1, .inr (.inr 18)), (2, .inl a), (3, .inl b)]) (st' := [.inr (.inl z11), .inr (.inr 18)]) rfl ?_
    have g12 : 0 ≤ (H.1 18 4) ∧ (H.1 18 4) ≤ 16 := kn (x := kx_18) hI rfl 4
    refine h_cv (i := 124) (j := 41) (b := 18) (M' := mt_41) (xs := [.inr (.inl z11)]) (rest := []) rfl rfl rfl rfl (zs_K (x := kx_18) rfl (by decide)) rfl (Nat.le_of_ble_eq_true rfl) (Nat.le_of_ble_eq_true rfl) (by omega) (k_Symbols_find_18 (by omega) hI ) ?_
    rintro _ _ ⟨z17, rfl, g13, rfl⟩
    refine k_run 0 (pc' := 21) (l' := [(0, .inr (.inr 361)), (1, .inr (.inr 18)), (2, .inl a), (3, .inl b)]) (st' := [.inl z17]) rfl ?_
    refine h_zlt (off := 9) (t := 30) rfl rfl (by omega) (fun c18 => ?_) (fun c18 => ?_)
    · refine k_run 0 (pc' := 30) (l' := [(0, .inr (.inr 361)), (1, .inr (.inr 18)), (2, .inl a), (3, .inl b)]) (st' := []) rfl ?_
      refine k_run 1 (pc' := 31) (l' := [(0, .inr (.inr 361)), (1, .inr (.inr 18)), (2, .inl a), (3, .inl b)]) (st' := [.inr (.inr 18)]) rfl ?_
      refine h_cv (i := 225) (j := 42) (b := 18) (M' := mt_42) (xs := []) (rest := []) rfl rfl rfl rfl (zs_K (x := kx_18) rfl (by decide)) rfl (Nat.le_of_ble_eq_true rfl) (Nat.le_of_ble_eq_true rfl) (by omega) (k_Symbols_isFull_18 (by omega) hI ) ?_
      rintro _ _ ⟨z23, rfl, g19, rfl⟩
      refine k_run 0 (pc' := 34) (l' := [(0, .inr (.inr 361)), (1, .inr (.inr 18)), (2, .inl a), (3, .inl b)]) (st' := [.inl z23]) rfl ?_
      refine h_zeq (off := 9) (t := 43) rfl rfl (by omega) (fun c24 => ?_) (fun c24 => ?_)
      · refine k_run 0 (pc' := 43) (l' := [(0, .inr (.inr 361)), (1, .inr (.inr 18)), (2, .inl a), (3, .inl b)]) (st' := []) rfl ?_
        refine k_run 2 (pc' := 45) (l' := [(0, .inr (.inr 361)), (1, .inr (.inr 18)), (2, .inl a), (3, .inl b)]) (st' := [.inr (.inr 361), .inr (.inr 18)]) rfl ?_
        refine h_cv (i := 120) (j := 84) (b := 361) (M' := mt_84) (xs := []) (rest := [.inr (.inr 18)]) rfl rfl rfl rfl (zs_K (x := kx_361) rfl (by decide)) rfl (Nat.le_of_ble_eq_true rfl) (Nat.le_of_ble_eq_true rfl) (by omega) (f_Reader_name (by omega) hI ) ?_
        rintro _ _ ⟨z29, rfl, g25, rfl⟩
        refine k_run 0 (pc' := 48) (l' := [(0, .inr (.inr 361)), (1, .inr (.inr 18)), (2, .inl a), (3, .inl b)]) (st' := [.inr (.inl z29), .inr (.inr 18)]) rfl ?_
        refine k_run 1 (pc' := 49) (l' := [(0, .inr (.inr 361)), (1, .inr (.inr 18)), (2, .inl a), (3, .inl b)]) (st' := [.inl b, .inr (.inl z29), .inr (.inr 18)]) rfl ?_
        refine h_cv (i := 228) (j := 43) (b := 18) (M' := mt_43) (xs := [.inl b, .inr (.inl z29)]) (rest := []) rfl rfl rfl rfl (zs_K (x := kx_18) rfl (by decide)) rfl (Nat.le_of_ble_eq_true rfl) (Nat.le_of_ble_eq_true rfl) (by omega) (k_Symbols_add_18 (by omega) hI (by omega) (by omega)) ?_
        rintro _ H31 ⟨rfl, hI32, hq33⟩
        have hf34 : fq [(18, 4), (361, 3), (361, 4), (361, 5)] [19, 20, 21] false H H31 := fq_t (fq_rf _ _ _ _) hq33 rfl rfl rfl
        refine k_run 0 (pc' := 52) (l' := [(0, .inr (.inr 361)), (1, .inr (.inr 18)), (2, .inl a), (3, .inl b)]) (st' := []) rfl ?_
        refine k_run 3 (pc' := 57) (l' := [(0, .inr (.inr 361)), (1, .inr (.inr 18)), (2, .inl a), (3, .inl b)]) (st' := [.inl (H31.1 361 3), .inr (.inr 361)]) rfl ?_
        have g35 : -2147483648 ≤ (H31.1 361 3) ∧ (H31.1 361 3) ≤ 2147483647 := kn (x := kx_361) hI32 rfl 3
        have e36 : (H31.1 361 3) = (H.1 361 3) := (hq33.1 361 3 rfl (by decide) (by decide)).1
        refine k_run 2 (pc' := 59) (l' := [(0, .inr (.inr 361)), (1, .inr (.inr 18)), (2, .inl a), (3, .inl b)]) (st' := [.inl ((H31.1 361 3) + 1), .inr (.inr 361)]) rfl ?_
        refine k_putw (a := 361) (x := kx_361) rfl rfl rfl (by decide) (by decide) rfl rfl rfl rfl hI32 rfl (fun H37 hI38 hw39 => ?_)
        have hf41 : fq [(18, 4), (361, 3), (361, 4), (361, 5)] [19, 20, 21] false H H37 := fq_w hf34 hw39 (fpo (by decide) rfl)
        refine k_run 0 (pc' := 62) (l' := [(0, .inr (.inr 361)), (1, .inr (.inr 18)), (2, .inl a), (3, .inl b)]) (st' := []) rfl ?_
        refine k_run 1 (pc' := 63) (l' := [(0, .inr (.inr 361)), (1, .inr (.inr 18)), (2, .inl a), (3, .inl b)]) (st' := [.inl 1]) rfl ?_
        refine h_retz (x := 1) rfl rfl (by decide) ?_
        have g42 : -2147483648 ≤ (H37.1 361 4) ∧ (H37.1 361 4) ≤ 2147483647 := kn (x := kx_361) hI38 rfl 4
        have e43 : (H37.1 361 4) = (H31.1 361 4) := hw39.2 _ _ (fun q => absurd q.2 (by decide))
        have e44 : (H31.1 361 4) = (H.1 361 4) := (hq33.1 361 4 rfl (by decide) (by decide)).1
        exact ⟨_, rfl, (by omega), hI38, hf41⟩
      · refine k_run 0 (pc' := 37) (l' := [(0, .inr (.inr 361)), (1, .inr (.inr 18)), (2, .inl a), (3, .inl b)]) (st' := []) rfl ?_
        refine k_run 2 (pc' := 39) (l' := [(0, .inr (.inr 361)), (1, .inr (.inr 18)), (2, .inl a), (3, .inl b)]) (st' := [.inl 5, .inr (.inr 361)]) rfl ?_
        refine h_cv (i := 128) (j := 86) (b := 361) (M' := mt_86) (xs := [.inl 5]) (rest := []) rfl rfl rfl rfl (zs_K (x := kx_361) rfl (by decide)) rfl (Nat.le_of_ble_eq_true rfl) (Nat.le_of_ble_eq_true rfl) (by omega) (f_Reader_fails (by omega) hI (by decide)) ?_
        rintro _ H46 ⟨z49, rfl, g45, hI47, hq48⟩
        have hf50 : fq [(18, 4), (361, 3), (361, 4), (361, 5)] [19, 20, 21] false H H46 := fq_t (fq_rf _ _ _ _) hq48 rfl rfl rfl
        refine k_run 0 (pc' := 42) (l' := [(0, .inr (.inr 361)), (1, .inr (.inr 18)), (2, .inl a), (3, .inl b)]) (st' := [.inl z49]) rfl ?_
        refine h_retz (x := z49) rfl rfl (by omega) ?_
        have g51 : -2147483648 ≤ (H46.1 361 4) ∧ (H46.1 361 4) ≤ 2147483647 := kn (x := kx_361) hI47 rfl 4
        exact ⟨_, rfl, (by omega), hI47, hf50⟩
    · refine k_run 0 (pc' := 24) (l' := [(0, .inr (.inr 361)), (1, .inr (.inr 18)), (2, .inl a), (3, .inl b)]) (st' := []) rfl ?_
      refine k_run 2 (pc' := 26) (l' := [(0, .inr (.inr 361)), (1, .inr (.inr 18)), (2, .inl a), (3, .inl b)]) (st' := [.inl 3, .inr (.inr 361)]) rfl ?_
      refine h_cv (i := 128) (j := 86) (b := 361) (M' := mt_86) (xs := [.inl 3]) (rest := []) rfl rfl rfl rfl (zs_K (x := kx_361) rfl (by decide)) rfl (Nat.le_of_ble_eq_true rfl) (Nat.le_of_ble_eq_true rfl) (by omega) (f_Reader_fails (by omega) hI (by decide)) ?_
      rintro _ H53 ⟨z56, rfl, g52, hI54, hq55⟩
      have hf57 : fq [(18, 4), (361, 3), (361, 4), (361, 5)] [19, 20, 21] false H H53 := fq_t (fq_rf _ _ _ _) hq55 rfl rfl rfl
      refine k_run 0 (pc' := 29) (l' := [(0, .inr (.inr 361)), (1, .inr (.inr 18)), (2, .inl a), (3, .inl b)]) (st' := [.inl z56]) rfl ?_
      refine h_retz (x := z56) rfl rfl (by omega) ?_
      have g58 : -2147483648 ≤ (H53.1 361 4) ∧ (H53.1 361 4) ≤ 2147483647 := kn (x := kx_361) hI54 rfl 4
      exact ⟨_, rfl, (by omega), hI54, hf57⟩
  · refine k_run 0 (pc' := 8) (l' := [(0, .inr (.inr 361)), (1, .inr (.inr 18)), (2, .inl a), (3, .inl b)]) (st' := []) rfl ?_
    refine k_run 1 (pc' := 9) (l' := [(0, .inr (.inr 361)), (1, .inr (.inr 18)), (2, .inl a), (3, .inl b)]) (st' := [.inr (.inr 361)]) rfl ?_
    refine h_cv (i := 89) (j := 85) (b := 361) (M' := mt_85) (xs := []) (rest := []) rfl rfl rfl rfl (zs_K (x := kx_361) rfl (by decide)) rfl (Nat.le_of_ble_eq_true rfl) (Nat.le_of_ble_eq_true rfl) (by omega) (f_Reader_misplaced (by omega) hI ) ?_
    rintro _ H60 ⟨z63, rfl, g59, hI61, hq62⟩
    have hf64 : fq [(18, 4), (361, 3), (361, 4), (361, 5)] [19, 20, 21] false H H60 := fq_t (fq_rf _ _ _ _) hq62 rfl rfl rfl
    refine k_run 0 (pc' := 12) (l' := [(0, .inr (.inr 361)), (1, .inr (.inr 18)), (2, .inl a), (3, .inl b)]) (st' := [.inl z63]) rfl ?_
    refine h_retz (x := z63) rfl rfl (by omega) ?_
    have g65 : -2147483648 ≤ (H60.1 361 4) ∧ (H60.1 361 4) ≤ 2147483647 := kn (x := kx_361) hI61 rfl 4
    exact ⟨_, rfl, (by omega), hI61, hf64⟩

/-! Reader.addName -/
set_option maxRecDepth 100000 in
theorem f_Reader_addName {d : Nat} (hd : 2 ≤ d) {H : hp} (hI : Inv H) {a : Int} (ha : -2147483648 ≤ a ∧ a ≤ 2147483647) : hG (zs zK) d mt_77 0 (zargs 0 [.inr (.inr 361), .inl a]) [] H (fun r9 H9 => ∃ z : Int, r9 = some (.inl z) ∧ ((0 ≤ z ∧ z ≤ 1) ∧ ((z = 0 ∨ H9.1 361 4 = H.1 361 4))) ∧ Inv H9 ∧ fq [(361, 3), (361, 4), (361, 5)] [] false H H9) := by
  refine k_run 0 (pc' := 0) (l' := [(0, .inr (.inr 361)), (1, .inl a)]) (st' := []) rfl ?_
  refine k_run 1 (pc' := 1) (l' := [(0, .inr (.inr 361)), (1, .inl a)]) (st' := [.inr (.inr 361)]) rfl ?_
  refine k_getr (a := 361) (x := kx_361) rfl rfl rfl (by decide) rfl rfl rfl hI (fun h1 => ?_)
  obtain ⟨t2, et4⟩ : ∃ t9, t9 = H.2 361 8 := ⟨_, rfl⟩
  rw [← et4] at h1 ⊢
  obtain ⟨n5, k3⟩ := (show ∃ n, isT t2 n from h1)
  have k3b := k3.2.2.2.2
  refine k_run 0 (pc' := 4) (l' := [(0, .inr (.inr 361)), (1, .inl a)]) (st' := [.inr (.inr t2)]) rfl ?_
  refine k_get (a := t2) (x := (kTo t2 n5)) (v := .inl (H.1 t2 1)) rfl rfl k3.1 (iT0 k3) rfl rfl rfl ?_
  have g6 : 0 ≤ (H.1 t2 1) ∧ (H.1 t2 1) ≤ n5 := kn hI k3.1 1
  refine k_run 0 (pc' := 7) (l' := [(0, .inr (.inr 361)), (1, .inl a)]) (st' := [.inl (H.1 t2 1)]) rfl ?_
  refine k_run 1 (pc' := 9) (l' := [(0, .inr (.inr 361)), (1, .inl a)]) (st' := [.inl 40, .inl (H.1 t2 1)]) rfl ?_
  refine h_ilt (off := 9) (t := 18) rfl rfl (by omega) (by decide) (fun c7 => ?_) (fun c7 => ?_)
  · refine k_run 0 (pc' := 18) (l' := [(0, .inr (.inr 361)), (1, .inl a)]) (st' := []) rfl ?_
    refine k_run 1 (pc' := 19) (l' := [(0, .inr (.inr 361)), (1, .inl a)]) (st' := [.inr (.inr 361)]) rfl ?_
    refine k_getr (a := 361) (x := kx_361) rfl rfl rfl (by decide) rfl rfl rfl hI (fun h8 => ?_)
    rw [← et4]
    refine k_run 0 (pc' := 22) (l' := [(0, .inr (.inr 361)), (1, .inl a)]) (st' := [.inr (.inr t2)]) rfl ?_
    refine k_run 1 (pc' := 23) (l' := [(0, .inr (.inr 361)), (1, .inl a)]) (st' := [.inl a, .inr (.inr t2)]) rfl ?_
    refine h_cv (i := 222) (j := 52) (b := t2) (M' := mt_52) (xs := [.inl a]) (rest := []) rfl rfl rfl rfl (by rw [zs_K k3.1 (iT0 k3)]; rfl) rfl (Nat.le_of_ble_eq_true rfl) (Nat.le_of_ble_eq_true rfl) (by omega) (k_Term_put (by omega) hI k3 (by omega)) ?_
    rintro _ H10 ⟨rfl, hI11, hq12⟩
    have hf13 : fq [(361, 3), (361, 4), (361, 5)] [] false H H10 := fq_t (fq_rf _ _ _ _) hq12 rfl rfl rfl
    refine k_run 0 (pc' := 26) (l' := [(0, .inr (.inr 361)), (1, .inl a)]) (st' := []) rfl ?_
    refine k_run 3 (pc' := 31) (l' := [(0, .inr (.inr 361)), (1, .inl a)]) (st' := [.inl (H10.1 361 3), .inr (.inr 361)]) rfl ?_
    have g14 : -2147483648 ≤ (H10.1 361 3) ∧ (H10.1 361 3) ≤ 2147483647 := kn (x := kx_361) hI11 rfl 3
    have e15 : (H10.1 361 3) = (H.1 361 3) := (hq12.1 361 3 rfl (by decide) (by decide)).1
    refine k_run 2 (pc' := 33) (l' := [(0, .inr (.inr 361)), (1, .inl a)]) (st' := [.inl ((H10.1 361 3) + 1), .inr (.inr 361)]) rfl ?_
    refine k_putw (a := 361) (x := kx_361) rfl rfl rfl (by decide) (by decide) rfl rfl rfl rfl hI11 rfl (fun H16 hI17 hw18 => ?_)
    have hf20 : fq [(361, 3), (361, 4), (361, 5)] [] false H H16 := fq_w hf13 hw18 (fpo (by decide) rfl)
    refine k_run 0 (pc' := 36) (l' := [(0, .inr (.inr 361)), (1, .inl a)]) (st' := []) rfl ?_
    refine k_run 1 (pc' := 37) (l' := [(0, .inr (.inr 361)), (1, .inl a)]) (st' := [.inl 1]) rfl ?_
    refine h_retz (x := 1) rfl rfl (by decide) ?_
    have g21 : -2147483648 ≤ (H16.1 361 4) ∧ (H16.1 361 4) ≤ 2147483647 := kn (x := kx_361) hI17 rfl 4
    have e22 : (H16.1 361 4) = (H10.1 361 4) := hw18.2 _ _ (fun q => absurd q.2 (by decide))
    have e23 : (H10.1 361 4) = (H.1 361 4) := (hq12.1 361 4 rfl (by decide) (by decide)).1
    exact ⟨_, rfl, (by omega), hI17, hf20⟩
  · refine k_run 0 (pc' := 12) (l' := [(0, .inr (.inr 361)), (1, .inl a)]) (st' := []) rfl ?_
    refine k_run 2 (pc' := 14) (l' := [(0, .inr (.inr 361)), (1, .inl a)]) (st' := [.inl 5, .inr (.inr 361)]) rfl ?_
    refine h_cv (i := 128) (j := 86) (b := 361) (M' := mt_86) (xs := [.inl 5]) (rest := []) rfl rfl rfl rfl (zs_K (x := kx_361) rfl (by decide)) rfl (Nat.le_of_ble_eq_true rfl) (Nat.le_of_ble_eq_true rfl) (by omega) (f_Reader_fails (by omega) hI (by decide)) ?_
    rintro _ H25 ⟨z28, rfl, g24, hI26, hq27⟩
    have hf29 : fq [(361, 3), (361, 4), (361, 5)] [] false H H25 := fq_t (fq_rf _ _ _ _) hq27 rfl rfl rfl
    refine k_run 0 (pc' := 17) (l' := [(0, .inr (.inr 361)), (1, .inl a)]) (st' := [.inl z28]) rfl ?_
    refine h_retz (x := z28) rfl rfl (by omega) ?_
    have g30 : -2147483648 ≤ (H25.1 361 4) ∧ (H25.1 361 4) ≤ 2147483647 := kn (x := kx_361) hI26 rfl 4
    exact ⟨_, rfl, (by omega), hI26, hf29⟩

/-! Reader.tellVariable -/
set_option maxRecDepth 100000 in
theorem f_Reader_tellVariable {d : Nat} (hd : 2 ≤ d) {H : hp} (hI : Inv H) {a : Int} (ha : -2147483648 ≤ a ∧ a ≤ 2147483647) (hp0 : -2 ≤ a ∧ a ≤ 100) : hG (zs zK) d mt_76 0 (zargs 0 [.inr (.inr 361), .inl a]) [] H (fun r9 H9 => ∃ z : Int, r9 = some (.inl z) ∧ ((-2147483648 ≤ z ∧ z ≤ 2147483647) ∧ ((0 ≤ z ∧ z ≤ 40) ∧ H9.1 361 4 = H.1 361 4)) ∧ Inv H9 ∧ fq [(361, 9)] [362] true H H9) := by
  refine k_run 0 (pc' := 0) (l' := [(0, .inr (.inr 361)), (1, .inl a)]) (st' := []) rfl ?_
  refine k_run 2 (pc' := 4) (l' := [(0, .inr (.inr 361)), (1, .inl a)]) (st' := [.inl (H.1 361 9)]) rfl ?_
  have g1 : 0 ≤ (H.1 361 9) ∧ (H.1 361 9) ≤ 40 := kn (x := kx_361) hI rfl 9
  refine k_run 4 (pc' := 10) (l' := [(0, .inr (.inr 361)), (1, .inl a), (2, .inl (H.1 361 9))]) (st' := [.inr (.inr 362), .inl (H.1 361 9)]) rfl ?_
  refine k_alen (c := 362) (x := kx_362) rfl rfl (by decide) rfl ?_
  refine k_run 0 (pc' := 11) (l' := [(0, .inr (.inr 361)), (1, .inl a), (2, .inl (H.1 361 9))]) (st' := [.inl 40, .inl (H.1 361 9)]) rfl ?_
  refine h_ige (off := 33) (t := 44) rfl rfl (by omega) (by decide) (fun c2 => ?_) (fun c2 => ?_)
  · refine k_run 0 (pc' := 44) (l' := [(0, .inr (.inr 361)), (1, .inl a), (2, .inl (H.1 361 9))]) (st' := []) rfl ?_
    refine k_run 1 (pc' := 45) (l' := [(0, .inr (.inr 361)), (1, .inl a), (2, .inl (H.1 361 9))]) (st' := [.inl (H.1 361 9)]) rfl ?_
    refine h_reti (x := (H.1 361 9)) rfl rfl ?_
    have g3 : -2147483648 ≤ (H.1 361 4) ∧ (H.1 361 4) ≤ 2147483647 := kn (x := kx_361) hI rfl 4
    exact ⟨_, rfl, (by omega), hI, (fq_rf _ _ _ _)⟩
  · refine k_run 0 (pc' := 14) (l' := [(0, .inr (.inr 361)), (1, .inl a), (2, .inl (H.1 361 9))]) (st' := []) rfl ?_
    refine k_run 4 (pc' := 20) (l' := [(0, .inr (.inr 361)), (1, .inl a), (2, .inl (H.1 361 9))]) (st' := [.inr (.inr 361), .inl (H.1 361 9), .inr (.inr 362)]) rfl ?_
    refine h_cv (i := 120) (j := 84) (b := 361) (M' := mt_84) (xs := []) (rest := [.inl (H.1 361 9), .inr (.inr 362)]) rfl rfl rfl rfl (zs_K (x := kx_361) rfl (by decide)) rfl (Nat.le_of_ble_eq_true rfl) (Nat.le_of_ble_eq_true rfl) (by omega) (f_Reader_name (by omega) hI ) ?_
    rintro _ _ ⟨z8, rfl, g4, rfl⟩
    refine k_run 0 (pc' := 23) (l' := [(0, .inr (.inr 361)), (1, .inl a), (2, .inl (H.1 361 9))]) (st' := [.inr (.inl z8), .inl (H.1 361 9), .inr (.inr 362)]) rfl ?_
    refine k_lst (c := 362) (j := ((H.1 361 9)).toNat) (i := (H.1 361 9)) (x := kx_362) rfl rfl (by decide) (by decide) rfl (by decide) (by omega) (by omega) hI rfl (fun H9 hI10 hw11 => ?_)
    have hf13 : fq [(361, 9)] [362] true H H9 := fq_w (fq_rf _ _ _ _) hw11 (fpa (by decide) rfl)
    refine k_run 0 (pc' := 24) (l' := [(0, .inr (.inr 361)), (1, .inl a), (2, .inl (H.1 361 9))]) (st' := []) rfl ?_
    refine k_run 1 (pc' := 25) (l' := [(0, .inr (.inr 361)), (1, .inl a), (2, .inl (H.1 361 9))]) (st' := [.inr (.inr 361)]) rfl ?_
    refine k_getr (a := 361) (x := kx_361) rfl rfl rfl (by decide) rfl rfl rfl hI10 (fun h14 => ?_)
    obtain ⟨t15, et17⟩ : ∃ t9, t9 = H9.2 361 7 := ⟨_, rfl⟩
    rw [← et17] at h14 ⊢
    have k16 : isE t15 := h14
    refine k_run 0 (pc' := 28) (l' := [(0, .inr (.inr 361)), (1, .inl a), (2, .inl (H.1 361 9))]) (st' := [.inr (.inr t15)]) rfl ?_
    refine k_get (a := t15) (x := (kEo t15)) (v := .inr (.inr (t15 + 5))) rfl rfl k16.1 (iE0 k16) rfl rfl rfl ?_
    refine k_run 0 (pc' := 31) (l' := [(0, .inr (.inr 361)), (1, .inl a), (2, .inl (H.1 361 9))]) (st' := [.inr (.inr (t15 + 5))]) rfl ?_
    refine k_run 2 (pc' := 33) (l' := [(0, .inr (.inr 361)), (1, .inl a), (2, .inl (H.1 361 9))]) (st' := [.inl a, .inl (H.1 361 9), .inr (.inr (t15 + 5))]) rfl ?_
    refine k_ist (z := a) (c := (t15 + 5)) (j := ((H.1 361 9)).toNat) (i := (H.1 361 9)) (x := kEt) rfl k16.2.1 (iE5 k16) (by omega) rfl (by decide) (by omega) (by omega) hI10 (by omega) (show -2 ≤ a ∧ a ≤ 100 by omega) (fun H18 hI19 hw20 hv21 => ?_)
    have hf22 : fq [(361, 9)] [362] true H H18 := fq_w hf13 hw20 (fpg (iEg k16))
    refine k_run 0 (pc' := 34) (l' := [(0, .inr (.inr 361)), (1, .inl a), (2, .inl (H.1 361 9))]) (st' := []) rfl ?_
    refine k_run 3 (pc' := 39) (l' := [(0, .inr (.inr 361)), (1, .inl a), (2, .inl (H.1 361 9))]) (st' := [.inl (H18.1 361 9), .inr (.inr 361)]) rfl ?_
    have g23 : 0 ≤ (H18.1 361 9) ∧ (H18.1 361 9) ≤ 40 := kn (x := kx_361) hI19 rfl 9
    have e24 : (H18.1 361 9) = (H9.1 361 9) := hw20.2 _ _ (fun q => by have h9 := (iEg k16); rw [← q.1] at h9; exact absurd h9 (by decide))
    have e25 : (H9.1 361 9) = (H.1 361 9) := hw11.2 _ _ (fun q => absurd q.1 (by decide))
    refine k_run 2 (pc' := 41) (l' := [(0, .inr (.inr 361)), (1, .inl a), (2, .inl (H.1 361 9))]) (st' := [.inl ((H18.1 361 9) + 1), .inr (.inr 361)]) rfl ?_
    refine k_puti (z := ((H18.1 361 9) + 1)) (a := 361) (x := kx_361) rfl rfl rfl (by decide) (by decide) rfl rfl rfl rfl hI19 (by omega) (show 0 ≤ ((H18.1 361 9) + 1) ∧ ((H18.1 361 9) + 1) ≤ 40 by omega) (fun H26 hI27 hw28 hv29 => ?_)
    have hf30 : fq [(361, 9)] [362] true H H26 := fq_w hf22 hw28 (fpo (by decide) rfl)
    refine k_run 0 (pc' := 44) (l' := [(0, .inr (.inr 361)), (1, .inl a), (2, .inl (H.1 361 9))]) (st' := []) rfl ?_
    refine k_run 1 (pc' := 45) (l' := [(0, .inr (.inr 361)), (1, .inl a), (2, .inl (H.1 361 9))]) (st' := [.inl (H.1 361 9)]) rfl ?_
    refine h_reti (x := (H.1 361 9)) rfl rfl ?_
    have g31 : -2147483648 ≤ (H26.1 361 4) ∧ (H26.1 361 4) ≤ 2147483647 := kn (x := kx_361) hI27 rfl 4
    have e32 : (H26.1 361 4) = (H18.1 361 4) := hw28.2 _ _ (fun q => absurd q.2 (by decide))
    have e33 : (H18.1 361 4) = (H9.1 361 4) := hw20.2 _ _ (fun q => by have h9 := (iEg k16); rw [← q.1] at h9; exact absurd h9 (by decide))
    have e34 : (H9.1 361 4) = (H.1 361 4) := hw11.2 _ _ (fun q => absurd q.1 (by decide))
    exact ⟨_, rfl, (by omega), hI27, hf30⟩

/-! Reader.readVariable -/
set_option maxRecDepth 100000 in
theorem f_Reader_readVariable {d : Nat} (hd : 3 ≤ d) {H : hp} (hI : Inv H) {a : Int} (ha : -2147483648 ≤ a ∧ a ≤ 2147483647) (hp0 : -2 ≤ a ∧ a ≤ 100) : hG (zs zK) d mt_75 0 (zargs 0 [.inr (.inr 361), .inl a]) [] H (fun r9 H9 => ∃ z : Int, r9 = some (.inl z) ∧ ((0 ≤ z ∧ z ≤ 1) ∧ ((z = 0 ∨ H9.1 361 4 = H.1 361 4))) ∧ Inv H9 ∧ fq [(361, 3), (361, 4), (361, 5), (361, 9)] [362] true H H9) := by
  refine k_run 0 (pc' := 0) (l' := [(0, .inr (.inr 361)), (1, .inl a)]) (st' := []) rfl ?_
  refine k_run 2 (pc' := 3) (l' := [(0, .inr (.inr 361)), (1, .inl a)]) (st' := [.inl (-2), .inl a]) rfl ?_
  refine h_ine (off := 9) (t := 12) rfl rfl (by omega) (by decide) (fun c1 => ?_) (fun c1 => ?_)
  · refine k_run 0 (pc' := 12) (l' := [(0, .inr (.inr 361)), (1, .inl a)]) (st' := []) rfl ?_
    refine k_run 2 (pc' := 16) (l' := [(0, .inr (.inr 361)), (1, .inl a)]) (st' := [.inl (H.1 361 6)]) rfl ?_
    have g2 : -2147483648 ≤ (H.1 361 6) ∧ (H.1 361 6) ≤ 2147483647 := kn (x := kx_361) hI rfl 6
    refine k_run 1 (pc' := 17) (l' := [(0, .inr (.inr 361)), (1, .inl a)]) (st' := [.inl 2, .inl (H.1 361 6)]) rfl ?_
    refine h_ine (off := 7) (t := 24) rfl rfl (by omega) (by decide) (fun c3 => ?_) (fun c3 => ?_)
    · refine k_run 0 (pc' := 24) (l' := [(0, .inr (.inr 361)), (1, .inl a)]) (st' := []) rfl ?_
      refine k_run 1 (pc' := 25) (l' := [(0, .inr (.inr 361)), (1, .inl a)]) (st' := [.inr (.inr 361)]) rfl ?_
      refine h_cv (i := 203) (j := 79) (b := 361) (M' := mt_79) (xs := []) (rest := []) rfl rfl rfl rfl (zs_K (x := kx_361) rfl (by decide)) rfl (Nat.le_of_ble_eq_true rfl) (Nat.le_of_ble_eq_true rfl) (by omega) (f_Reader_findVariable (by omega) hI ) ?_
      rintro _ _ ⟨z8, rfl, g4, rfl⟩
      refine k_run 0 (pc' := 28) (l' := [(0, .inr (.inr 361)), (1, .inl a)]) (st' := [.inl z8]) rfl ?_
      refine k_run 2 (pc' := 30) (l' := [(0, .inr (.inr 361)), (1, .inl a), (2, .inl z8)]) (st' := [.inl z8]) rfl ?_
      refine h_zge (off := 17) (t := 47) rfl rfl (by omega) (fun c9 => ?_) (fun c9 => ?_)
      · refine k_run 0 (pc' := 47) (l' := [(0, .inr (.inr 361)), (1, .inl a), (2, .inl z8)]) (st' := []) rfl ?_
        refine k_run 1 (pc' := 48) (l' := [(0, .inr (.inr 361)), (1, .inl a), (2, .inl z8)]) (st' := [.inl z8]) rfl ?_
        refine h_zlt (off := 22) (t := 70) rfl rfl (by omega) (fun c10 => ?_) (fun c10 => ?_)
        · exfalso
          omega
        · refine k_run 0 (pc' := 51) (l' := [(0, .inr (.inr 361)), (1, .inl a), (2, .inl z8)]) (st' := []) rfl ?_
          refine k_run 1 (pc' := 52) (l' := [(0, .inr (.inr 361)), (1, .inl a), (2, .inl z8)]) (st' := [.inr (.inr 361)]) rfl ?_
          refine k_getr (a := 361) (x := kx_361) rfl rfl rfl (by decide) rfl rfl rfl hI (fun h11 => ?_)
          obtain ⟨t12, et14⟩ : ∃ t9, t9 = H.2 361 7 := ⟨_, rfl⟩
          rw [← et14] at h11 ⊢
          have k13 : isE t12 := h11
          refine k_run 0 (pc' := 55) (l' := [(0, .inr (.inr 361)), (1, .inl a), (2, .inl z8)]) (st' := [.inr (.inr t12)]) rfl ?_
          refine k_get (a := t12) (x := (kEo t12)) (v := .inr (.inr (t12 + 5))) rfl rfl k13.1 (iE0 k13) rfl rfl rfl ?_
          refine k_run 0 (pc' := 58) (l' := [(0, .inr (.inr 361)), (1, .inl a), (2, .inl z8)]) (st' := [.inr (.inr (t12 + 5))]) rfl ?_
          refine k_run 1 (pc' := 59) (l' := [(0, .inr (.inr 361)), (1, .inl a), (2, .inl z8)]) (st' := [.inl z8, .inr (.inr (t12 + 5))]) rfl ?_
          refine k_ild (c := (t12 + 5)) (j := (z8).toNat) (i := z8) (x := kEt) rfl k13.2.1 (iE5 k13) rfl (by decide) (by omega) (by omega) ?_
          have g15 : -2 ≤ (H.1 (t12 + 5) (z8).toNat) ∧ (H.1 (t12 + 5) (z8).toNat) ≤ 100 := kn hI k13.2.1 (z8).toNat
          refine k_run 0 (pc' := 60) (l' := [(0, .inr (.inr 361)), (1, .inl a), (2, .inl z8)]) (st' := [.inl (H.1 (t12 + 5) (z8).toNat)]) rfl ?_
          refine k_run 1 (pc' := 61) (l' := [(0, .inr (.inr 361)), (1, .inl a), (2, .inl z8)]) (st' := [.inl a, .inl (H.1 (t12 + 5) (z8).toNat)]) rfl ?_
          refine h_ieq (off := 9) (t := 70) rfl rfl (by omega) (by omega) (fun c16 => ?_) (fun c16 => ?_)
          · refine k_run 0 (pc' := 70) (l' := [(0, .inr (.inr 361)), (1, .inl a), (2, .inl z8)]) (st' := []) rfl ?_
            refine k_run 1 (pc' := 71) (l' := [(0, .inr (.inr 361)), (1, .inl a), (2, .inl z8)]) (st' := [.inl z8]) rfl ?_
            refine h_zge (off := 18) (t := 89) rfl rfl (by omega) (fun c17 => ?_) (fun c17 => ?_)
            · refine k_run 0 (pc' := 89) (l' := [(0, .inr (.inr 361)), (1, .inl a), (2, .inl z8)]) (st' := []) rfl ?_
              refine k_run 3 (pc' := 92) (l' := [(0, .inr (.inr 361)), (1, .inl a), (2, .inl z8)]) (st' := [.inl z8, .inl 3, .inr (.inr 361)]) rfl ?_
              refine h_zge (off := 11) (t := 103) rfl rfl (by omega) (fun c18 => ?_) (fun c18 => ?_)
              · refine k_run 0 (pc' := 103) (l' := [(0, .inr (.inr 361)), (1, .inl a), (2, .inl z8)]) (st' := [.inl 3, .inr (.inr 361)]) rfl ?_
                refine k_run 2 (pc' := 105) (l' := [(0, .inr (.inr 361)), (1, .inl a), (2, .inl z8)]) (st' := [.inl 0, .inl z8, .inl 3, .inr (.inr 361)]) rfl ?_
                refine h_cs (i := 153) (j := 48) (M' := mt_48) (xs := [.inl 0, .inl z8, .inl 3]) (rest := [.inr (.inr 361)]) rfl rfl rfl rfl rfl (Nat.le_of_ble_eq_true rfl) (Nat.le_of_ble_eq_true rfl) (by omega) (k_Term_codeOf (by omega)  (by decide) (by omega) (by decide)) ?_
                rintro _ _ ⟨z23, rfl, g19, rfl⟩
                refine k_run 0 (pc' := 108) (l' := [(0, .inr (.inr 361)), (1, .inl a), (2, .inl z8)]) (st' := [.inl z23, .inr (.inr 361)]) rfl ?_
                refine h_cv (i := 157) (j := 77) (b := 361) (M' := mt_77) (xs := [.inl z23]) (rest := []) rfl rfl rfl rfl (zs_K (x := kx_361) rfl (by decide)) rfl (Nat.le_of_ble_eq_true rfl) (Nat.le_of_ble_eq_true rfl) (by omega) (f_Reader_addName (by omega) hI (by omega)) ?_
                rintro _ H25 ⟨z28, rfl, g24, hI26, hq27⟩
                have hf29 : fq [(361, 3), (361, 4), (361, 5), (361, 9)] [362] true H H25 := fq_t (fq_rf _ _ _ _) hq27 rfl rfl rfl
                refine k_run 0 (pc' := 111) (l' := [(0, .inr (.inr 361)), (1, .inl a), (2, .inl z8)]) (st' := [.inl z28]) rfl ?_
                refine h_retz (x := z28) rfl rfl (by omega) ?_
                have g30 : -2147483648 ≤ (H25.1 361 4) ∧ (H25.1 361 4) ≤ 2147483647 := kn (x := kx_361) hI26 rfl 4
                exact ⟨_, rfl, (by omega), hI26, hf29⟩
              · exfalso
                omega
            · exfalso
              omega
          · refine k_run 0 (pc' := 64) (l' := [(0, .inr (.inr 361)), (1, .inl a), (2, .inl z8)]) (st' := []) rfl ?_
            refine k_run 2 (pc' := 66) (l' := [(0, .inr (.inr 361)), (1, .inl a), (2, .inl z8)]) (st' := [.inl 4, .inr (.inr 361)]) rfl ?_
            refine h_cv (i := 128) (j := 86) (b := 361) (M' := mt_86) (xs := [.inl 4]) (rest := []) rfl rfl rfl rfl (zs_K (x := kx_361) rfl (by decide)) rfl (Nat.le_of_ble_eq_true rfl) (Nat.le_of_ble_eq_true rfl) (by omega) (f_Reader_fails (by omega) hI (by decide)) ?_
            rintro _ H32 ⟨z35, rfl, g31, hI33, hq34⟩
            have hf36 : fq [(361, 3), (361, 4), (361, 5), (361, 9)] [362] true H H32 := fq_t (fq_rf _ _ _ _) hq34 rfl rfl rfl
            refine k_run 0 (pc' := 69) (l' := [(0, .inr (.inr 361)), (1, .inl a), (2, .inl z8)]) (st' := [.inl z35]) rfl ?_
            refine h_retz (x := z35) rfl rfl (by omega) ?_
            have g37 : -2147483648 ≤ (H32.1 361 4) ∧ (H32.1 361 4) ≤ 2147483647 := kn (x := kx_361) hI33 rfl 4
            exact ⟨_, rfl, (by omega), hI33, hf36⟩
      · refine k_run 0 (pc' := 33) (l' := [(0, .inr (.inr 361)), (1, .inl a), (2, .inl z8)]) (st' := []) rfl ?_
        refine k_run 3 (pc' := 38) (l' := [(0, .inr (.inr 361)), (1, .inl a), (2, .inl z8)]) (st' := [.inl 1, .inl (H.1 361 6)]) rfl ?_
        refine h_ieq (off := 9) (t := 47) rfl rfl (by omega) (by decide) (fun c38 => ?_) (fun c38 => ?_)
        · refine k_run 0 (pc' := 47) (l' := [(0, .inr (.inr 361)), (1, .inl a), (2, .inl z8)]) (st' := []) rfl ?_
          refine k_run 1 (pc' := 48) (l' := [(0, .inr (.inr 361)), (1, .inl a), (2, .inl z8)]) (st' := [.inl z8]) rfl ?_
          refine h_zlt (off := 22) (t := 70) rfl rfl (by omega) (fun c39 => ?_) (fun c39 => ?_)
          · refine k_run 0 (pc' := 70) (l' := [(0, .inr (.inr 361)), (1, .inl a), (2, .inl z8)]) (st' := []) rfl ?_
            refine k_run 1 (pc' := 71) (l' := [(0, .inr (.inr 361)), (1, .inl a), (2, .inl z8)]) (st' := [.inl z8]) rfl ?_
            refine h_zge (off := 18) (t := 89) rfl rfl (by omega) (fun c40 => ?_) (fun c40 => ?_)
            · exfalso
              omega
            · refine k_run 0 (pc' := 74) (l' := [(0, .inr (.inr 361)), (1, .inl a), (2, .inl z8)]) (st' := []) rfl ?_
              refine k_run 2 (pc' := 78) (l' := [(0, .inr (.inr 361)), (1, .inl a), (2, .inl z8)]) (st' := [.inl (H.1 361 9)]) rfl ?_
              have g41 : 0 ≤ (H.1 361 9) ∧ (H.1 361 9) ≤ 40 := kn (x := kx_361) hI rfl 9
              refine k_run 1 (pc' := 80) (l' := [(0, .inr (.inr 361)), (1, .inl a), (2, .inl z8)]) (st' := [.inl 6, .inl (H.1 361 9)]) rfl ?_
              refine h_ilt (off := 9) (t := 89) rfl rfl (by omega) (by decide) (fun c42 => ?_) (fun c42 => ?_)
              · refine k_run 0 (pc' := 89) (l' := [(0, .inr (.inr 361)), (1, .inl a), (2, .inl z8)]) (st' := []) rfl ?_
                refine k_run 3 (pc' := 92) (l' := [(0, .inr (.inr 361)), (1, .inl a), (2, .inl z8)]) (st' := [.inl z8, .inl 3, .inr (.inr 361)]) rfl ?_
                refine h_zge (off := 11) (t := 103) rfl rfl (by omega) (fun c43 => ?_) (fun c43 => ?_)
                · exfalso
                  omega
                · refine k_run 0 (pc' := 95) (l' := [(0, .inr (.inr 361)), (1, .inl a), (2, .inl z8)]) (st' := [.inl 3, .inr (.inr 361)]) rfl ?_
                  refine k_run 2 (pc' := 97) (l' := [(0, .inr (.inr 361)), (1, .inl a), (2, .inl z8)]) (st' := [.inl a, .inr (.inr 361), .inl 3, .inr (.inr 361)]) rfl ?_
                  refine h_cv (i := 206) (j := 76) (b := 361) (M' := mt_76) (xs := [.inl a]) (rest := [.inl 3, .inr (.inr 361)]) rfl rfl rfl rfl (zs_K (x := kx_361) rfl (by decide)) rfl (Nat.le_of_ble_eq_true rfl) (Nat.le_of_ble_eq_true rfl) (by omega) (f_Reader_tellVariable (by omega) hI (by omega) (by omega)) ?_
                  rintro _ H45 ⟨z48, rfl, g44, hI46, hq47⟩
                  have hf49 : fq [(361, 3), (361, 4), (361, 5), (361, 9)] [362] true H H45 := fq_t (fq_rf _ _ _ _) hq47 rfl rfl rfl
                  refine k_run 0 (pc' := 100) (l' := [(0, .inr (.inr 361)), (1, .inl a), (2, .inl z8)]) (st' := [.inl z48, .inl 3, .inr (.inr 361)]) rfl ?_
                  refine k_run 2 (pc' := 105) (l' := [(0, .inr (.inr 361)), (1, .inl a), (2, .inl z8)]) (st' := [.inl 0, .inl z48, .inl 3, .inr (.inr 361)]) rfl ?_
                  refine h_cs (i := 153) (j := 48) (M' := mt_48) (xs := [.inl 0, .inl z48, .inl 3]) (rest := [.inr (.inr 361)]) rfl rfl rfl rfl rfl (Nat.le_of_ble_eq_true rfl) (Nat.le_of_ble_eq_true rfl) (by omega) (k_Term_codeOf (by omega)  (by decide) (by omega) (by decide)) ?_
                  rintro _ _ ⟨z54, rfl, g50, rfl⟩
                  refine k_run 0 (pc' := 108) (l' := [(0, .inr (.inr 361)), (1, .inl a), (2, .inl z8)]) (st' := [.inl z54, .inr (.inr 361)]) rfl ?_
                  refine h_cv (i := 157) (j := 77) (b := 361) (M' := mt_77) (xs := [.inl z54]) (rest := []) rfl rfl rfl rfl (zs_K (x := kx_361) rfl (by decide)) rfl (Nat.le_of_ble_eq_true rfl) (Nat.le_of_ble_eq_true rfl) (by omega) (f_Reader_addName (by omega) hI46 (by omega)) ?_
                  rintro _ H56 ⟨z59, rfl, g55, hI57, hq58⟩
                  have hf60 : fq [(361, 3), (361, 4), (361, 5), (361, 9)] [362] true H H56 := fq_t hf49 hq58 rfl rfl rfl
                  refine k_run 0 (pc' := 111) (l' := [(0, .inr (.inr 361)), (1, .inl a), (2, .inl z8)]) (st' := [.inl z59]) rfl ?_
                  refine h_retz (x := z59) rfl rfl (by omega) ?_
                  have g61 : -2147483648 ≤ (H56.1 361 4) ∧ (H56.1 361 4) ≤ 2147483647 := kn (x := kx_361) hI57 rfl 4
                  exact ⟨_, rfl, (by omega), hI57, hf60⟩
              · refine k_run 0 (pc' := 83) (l' := [(0, .inr (.inr 361)), (1, .inl a), (2, .inl z8)]) (st' := []) rfl ?_
                refine k_run 2 (pc' := 85) (l' := [(0, .inr (.inr 361)), (1, .inl a), (2, .inl z8)]) (st' := [.inl 5, .inr (.inr 361)]) rfl ?_
                refine h_cv (i := 128) (j := 86) (b := 361) (M' := mt_86) (xs := [.inl 5]) (rest := []) rfl rfl rfl rfl (zs_K (x := kx_361) rfl (by decide)) rfl (Nat.le_of_ble_eq_true rfl) (Nat.le_of_ble_eq_true rfl) (by omega) (f_Reader_fails (by omega) hI (by decide)) ?_
                rintro _ H63 ⟨z66, rfl, g62, hI64, hq65⟩
                have hf67 : fq [(361, 3), (361, 4), (361, 5), (361, 9)] [362] true H H63 := fq_t (fq_rf _ _ _ _) hq65 rfl rfl rfl
                refine k_run 0 (pc' := 88) (l' := [(0, .inr (.inr 361)), (1, .inl a), (2, .inl z8)]) (st' := [.inl z66]) rfl ?_
                refine h_retz (x := z66) rfl rfl (by omega) ?_
                have g68 : -2147483648 ≤ (H63.1 361 4) ∧ (H63.1 361 4) ≤ 2147483647 := kn (x := kx_361) hI64 rfl 4
                exact ⟨_, rfl, (by omega), hI64, hf67⟩
          · exfalso
            omega
        · refine k_run 0 (pc' := 41) (l' := [(0, .inr (.inr 361)), (1, .inl a), (2, .inl z8)]) (st' := []) rfl ?_
          refine k_run 2 (pc' := 43) (l' := [(0, .inr (.inr 361)), (1, .inl a), (2, .inl z8)]) (st' := [.inl 3, .inr (.inr 361)]) rfl ?_
          refine h_cv (i := 128) (j := 86) (b := 361) (M' := mt_86) (xs := [.inl 3]) (rest := []) rfl rfl rfl rfl (zs_K (x := kx_361) rfl (by decide)) rfl (Nat.le_of_ble_eq_true rfl) (Nat.le_of_ble_eq_true rfl) (by omega) (f_Reader_fails (by omega) hI (by decide)) ?_
          rintro _ H70 ⟨z73, rfl, g69, hI71, hq72⟩
          have hf74 : fq [(361, 3), (361, 4), (361, 5), (361, 9)] [362] true H H70 := fq_t (fq_rf _ _ _ _) hq72 rfl rfl rfl
          refine k_run 0 (pc' := 46) (l' := [(0, .inr (.inr 361)), (1, .inl a), (2, .inl z8)]) (st' := [.inl z73]) rfl ?_
          refine h_retz (x := z73) rfl rfl (by omega) ?_
          have g75 : -2147483648 ≤ (H70.1 361 4) ∧ (H70.1 361 4) ≤ 2147483647 := kn (x := kx_361) hI71 rfl 4
          exact ⟨_, rfl, (by omega), hI71, hf74⟩
    · refine k_run 0 (pc' := 20) (l' := [(0, .inr (.inr 361)), (1, .inl a)]) (st' := []) rfl ?_
      refine k_run 4 (pc' := 30) (l' := [(0, .inr (.inr 361)), (1, .inl a), (2, .inl (-1))]) (st' := [.inl (-1)]) rfl ?_
      refine h_zge (off := 17) (t := 47) rfl rfl (by decide) (fun c => absurd c (by decide)) (fun _ => ?_)
      refine k_run 0 (pc' := 33) (l' := [(0, .inr (.inr 361)), (1, .inl a), (2, .inl (-1))]) (st' := []) rfl ?_
      refine k_run 3 (pc' := 38) (l' := [(0, .inr (.inr 361)), (1, .inl a), (2, .inl (-1))]) (st' := [.inl 1, .inl (H.1 361 6)]) rfl ?_
      refine h_ieq (off := 9) (t := 47) rfl rfl (by omega) (by decide) (fun c76 => ?_) (fun c76 => ?_)
      · refine k_run 0 (pc' := 47) (l' := [(0, .inr (.inr 361)), (1, .inl a), (2, .inl (-1))]) (st' := []) rfl ?_
        refine k_run 1 (pc' := 48) (l' := [(0, .inr (.inr 361)), (1, .inl a), (2, .inl (-1))]) (st' := [.inl (-1)]) rfl ?_
        refine h_zlt (off := 22) (t := 70) rfl rfl (by decide) (fun _ => ?_) (fun c => absurd c (by decide))
        refine k_run 0 (pc' := 70) (l' := [(0, .inr (.inr 361)), (1, .inl a), (2, .inl (-1))]) (st' := []) rfl ?_
        refine k_run 1 (pc' := 71) (l' := [(0, .inr (.inr 361)), (1, .inl a), (2, .inl (-1))]) (st' := [.inl (-1)]) rfl ?_
        refine h_zge (off := 18) (t := 89) rfl rfl (by decide) (fun c => absurd c (by decide)) (fun _ => ?_)
        refine k_run 0 (pc' := 74) (l' := [(0, .inr (.inr 361)), (1, .inl a), (2, .inl (-1))]) (st' := []) rfl ?_
        refine k_run 2 (pc' := 78) (l' := [(0, .inr (.inr 361)), (1, .inl a), (2, .inl (-1))]) (st' := [.inl (H.1 361 9)]) rfl ?_
        have g77 : 0 ≤ (H.1 361 9) ∧ (H.1 361 9) ≤ 40 := kn (x := kx_361) hI rfl 9
        refine k_run 1 (pc' := 80) (l' := [(0, .inr (.inr 361)), (1, .inl a), (2, .inl (-1))]) (st' := [.inl 6, .inl (H.1 361 9)]) rfl ?_
        refine h_ilt (off := 9) (t := 89) rfl rfl (by omega) (by decide) (fun c78 => ?_) (fun c78 => ?_)
        · refine k_run 0 (pc' := 89) (l' := [(0, .inr (.inr 361)), (1, .inl a), (2, .inl (-1))]) (st' := []) rfl ?_
          refine k_run 3 (pc' := 92) (l' := [(0, .inr (.inr 361)), (1, .inl a), (2, .inl (-1))]) (st' := [.inl (-1), .inl 3, .inr (.inr 361)]) rfl ?_
          refine h_zge (off := 11) (t := 103) rfl rfl (by decide) (fun c => absurd c (by decide)) (fun _ => ?_)
          refine k_run 0 (pc' := 95) (l' := [(0, .inr (.inr 361)), (1, .inl a), (2, .inl (-1))]) (st' := [.inl 3, .inr (.inr 361)]) rfl ?_
          refine k_run 2 (pc' := 97) (l' := [(0, .inr (.inr 361)), (1, .inl a), (2, .inl (-1))]) (st' := [.inl a, .inr (.inr 361), .inl 3, .inr (.inr 361)]) rfl ?_
          refine h_cv (i := 206) (j := 76) (b := 361) (M' := mt_76) (xs := [.inl a]) (rest := [.inl 3, .inr (.inr 361)]) rfl rfl rfl rfl (zs_K (x := kx_361) rfl (by decide)) rfl (Nat.le_of_ble_eq_true rfl) (Nat.le_of_ble_eq_true rfl) (by omega) (f_Reader_tellVariable (by omega) hI (by omega) (by omega)) ?_
          rintro _ H80 ⟨z83, rfl, g79, hI81, hq82⟩
          have hf84 : fq [(361, 3), (361, 4), (361, 5), (361, 9)] [362] true H H80 := fq_t (fq_rf _ _ _ _) hq82 rfl rfl rfl
          refine k_run 0 (pc' := 100) (l' := [(0, .inr (.inr 361)), (1, .inl a), (2, .inl (-1))]) (st' := [.inl z83, .inl 3, .inr (.inr 361)]) rfl ?_
          refine k_run 2 (pc' := 105) (l' := [(0, .inr (.inr 361)), (1, .inl a), (2, .inl (-1))]) (st' := [.inl 0, .inl z83, .inl 3, .inr (.inr 361)]) rfl ?_
          refine h_cs (i := 153) (j := 48) (M' := mt_48) (xs := [.inl 0, .inl z83, .inl 3]) (rest := [.inr (.inr 361)]) rfl rfl rfl rfl rfl (Nat.le_of_ble_eq_true rfl) (Nat.le_of_ble_eq_true rfl) (by omega) (k_Term_codeOf (by omega)  (by decide) (by omega) (by decide)) ?_
          rintro _ _ ⟨z89, rfl, g85, rfl⟩
          refine k_run 0 (pc' := 108) (l' := [(0, .inr (.inr 361)), (1, .inl a), (2, .inl (-1))]) (st' := [.inl z89, .inr (.inr 361)]) rfl ?_
          refine h_cv (i := 157) (j := 77) (b := 361) (M' := mt_77) (xs := [.inl z89]) (rest := []) rfl rfl rfl rfl (zs_K (x := kx_361) rfl (by decide)) rfl (Nat.le_of_ble_eq_true rfl) (Nat.le_of_ble_eq_true rfl) (by omega) (f_Reader_addName (by omega) hI81 (by omega)) ?_
          rintro _ H91 ⟨z94, rfl, g90, hI92, hq93⟩
          have hf95 : fq [(361, 3), (361, 4), (361, 5), (361, 9)] [362] true H H91 := fq_t hf84 hq93 rfl rfl rfl
          refine k_run 0 (pc' := 111) (l' := [(0, .inr (.inr 361)), (1, .inl a), (2, .inl (-1))]) (st' := [.inl z94]) rfl ?_
          refine h_retz (x := z94) rfl rfl (by omega) ?_
          have g96 : -2147483648 ≤ (H91.1 361 4) ∧ (H91.1 361 4) ≤ 2147483647 := kn (x := kx_361) hI92 rfl 4
          exact ⟨_, rfl, (by omega), hI92, hf95⟩
        · refine k_run 0 (pc' := 83) (l' := [(0, .inr (.inr 361)), (1, .inl a), (2, .inl (-1))]) (st' := []) rfl ?_
          refine k_run 2 (pc' := 85) (l' := [(0, .inr (.inr 361)), (1, .inl a), (2, .inl (-1))]) (st' := [.inl 5, .inr (.inr 361)]) rfl ?_
          refine h_cv (i := 128) (j := 86) (b := 361) (M' := mt_86) (xs := [.inl 5]) (rest := []) rfl rfl rfl rfl (zs_K (x := kx_361) rfl (by decide)) rfl (Nat.le_of_ble_eq_true rfl) (Nat.le_of_ble_eq_true rfl) (by omega) (f_Reader_fails (by omega) hI (by decide)) ?_
          rintro _ H98 ⟨z101, rfl, g97, hI99, hq100⟩
          have hf102 : fq [(361, 3), (361, 4), (361, 5), (361, 9)] [362] true H H98 := fq_t (fq_rf _ _ _ _) hq100 rfl rfl rfl
          refine k_run 0 (pc' := 88) (l' := [(0, .inr (.inr 361)), (1, .inl a), (2, .inl (-1))]) (st' := [.inl z101]) rfl ?_
          refine h_retz (x := z101) rfl rfl (by omega) ?_
          have g103 : -2147483648 ≤ (H98.1 361 4) ∧ (H98.1 361 4) ≤ 2147483647 := kn (x := kx_361) hI99 rfl 4
          exact ⟨_, rfl, (by omega), hI99, hf102⟩
      · refine k_run 0 (pc' := 41) (l' := [(0, .inr (.inr 361)), (1, .inl a), (2, .inl (-1))]) (st' := []) rfl ?_
        refine k_run 2 (pc' := 43) (l' := [(0, .inr (.inr 361)), (1, .inl a), (2, .inl (-1))]) (st' := [.inl 3, .inr (.inr 361)]) rfl ?_
        refine h_cv (i := 128) (j := 86) (b := 361) (M' := mt_86) (xs := [.inl 3]) (rest := []) rfl rfl rfl rfl (zs_K (x := kx_361) rfl (by decide)) rfl (Nat.le_of_ble_eq_true rfl) (Nat.le_of_ble_eq_true rfl) (by omega) (f_Reader_fails (by omega) hI (by decide)) ?_
        rintro _ H105 ⟨z108, rfl, g104, hI106, hq107⟩
        have hf109 : fq [(361, 3), (361, 4), (361, 5), (361, 9)] [362] true H H105 := fq_t (fq_rf _ _ _ _) hq107 rfl rfl rfl
        refine k_run 0 (pc' := 46) (l' := [(0, .inr (.inr 361)), (1, .inl a), (2, .inl (-1))]) (st' := [.inl z108]) rfl ?_
        refine h_retz (x := z108) rfl rfl (by omega) ?_
        have g110 : -2147483648 ≤ (H105.1 361 4) ∧ (H105.1 361 4) ≤ 2147483647 := kn (x := kx_361) hI106 rfl 4
        exact ⟨_, rfl, (by omega), hI106, hf109⟩
  · refine k_run 0 (pc' := 6) (l' := [(0, .inr (.inr 361)), (1, .inl a)]) (st' := []) rfl ?_
    refine k_run 2 (pc' := 8) (l' := [(0, .inr (.inr 361)), (1, .inl a)]) (st' := [.inl 2, .inr (.inr 361)]) rfl ?_
    refine h_cv (i := 128) (j := 86) (b := 361) (M' := mt_86) (xs := [.inl 2]) (rest := []) rfl rfl rfl rfl (zs_K (x := kx_361) rfl (by decide)) rfl (Nat.le_of_ble_eq_true rfl) (Nat.le_of_ble_eq_true rfl) (by omega) (f_Reader_fails (by omega) hI (by decide)) ?_
    rintro _ H112 ⟨z115, rfl, g111, hI113, hq114⟩
    have hf116 : fq [(361, 3), (361, 4), (361, 5), (361, 9)] [362] true H H112 := fq_t (fq_rf _ _ _ _) hq114 rfl rfl rfl
    refine k_run 0 (pc' := 11) (l' := [(0, .inr (.inr 361)), (1, .inl a)]) (st' := [.inl z115]) rfl ?_
    refine h_retz (x := z115) rfl rfl (by omega) ?_
    have g117 : -2147483648 ≤ (H112.1 361 4) ∧ (H112.1 361 4) ≤ 2147483647 := kn (x := kx_361) hI113 rfl 4
    exact ⟨_, rfl, (by omega), hI113, hf116⟩

/-! Reader.readPatternVariable -/
set_option maxRecDepth 100000 in
theorem f_Reader_readPatternVariable {d : Nat} (hd : 3 ≤ d) {H : hp} (hI : Inv H) {a : Int} (ha : -2147483648 ≤ a ∧ a ≤ 2147483647) (hp0 : -2 ≤ a ∧ a ≤ 100) : hG (zs zK) d mt_71 0 (zargs 0 [.inr (.inr 361), .inl a]) [] H (fun r9 H9 => ∃ z : Int, r9 = some (.inl z) ∧ ((0 ≤ z ∧ z ≤ 1) ∧ ((z = 0 ∨ H9.1 361 4 = H.1 361 4))) ∧ Inv H9 ∧ fq [(361, 3), (361, 4), (361, 5), (361, 9)] [362] true H H9) := by
  refine k_run 0 (pc' := 0) (l' := [(0, .inr (.inr 361)), (1, .inl a)]) (st' := []) rfl ?_
  refine k_run 4 (pc' := 8) (l' := [(0, .inr (.inr 361)), (1, .inl a)]) (st' := [.inr (.inr 361), .inr (.inr 18)]) rfl ?_
  refine h_cv (i := 120) (j := 84) (b := 361) (M' := mt_84) (xs := []) (rest := [.inr (.inr 18)]) rfl rfl rfl rfl (zs_K (x := kx_361) rfl (by decide)) rfl (Nat.le_of_ble_eq_true rfl) (Nat.le_of_ble_eq_true rfl) (by omega) (f_Reader_name (by omega) hI ) ?_
  rintro _ _ ⟨z5, rfl, g1, rfl⟩
  refine k_run 0 (pc' := 11) (l' := [(0, .inr (.inr 361)), (1, .inl a)]) (st' := [.inr (.inl z5), .inr (.inr 18)]) rfl ?_
  have g6 : 0 ≤ (H.1 18 4) ∧ (H.1 18 4) ≤ 16 := kn (x := kx_18) hI rfl 4
  refine h_cv (i := 124) (j := 41) (b := 18) (M' := mt_41) (xs := [.inr (.inl z5)]) (rest := []) rfl rfl rfl rfl (zs_K (x := kx_18) rfl (by decide)) rfl (Nat.le_of_ble_eq_true rfl) (Nat.le_of_ble_eq_true rfl) (by omega) (k_Symbols_find_18 (by omega) hI ) ?_
  rintro _ _ ⟨z11, rfl, g7, rfl⟩
  refine k_run 0 (pc' := 14) (l' := [(0, .inr (.inr 361)), (1, .inl a)]) (st' := [.inl z11]) rfl ?_
  refine h_zlt (off := 9) (t := 23) rfl rfl (by omega) (fun c12 => ?_) (fun c12 => ?_)
  · refine k_run 0 (pc' := 23) (l' := [(0, .inr (.inr 361)), (1, .inl a)]) (st' := []) rfl ?_
    refine k_run 1 (pc' := 24) (l' := [(0, .inr (.inr 361)), (1, .inl a)]) (st' := [.inr (.inr 361)]) rfl ?_
    refine h_cv (i := 203) (j := 79) (b := 361) (M' := mt_79) (xs := []) (rest := []) rfl rfl rfl rfl (zs_K (x := kx_361) rfl (by decide)) rfl (Nat.le_of_ble_eq_true rfl) (Nat.le_of_ble_eq_true rfl) (by omega) (f_Reader_findVariable (by omega) hI ) ?_
    rintro _ _ ⟨z17, rfl, g13, rfl⟩
    refine k_run 0 (pc' := 27) (l' := [(0, .inr (.inr 361)), (1, .inl a)]) (st' := [.inl z17]) rfl ?_
    refine h_zlt (off := 9) (t := 36) rfl rfl (by omega) (fun c18 => ?_) (fun c18 => ?_)
    · refine k_run 0 (pc' := 36) (l' := [(0, .inr (.inr 361)), (1, .inl a)]) (st' := []) rfl ?_
      refine k_run 4 (pc' := 40) (l' := [(0, .inr (.inr 361)), (1, .inl a)]) (st' := [.inl a, .inr (.inr 361), .inl 3, .inr (.inr 361)]) rfl ?_
      refine h_cv (i := 206) (j := 76) (b := 361) (M' := mt_76) (xs := [.inl a]) (rest := [.inl 3, .inr (.inr 361)]) rfl rfl rfl rfl (zs_K (x := kx_361) rfl (by decide)) rfl (Nat.le_of_ble_eq_true rfl) (Nat.le_of_ble_eq_true rfl) (by omega) (f_Reader_tellVariable (by omega) hI (by omega) (by omega)) ?_
      rintro _ H20 ⟨z23, rfl, g19, hI21, hq22⟩
      have hf24 : fq [(361, 3), (361, 4), (361, 5), (361, 9)] [362] true H H20 := fq_t (fq_rf _ _ _ _) hq22 rfl rfl rfl
      refine k_run 0 (pc' := 43) (l' := [(0, .inr (.inr 361)), (1, .inl a)]) (st' := [.inl z23, .inl 3, .inr (.inr 361)]) rfl ?_
      refine k_run 1 (pc' := 44) (l' := [(0, .inr (.inr 361)), (1, .inl a)]) (st' := [.inl 0, .inl z23, .inl 3, .inr (.inr 361)]) rfl ?_
      refine h_cs (i := 153) (j := 48) (M' := mt_48) (xs := [.inl 0, .inl z23, .inl 3]) (rest := [.inr (.inr 361)]) rfl rfl rfl rfl rfl (Nat.le_of_ble_eq_true rfl) (Nat.le_of_ble_eq_true rfl) (by omega) (k_Term_codeOf (by omega)  (by decide) (by omega) (by decide)) ?_
      rintro _ _ ⟨z29, rfl, g25, rfl⟩
      refine k_run 0 (pc' := 47) (l' := [(0, .inr (.inr 361)), (1, .inl a)]) (st' := [.inl z29, .inr (.inr 361)]) rfl ?_
      refine h_cv (i := 157) (j := 77) (b := 361) (M' := mt_77) (xs := [.inl z29]) (rest := []) rfl rfl rfl rfl (zs_K (x := kx_361) rfl (by decide)) rfl (Nat.le_of_ble_eq_true rfl) (Nat.le_of_ble_eq_true rfl) (by omega) (f_Reader_addName (by omega) hI21 (by omega)) ?_
      rintro _ H31 ⟨z34, rfl, g30, hI32, hq33⟩
      have hf35 : fq [(361, 3), (361, 4), (361, 5), (361, 9)] [362] true H H31 := fq_t hf24 hq33 rfl rfl rfl
      refine k_run 0 (pc' := 50) (l' := [(0, .inr (.inr 361)), (1, .inl a)]) (st' := [.inl z34]) rfl ?_
      refine h_retz (x := z34) rfl rfl (by omega) ?_
      have g36 : -2147483648 ≤ (H31.1 361 4) ∧ (H31.1 361 4) ≤ 2147483647 := kn (x := kx_361) hI32 rfl 4
      exact ⟨_, rfl, (by omega), hI32, hf35⟩
    · refine k_run 0 (pc' := 30) (l' := [(0, .inr (.inr 361)), (1, .inl a)]) (st' := []) rfl ?_
      refine k_run 2 (pc' := 32) (l' := [(0, .inr (.inr 361)), (1, .inl a)]) (st' := [.inl 3, .inr (.inr 361)]) rfl ?_
      refine h_cv (i := 128) (j := 86) (b := 361) (M' := mt_86) (xs := [.inl 3]) (rest := []) rfl rfl rfl rfl (zs_K (x := kx_361) rfl (by decide)) rfl (Nat.le_of_ble_eq_true rfl) (Nat.le_of_ble_eq_true rfl) (by omega) (f_Reader_fails (by omega) hI (by decide)) ?_
      rintro _ H38 ⟨z41, rfl, g37, hI39, hq40⟩
      have hf42 : fq [(361, 3), (361, 4), (361, 5), (361, 9)] [362] true H H38 := fq_t (fq_rf _ _ _ _) hq40 rfl rfl rfl
      refine k_run 0 (pc' := 35) (l' := [(0, .inr (.inr 361)), (1, .inl a)]) (st' := [.inl z41]) rfl ?_
      refine h_retz (x := z41) rfl rfl (by omega) ?_
      have g43 : -2147483648 ≤ (H38.1 361 4) ∧ (H38.1 361 4) ≤ 2147483647 := kn (x := kx_361) hI39 rfl 4
      exact ⟨_, rfl, (by omega), hI39, hf42⟩
  · refine k_run 0 (pc' := 17) (l' := [(0, .inr (.inr 361)), (1, .inl a)]) (st' := []) rfl ?_
    refine k_run 2 (pc' := 19) (l' := [(0, .inr (.inr 361)), (1, .inl a)]) (st' := [.inl 2, .inr (.inr 361)]) rfl ?_
    refine h_cv (i := 128) (j := 86) (b := 361) (M' := mt_86) (xs := [.inl 2]) (rest := []) rfl rfl rfl rfl (zs_K (x := kx_361) rfl (by decide)) rfl (Nat.le_of_ble_eq_true rfl) (Nat.le_of_ble_eq_true rfl) (by omega) (f_Reader_fails (by omega) hI (by decide)) ?_
    rintro _ H45 ⟨z48, rfl, g44, hI46, hq47⟩
    have hf49 : fq [(361, 3), (361, 4), (361, 5), (361, 9)] [362] true H H45 := fq_t (fq_rf _ _ _ _) hq47 rfl rfl rfl
    refine k_run 0 (pc' := 22) (l' := [(0, .inr (.inr 361)), (1, .inl a)]) (st' := [.inl z48]) rfl ?_
    refine h_retz (x := z48) rfl rfl (by omega) ?_
    have g50 : -2147483648 ≤ (H45.1 361 4) ∧ (H45.1 361 4) ≤ 2147483647 := kn (x := kx_361) hI46 rfl 4
    exact ⟨_, rfl, (by omega), hI46, hf49⟩

/-! Reader.readResult -/
set_option maxRecDepth 100000 in
theorem f_Reader_readResult {d : Nat} (hd : 3 ≤ d) {H : hp} (hI : Inv H) {a : Int} (ha : -2147483648 ≤ a ∧ a ≤ 2147483647) (hp0 : 0 ≤ a ∧ a < 16) : hG (zs zK) d mt_67 0 (zargs 0 [.inr (.inr 361), .inl a]) [] H (fun r9 H9 => ∃ z : Int, r9 = some (.inl z) ∧ ((0 ≤ z ∧ z ≤ 1) ∧ ((z = 0 ∨ H9.1 361 4 = H.1 361 4))) ∧ Inv H9 ∧ fq [(361, 3), (361, 4), (361, 5)] [20] false H H9) := by
  refine k_run 0 (pc' := 0) (l' := [(0, .inr (.inr 361)), (1, .inl a)]) (st' := []) rfl ?_
  refine k_run 1 (pc' := 1) (l' := [(0, .inr (.inr 361)), (1, .inl a)]) (st' := [.inr (.inr 361)]) rfl ?_
  refine h_cv (i := 72) (j := 83) (b := 361) (M' := mt_83) (xs := []) (rest := []) rfl rfl rfl rfl (zs_K (x := kx_361) rfl (by decide)) rfl (Nat.le_of_ble_eq_true rfl) (Nat.le_of_ble_eq_true rfl) (by omega) (f_Reader_token (by omega) hI ) ?_
  rintro _ _ ⟨z5, rfl, g1, rfl⟩
  refine k_run 0 (pc' := 4) (l' := [(0, .inr (.inr 361)), (1, .inl a)]) (st' := [.inl z5]) rfl ?_
  refine k_run 1 (pc' := 5) (l' := [(0, .inr (.inr 361)), (1, .inl a)]) (st' := [.inl 3, .inl z5]) rfl ?_
  refine h_ieq (off := 8) (t := 13) rfl rfl (by omega) (by decide) (fun c6 => ?_) (fun c6 => ?_)
  · refine k_run 0 (pc' := 13) (l' := [(0, .inr (.inr 361)), (1, .inl a)]) (st' := []) rfl ?_
    refine k_run 4 (pc' := 21) (l' := [(0, .inr (.inr 361)), (1, .inl a)]) (st' := [.inr (.inr 361), .inr (.inr 8)]) rfl ?_
    refine h_cv (i := 120) (j := 84) (b := 361) (M' := mt_84) (xs := []) (rest := [.inr (.inr 8)]) rfl rfl rfl rfl (zs_K (x := kx_361) rfl (by decide)) rfl (Nat.le_of_ble_eq_true rfl) (Nat.le_of_ble_eq_true rfl) (by omega) (f_Reader_name (by omega) hI ) ?_
    rintro _ _ ⟨z11, rfl, g7, rfl⟩
    refine k_run 0 (pc' := 24) (l' := [(0, .inr (.inr 361)), (1, .inl a)]) (st' := [.inr (.inl z11), .inr (.inr 8)]) rfl ?_
    have g12 : 0 ≤ (H.1 8 4) ∧ (H.1 8 4) ≤ 6 := kn (x := kx_8) hI rfl 4
    refine h_cv (i := 124) (j := 41) (b := 8) (M' := mt_41) (xs := [.inr (.inl z11)]) (rest := []) rfl rfl rfl rfl (zs_K (x := kx_8) rfl (by decide)) rfl (Nat.le_of_ble_eq_true rfl) (Nat.le_of_ble_eq_true rfl) (by omega) (k_Symbols_find_8 (by omega) hI ) ?_
    rintro _ _ ⟨z17, rfl, g13, rfl⟩
    refine k_run 0 (pc' := 27) (l' := [(0, .inr (.inr 361)), (1, .inl a)]) (st' := [.inl z17]) rfl ?_
    refine k_run 2 (pc' := 29) (l' := [(0, .inr (.inr 361)), (1, .inl a), (2, .inl z17)]) (st' := [.inl z17]) rfl ?_
    refine h_zge (off := 9) (t := 38) rfl rfl (by omega) (fun c18 => ?_) (fun c18 => ?_)
    · refine k_run 0 (pc' := 38) (l' := [(0, .inr (.inr 361)), (1, .inl a), (2, .inl z17)]) (st' := []) rfl ?_
      refine k_run 6 (pc' := 50) (l' := [(0, .inr (.inr 361)), (1, .inl a), (2, .inl z17)]) (st' := [.inl z17, .inl a, .inr (.inr 20)]) rfl ?_
      refine k_ist (z := z17) (c := 20) (j := (a).toNat) (i := a) (x := kx_20) rfl rfl (by decide) (by decide) rfl (by decide) (by omega) (by omega) hI (by omega) (show -2 ≤ z17 ∧ z17 ≤ 100 by omega) (fun H19 hI20 hw21 hv22 => ?_)
      have hf23 : fq [(361, 3), (361, 4), (361, 5)] [20] false H H19 := fq_w (fq_rf _ _ _ _) hw21 (fpa (by decide) rfl)
      refine k_run 0 (pc' := 51) (l' := [(0, .inr (.inr 361)), (1, .inl a), (2, .inl z17)]) (st' := []) rfl ?_
      refine k_run 3 (pc' := 56) (l' := [(0, .inr (.inr 361)), (1, .inl a), (2, .inl z17)]) (st' := [.inl (H19.1 361 3), .inr (.inr 361)]) rfl ?_
      have g24 : -2147483648 ≤ (H19.1 361 3) ∧ (H19.1 361 3) ≤ 2147483647 := kn (x := kx_361) hI20 rfl 3
      have e25 : (H19.1 361 3) = (H.1 361 3) := hw21.2 _ _ (fun q => absurd q.1 (by decide))
      refine k_run 2 (pc' := 58) (l' := [(0, .inr (.inr 361)), (1, .inl a), (2, .inl z17)]) (st' := [.inl ((H19.1 361 3) + 1), .inr (.inr 361)]) rfl ?_
      refine k_putw (a := 361) (x := kx_361) rfl rfl rfl (by decide) (by decide) rfl rfl rfl rfl hI20 rfl (fun H26 hI27 hw28 => ?_)
      have hf30 : fq [(361, 3), (361, 4), (361, 5)] [20] false H H26 := fq_w hf23 hw28 (fpo (by decide) rfl)
      refine k_run 0 (pc' := 61) (l' := [(0, .inr (.inr 361)), (1, .inl a), (2, .inl z17)]) (st' := []) rfl ?_
      refine k_run 1 (pc' := 62) (l' := [(0, .inr (.inr 361)), (1, .inl a), (2, .inl z17)]) (st' := [.inl 1]) rfl ?_
      refine h_retz (x := 1) rfl rfl (by decide) ?_
      have g31 : -2147483648 ≤ (H26.1 361 4) ∧ (H26.1 361 4) ≤ 2147483647 := kn (x := kx_361) hI27 rfl 4
      have e32 : (H26.1 361 4) = (H19.1 361 4) := hw28.2 _ _ (fun q => absurd q.2 (by decide))
      have e33 : (H19.1 361 4) = (H.1 361 4) := hw21.2 _ _ (fun q => absurd q.1 (by decide))
      exact ⟨_, rfl, (by omega), hI27, hf30⟩
    · refine k_run 0 (pc' := 32) (l' := [(0, .inr (.inr 361)), (1, .inl a), (2, .inl z17)]) (st' := []) rfl ?_
      refine k_run 2 (pc' := 34) (l' := [(0, .inr (.inr 361)), (1, .inl a), (2, .inl z17)]) (st' := [.inl 3, .inr (.inr 361)]) rfl ?_
      refine h_cv (i := 128) (j := 86) (b := 361) (M' := mt_86) (xs := [.inl 3]) (rest := []) rfl rfl rfl rfl (zs_K (x := kx_361) rfl (by decide)) rfl (Nat.le_of_ble_eq_true rfl) (Nat.le_of_ble_eq_true rfl) (by omega) (f_Reader_fails (by omega) hI (by decide)) ?_
      rintro _ H35 ⟨z38, rfl, g34, hI36, hq37⟩
      have hf39 : fq [(361, 3), (361, 4), (361, 5)] [20] false H H35 := fq_t (fq_rf _ _ _ _) hq37 rfl rfl rfl
      refine k_run 0 (pc' := 37) (l' := [(0, .inr (.inr 361)), (1, .inl a), (2, .inl z17)]) (st' := [.inl z38]) rfl ?_
      refine h_retz (x := z38) rfl rfl (by omega) ?_
      have g40 : -2147483648 ≤ (H35.1 361 4) ∧ (H35.1 361 4) ≤ 2147483647 := kn (x := kx_361) hI36 rfl 4
      exact ⟨_, rfl, (by omega), hI36, hf39⟩
  · refine k_run 0 (pc' := 8) (l' := [(0, .inr (.inr 361)), (1, .inl a)]) (st' := []) rfl ?_
    refine k_run 1 (pc' := 9) (l' := [(0, .inr (.inr 361)), (1, .inl a)]) (st' := [.inr (.inr 361)]) rfl ?_
    refine h_cv (i := 89) (j := 85) (b := 361) (M' := mt_85) (xs := []) (rest := []) rfl rfl rfl rfl (zs_K (x := kx_361) rfl (by decide)) rfl (Nat.le_of_ble_eq_true rfl) (Nat.le_of_ble_eq_true rfl) (by omega) (f_Reader_misplaced (by omega) hI ) ?_
    rintro _ H42 ⟨z45, rfl, g41, hI43, hq44⟩
    have hf46 : fq [(361, 3), (361, 4), (361, 5)] [20] false H H42 := fq_t (fq_rf _ _ _ _) hq44 rfl rfl rfl
    refine k_run 0 (pc' := 12) (l' := [(0, .inr (.inr 361)), (1, .inl a)]) (st' := [.inl z45]) rfl ?_
    refine h_retz (x := z45) rfl rfl (by omega) ?_
    have g47 : -2147483648 ≤ (H42.1 361 4) ∧ (H42.1 361 4) ≤ 2147483647 := kn (x := kx_361) hI43 rfl 4
    exact ⟨_, rfl, (by omega), hI43, hf46⟩

/-! Reader.readConstructor -/
set_option maxRecDepth 100000 in
theorem f_Reader_readConstructor_cut {d : Nat} (hd : 4 ≤ d) {H : hp} (hI : Inv H) {a : Int} (ha : -2147483648 ≤ a ∧ a ≤ 2147483647) (hp0 : -2 ≤ a ∧ a ≤ 100) : ∀ w : Nat, (∀ (H1 : hp), Inv H1 → fq [(13, 4), (361, 3), (361, 4), (361, 5)] [14, 15, 16, 17] false H H1 → ∀ (x2 : Int) , (-2147483648 ≤ x2 ∧ x2 ≤ 2147483647) → (0 ≤ x2 ∧ x2 ≤ 4) → (H1.1 361 4 = H.1 361 4) → (((10 - x2).toNat) < w) → hG (zs zK) d mt_65 20 [(0, .inr (.inr 361)), (1, .inl a), (2, .inl x2)] [] H1 (fun r9 H9 => ∃ z : Int, r9 = some (.inl z) ∧ ((0 ≤ z ∧ z ≤ 1) ∧ ((z = 0 ∨ H9.1 361 4 = H.1 361 4))) ∧ Inv H9 ∧ fq [(13, 4), (361, 3), (361, 4), (361, 5)] [14, 15, 16, 17] false H H9)) := by
  intro w
  induction w with
  | zero => exact fun _ _ _ _ _ _ _ h => absurd h (Nat.not_lt_zero _)
  | succ w ih =>
    intro H1 hI1 hf1 x2 hx2 hi0 hi1 hw
    have g10 : -2147483648 ≤ (H1.1 361 4) ∧ (H1.1 361 4) ≤ 2147483647 := kn (x := kx_361) hI1 rfl 4
    refine k_run 2 (pc' := 22) (l' := [(0, .inr (.inr 361)), (1, .inl a), (2, .inl x2)]) (st' := [.inl 3, .inl x2]) rfl ?_
    refine h_igt (off := 74) (t := 96) rfl rfl (by omega) (by decide) (fun c11 => ?_) (fun c11 => ?_)
    · refine k_run 0 (pc' := 96) (l' := [(0, .inr (.inr 361)), (1, .inl a), (2, .inl x2)]) (st' := []) rfl ?_
      refine k_run 1 (pc' := 97) (l' := [(0, .inr (.inr 361)), (1, .inl a), (2, .inl x2)]) (st' := [.inl 1]) rfl ?_
      refine h_retz (x := 1) rfl rfl (by decide) ?_
      exact ⟨_, rfl, (by omega), hI1, hf1⟩
    · refine k_run 0 (pc' := 25) (l' := [(0, .inr (.inr 361)), (1, .inl a), (2, .inl x2)]) (st' := []) rfl ?_
      refine k_run 1 (pc' := 26) (l' := [(0, .inr (.inr 361)), (1, .inl a), (2, .inl x2)]) (st' := [.inr (.inr 361)]) rfl ?_
      refine h_cv (i := 72) (j := 83) (b := 361) (M' := mt_83) (xs := []) (rest := []) rfl rfl rfl rfl (zs_K (x := kx_361) rfl (by decide)) rfl (Nat.le_of_ble_eq_true rfl) (Nat.le_of_ble_eq_true rfl) (by omega) (f_Reader_token (by omega) hI1 ) ?_
      rintro _ _ ⟨z16, rfl, g12, rfl⟩
      refine k_run 0 (pc' := 29) (l' := [(0, .inr (.inr 361)), (1, .inl a), (2, .inl x2)]) (st' := [.inl z16]) rfl ?_
      refine k_run 1 (pc' := 30) (l' := [(0, .inr (.inr 361)), (1, .inl a), (2, .inl x2)]) (st' := [.inl 3, .inl z16]) rfl ?_
      refine h_ine (off := 66) (t := 96) rfl rfl (by omega) (by decide) (fun c17 => ?_) (fun c17 => ?_)
      · refine k_run 0 (pc' := 96) (l' := [(0, .inr (.inr 361)), (1, .inl a), (2, .inl x2)]) (st' := []) rfl ?_
        refine k_run 1 (pc' := 97) (l' := [(0, .inr (.inr 361)), (1, .inl a), (2, .inl x2)]) (st' := [.inl 1]) rfl ?_
        refine h_retz (x := 1) rfl rfl (by decide) ?_
        exact ⟨_, rfl, (by omega), hI1, hf1⟩
      · refine k_run 0 (pc' := 33) (l' := [(0, .inr (.inr 361)), (1, .inl a), (2, .inl x2)]) (st' := []) rfl ?_
        refine k_run 4 (pc' := 41) (l' := [(0, .inr (.inr 361)), (1, .inl a), (2, .inl x2)]) (st' := [.inr (.inr 361), .inr (.inr 8)]) rfl ?_
        refine h_cv (i := 120) (j := 84) (b := 361) (M' := mt_84) (xs := []) (rest := [.inr (.inr 8)]) rfl rfl rfl rfl (zs_K (x := kx_361) rfl (by decide)) rfl (Nat.le_of_ble_eq_true rfl) (Nat.le_of_ble_eq_true rfl) (by omega) (f_Reader_name (by omega) hI1 ) ?_
        rintro _ _ ⟨z22, rfl, g18, rfl⟩
        refine k_run 0 (pc' := 44) (l' := [(0, .inr (.inr 361)), (1, .inl a), (2, .inl x2)]) (st' := [.inr (.inl z22), .inr (.inr 8)]) rfl ?_
        have g23 : 0 ≤ (H1.1 8 4) ∧ (H1.1 8 4) ≤ 6 := kn (x := kx_8) hI1 rfl 4
        have e24 : (H1.1 8 4) = (H.1 8 4) := (hf1.1 8 4 rfl (by decide) (by decide)).1
        refine h_cv (i := 124) (j := 41) (b := 8) (M' := mt_41) (xs := [.inr (.inl z22)]) (rest := []) rfl rfl rfl rfl (zs_K (x := kx_8) rfl (by decide)) rfl (Nat.le_of_ble_eq_true rfl) (Nat.le_of_ble_eq_true rfl) (by omega) (k_Symbols_find_8 (by omega) hI1 ) ?_
        rintro _ _ ⟨z29, rfl, g25, rfl⟩
        refine k_run 0 (pc' := 47) (l' := [(0, .inr (.inr 361)), (1, .inl a), (2, .inl x2)]) (st' := [.inl z29]) rfl ?_
        refine k_run 2 (pc' := 49) (l' := [(0, .inr (.inr 361)), (1, .inl a), (2, .inl x2), (3, .inl z29)]) (st' := [.inl z29]) rfl ?_
        refine h_zge (off := 9) (t := 58) rfl rfl (by omega) (fun c30 => ?_) (fun c30 => ?_)
        · refine k_run 0 (pc' := 58) (l' := [(0, .inr (.inr 361)), (1, .inl a), (2, .inl x2), (3, .inl z29)]) (st' := []) rfl ?_
          refine k_run 2 (pc' := 60) (l' := [(0, .inr (.inr 361)), (1, .inl a), (2, .inl x2), (3, .inl z29)]) (st' := [.inl 3, .inl x2]) rfl ?_
          refine h_ine (off := 9) (t := 69) rfl rfl (by omega) (by decide) (fun c31 => ?_) (fun c31 => ?_)
          · refine k_run 0 (pc' := 69) (l' := [(0, .inr (.inr 361)), (1, .inl a), (2, .inl x2), (3, .inl z29)]) (st' := []) rfl ?_
            refine k_run 4 (pc' := 77) (l' := [(0, .inr (.inr 361)), (1, .inl a), (2, .inl x2), (3, .inl z29)]) (st' := [.inl z29, .inr (.inr 13)]) rfl ?_
            refine h_cv (i := 131) (j := 44) (b := 13) (M' := mt_44) (xs := [.inl z29]) (rest := []) rfl rfl rfl rfl (zs_K (x := kx_13) rfl (by decide)) rfl (Nat.le_of_ble_eq_true rfl) (Nat.le_of_ble_eq_true rfl) (by omega) (k_Symbols_addArgument_13 (by omega) hI1 (by omega) (by omega)) ?_
            rintro _ H33 ⟨rfl, hI34, hq35⟩
            have hf36 : fq [(13, 4), (361, 3), (361, 4), (361, 5)] [14, 15, 16, 17] false H H33 := fq_t hf1 hq35 rfl rfl rfl
            refine k_run 0 (pc' := 80) (l' := [(0, .inr (.inr 361)), (1, .inl a), (2, .inl x2), (3, .inl z29)]) (st' := []) rfl ?_
            refine k_run 3 (pc' := 85) (l' := [(0, .inr (.inr 361)), (1, .inl a), (2, .inl x2), (3, .inl z29)]) (st' := [.inl (H33.1 361 3), .inr (.inr 361)]) rfl ?_
            have g37 : -2147483648 ≤ (H33.1 361 3) ∧ (H33.1 361 3) ≤ 2147483647 := kn (x := kx_361) hI34 rfl 3
            have e38 : (H33.1 361 3) = (H1.1 361 3) := (hq35.1 361 3 rfl (by decide) (by decide)).1
            refine k_run 2 (pc' := 87) (l' := [(0, .inr (.inr 361)), (1, .inl a), (2, .inl x2), (3, .inl z29)]) (st' := [.inl ((H33.1 361 3) + 1), .inr (.inr 361)]) rfl ?_
            refine k_putw (a := 361) (x := kx_361) rfl rfl rfl (by decide) (by decide) rfl rfl rfl rfl hI34 rfl (fun H39 hI40 hw41 => ?_)
            have hf43 : fq [(13, 4), (361, 3), (361, 4), (361, 5)] [14, 15, 16, 17] false H H39 := fq_w hf36 hw41 (fpo (by decide) rfl)
            refine k_run 0 (pc' := 90) (l' := [(0, .inr (.inr 361)), (1, .inl a), (2, .inl x2), (3, .inl z29)]) (st' := []) rfl ?_
            refine k_run 2 (pc' := 20) (l' := [(0, .inr (.inr 361)), (1, .inl a), (2, .inl (x2 + 1)), (3, .inl z29)]) (st' := []) rfl ?_
            have g44 : -2147483648 ≤ (H39.1 361 4) ∧ (H39.1 361 4) ≤ 2147483647 := kn (x := kx_361) hI40 rfl 4
            have e45 : (H39.1 361 4) = (H33.1 361 4) := hw41.2 _ _ (fun q => absurd q.2 (by decide))
            have e46 : (H33.1 361 4) = (H1.1 361 4) := (hq35.1 361 4 rfl (by decide) (by decide)).1
            refine h_loc [0, 1, 2] rfl ?_
            exact ih H39 hI40 hf43 (x2 + 1) (by omega) (by omega) (by omega) (by omega)
          · refine k_run 0 (pc' := 63) (l' := [(0, .inr (.inr 361)), (1, .inl a), (2, .inl x2), (3, .inl z29)]) (st' := []) rfl ?_
            refine k_run 2 (pc' := 65) (l' := [(0, .inr (.inr 361)), (1, .inl a), (2, .inl x2), (3, .inl z29)]) (st' := [.inl 5, .inr (.inr 361)]) rfl ?_
            refine h_cv (i := 128) (j := 86) (b := 361) (M' := mt_86) (xs := [.inl 5]) (rest := []) rfl rfl rfl rfl (zs_K (x := kx_361) rfl (by decide)) rfl (Nat.le_of_ble_eq_true rfl) (Nat.le_of_ble_eq_true rfl) (by omega) (f_Reader_fails (by omega) hI1 (by decide)) ?_
            rintro _ H48 ⟨z51, rfl, g47, hI49, hq50⟩
            have hf52 : fq [(13, 4), (361, 3), (361, 4), (361, 5)] [14, 15, 16, 17] false H H48 := fq_t hf1 hq50 rfl rfl rfl
            refine k_run 0 (pc' := 68) (l' := [(0, .inr (.inr 361)), (1, .inl a), (2, .inl x2), (3, .inl z29)]) (st' := [.inl z51]) rfl ?_
            refine h_retz (x := z51) rfl rfl (by omega) ?_
            have g53 : -2147483648 ≤ (H48.1 361 4) ∧ (H48.1 361 4) ≤ 2147483647 := kn (x := kx_361) hI49 rfl 4
            exact ⟨_, rfl, (by omega), hI49, hf52⟩
        · refine k_run 0 (pc' := 52) (l' := [(0, .inr (.inr 361)), (1, .inl a), (2, .inl x2), (3, .inl z29)]) (st' := []) rfl ?_
          refine k_run 2 (pc' := 54) (l' := [(0, .inr (.inr 361)), (1, .inl a), (2, .inl x2), (3, .inl z29)]) (st' := [.inl 3, .inr (.inr 361)]) rfl ?_
          refine h_cv (i := 128) (j := 86) (b := 361) (M' := mt_86) (xs := [.inl 3]) (rest := []) rfl rfl rfl rfl (zs_K (x := kx_361) rfl (by decide)) rfl (Nat.le_of_ble_eq_true rfl) (Nat.le_of_ble_eq_true rfl) (by omega) (f_Reader_fails (by omega) hI1 (by decide)) ?_
          rintro _ H55 ⟨z58, rfl, g54, hI56, hq57⟩
          have hf59 : fq [(13, 4), (361, 3), (361, 4), (361, 5)] [14, 15, 16, 17] false H H55 := fq_t hf1 hq57 rfl rfl rfl
          refine k_run 0 (pc' := 57) (l' := [(0, .inr (.inr 361)), (1, .inl a), (2, .inl x2), (3, .inl z29)]) (st' := [.inl z58]) rfl ?_
          refine h_retz (x := z58) rfl rfl (by omega) ?_
          have g60 : -2147483648 ≤ (H55.1 361 4) ∧ (H55.1 361 4) ≤ 2147483647 := kn (x := kx_361) hI56 rfl 4
          exact ⟨_, rfl, (by omega), hI56, hf59⟩
set_option maxRecDepth 100000 in
theorem f_Reader_readConstructor {d : Nat} (hd : 4 ≤ d) {H : hp} (hI : Inv H) {a : Int} (ha : -2147483648 ≤ a ∧ a ≤ 2147483647) (hp0 : -2 ≤ a ∧ a ≤ 100) : hG (zs zK) d mt_65 0 (zargs 0 [.inr (.inr 361), .inl a]) [] H (fun r9 H9 => ∃ z : Int, r9 = some (.inl z) ∧ ((0 ≤ z ∧ z ≤ 1) ∧ ((z = 0 ∨ H9.1 361 4 = H.1 361 4))) ∧ Inv H9 ∧ fq [(13, 4), (361, 3), (361, 4), (361, 5)] [14, 15, 16, 17] false H H9) := by
  refine k_run 0 (pc' := 0) (l' := [(0, .inr (.inr 361)), (1, .inl a)]) (st' := []) rfl ?_
  refine k_run 6 (pc' := 10) (l' := [(0, .inr (.inr 361)), (1, .inl a)]) (st' := [.inl a, .inl 3, .inr (.inr 13), .inr (.inr 361)]) rfl ?_
  refine h_cv (i := 113) (j := 78) (b := 361) (M' := mt_78) (xs := [.inl a, .inl 3, .inr (.inr 13)]) (rest := []) rfl rfl rfl rfl (zs_K (x := kx_361) rfl (by decide)) rfl (Nat.le_of_ble_eq_true rfl) (Nat.le_of_ble_eq_true rfl) (by omega) (f_Reader_tellName_13 (by omega) hI (by decide) (by omega) (by omega)) ?_
  rintro _ H2 ⟨z5, rfl, g1, hI3, hq4⟩
  have hf6 : fq [(13, 4), (361, 3), (361, 4), (361, 5)] [14, 15, 16, 17] false H H2 := fq_t (fq_rf _ _ _ _) hq4 rfl rfl rfl
  refine k_run 0 (pc' := 13) (l' := [(0, .inr (.inr 361)), (1, .inl a)]) (st' := [.inl z5]) rfl ?_
  refine h_zne (off := 5) (t := 18) rfl rfl (by omega) (fun c7 => ?_) (fun c7 => ?_)
  · refine k_run 0 (pc' := 18) (l' := [(0, .inr (.inr 361)), (1, .inl a)]) (st' := []) rfl ?_
    refine k_run 2 (pc' := 20) (l' := [(0, .inr (.inr 361)), (1, .inl a), (2, .inl 0)]) (st' := []) rfl ?_
    have g8 : -2147483648 ≤ (H2.1 361 4) ∧ (H2.1 361 4) ≤ 2147483647 := kn (x := kx_361) hI3 rfl 4
    exact (f_Reader_readConstructor_cut hd hI ha hp0 _) H2 hI3 hf6 (0 : Int) (by decide) (by omega) (by omega) (Nat.lt_succ_self _)
  · refine k_run 0 (pc' := 16) (l' := [(0, .inr (.inr 361)), (1, .inl a)]) (st' := []) rfl ?_
    refine k_run 1 (pc' := 17) (l' := [(0, .inr (.inr 361)), (1, .inl a)]) (st' := [.inl 0]) rfl ?_
    refine h_retz (x := 0) rfl rfl (by decide) ?_
    have g9 : -2147483648 ≤ (H2.1 361 4) ∧ (H2.1 361 4) ≤ 2147483647 := kn (x := kx_361) hI3 rfl 4
    exact ⟨_, rfl, (by omega), hI3, hf6⟩

/-! Reader.readData -/
set_option maxRecDepth 100000 in
theorem f_Reader_readData_cut {d : Nat} (hd : 5 ≤ d) {H : hp} (hI : Inv H)   : ∀ w : Nat, (∀ (H1 : hp), Inv H1 → fq [(8, 4), (13, 4), (361, 3), (361, 4), (361, 5)] [9, 10, 11, 14, 15, 16, 17] false H H1 → ∀ (x1 : Int) (x2 : Int) (x3 : Int) , (-2147483648 ≤ x1 ∧ x1 ≤ 2147483647) → (-2147483648 ≤ x2 ∧ x2 ≤ 2147483647) → (-2147483648 ≤ x3 ∧ x3 ≤ 2147483647) → (0 ≤ x3 ∧ x3 ≤ 17) → (0 ≤ x2 ∧ x2 ≤ 1) → (-2 ≤ x1 ∧ x1 ≤ 100) → ((x2 = 0 ∨ H1.1 361 4 = H.1 361 4)) → (((100 - x3).toNat) < w) → hG (zs zK) d mt_64 58 [(0, .inr (.inr 361)), (1, .inl x1), (2, .inl x2), (3, .inl x3)] [] H1 (fun r9 H9 => ∃ z : Int, r9 = some (.inl z) ∧ ((0 ≤ z ∧ z ≤ 1) ∧ ((z = 0 ∨ H9.1 361 4 = H.1 361 4))) ∧ Inv H9 ∧ fq [(8, 4), (13, 4), (361, 3), (361, 4), (361, 5)] [9, 10, 11, 14, 15, 16, 17] false H H9)) := by
  intro w
  induction w with
  | zero => exact fun _ _ _ _ _ _ _ _ _ _ _ _ _ h => absurd h (Nat.not_lt_zero _)
  | succ w ih =>
    intro H1 hI1 hf1 x1 x2 x3 hx1 hx2 hx3 hi0 hi1 hi2 hi3 hw
    have g32 : -2147483648 ≤ (H1.1 361 4) ∧ (H1.1 361 4) ≤ 2147483647 := kn (x := kx_361) hI1 rfl 4
    refine k_run 1 (pc' := 59) (l' := [(0, .inr (.inr 361)), (1, .inl x1), (2, .inl x2), (3, .inl x3)]) (st' := [.inl x2]) rfl ?_
    refine h_zeq (off := 40) (t := 99) rfl rfl (by omega) (fun c33 => ?_) (fun c33 => ?_)
    · refine k_run 0 (pc' := 99) (l' := [(0, .inr (.inr 361)), (1, .inl x1), (2, .inl x2), (3, .inl x3)]) (st' := []) rfl ?_
      refine k_run 1 (pc' := 100) (l' := [(0, .inr (.inr 361)), (1, .inl x1), (2, .inl x2), (3, .inl x3)]) (st' := [.inl x2]) rfl ?_
      refine h_retz (x := x2) rfl rfl (by omega) ?_
      exact ⟨_, rfl, (by omega), hI1, hf1⟩
    · refine k_run 0 (pc' := 62) (l' := [(0, .inr (.inr 361)), (1, .inl x1), (2, .inl x2), (3, .inl x3)]) (st' := []) rfl ?_
      refine k_run 2 (pc' := 65) (l' := [(0, .inr (.inr 361)), (1, .inl x1), (2, .inl x2), (3, .inl x3)]) (st' := [.inl 16, .inl x3]) rfl ?_
      refine h_igt (off := 34) (t := 99) rfl rfl (by omega) (by decide) (fun c34 => ?_) (fun c34 => ?_)
      · refine k_run 0 (pc' := 99) (l' := [(0, .inr (.inr 361)), (1, .inl x1), (2, .inl x2), (3, .inl x3)]) (st' := []) rfl ?_
        refine k_run 1 (pc' := 100) (l' := [(0, .inr (.inr 361)), (1, .inl x1), (2, .inl x2), (3, .inl x3)]) (st' := [.inl x2]) rfl ?_
        refine h_retz (x := x2) rfl rfl (by omega) ?_
        exact ⟨_, rfl, (by omega), hI1, hf1⟩
      · refine k_run 0 (pc' := 68) (l' := [(0, .inr (.inr 361)), (1, .inl x1), (2, .inl x2), (3, .inl x3)]) (st' := []) rfl ?_
        refine k_run 1 (pc' := 69) (l' := [(0, .inr (.inr 361)), (1, .inl x1), (2, .inl x2), (3, .inl x3)]) (st' := [.inr (.inr 361)]) rfl ?_
        refine h_cv (i := 72) (j := 83) (b := 361) (M' := mt_83) (xs := []) (rest := []) rfl rfl rfl rfl (zs_K (x := kx_361) rfl (by decide)) rfl (Nat.le_of_ble_eq_true rfl) (Nat.le_of_ble_eq_true rfl) (by omega) (f_Reader_token (by omega) hI1 ) ?_
        rintro _ _ ⟨z39, rfl, g35, rfl⟩
        refine k_run 0 (pc' := 72) (l' := [(0, .inr (.inr 361)), (1, .inl x1), (2, .inl x2), (3, .inl x3)]) (st' := [.inl z39]) rfl ?_
        refine k_run 1 (pc' := 74) (l' := [(0, .inr (.inr 361)), (1, .inl x1), (2, .inl x2), (3, .inl x3)]) (st' := [.inl 124, .inl z39]) rfl ?_
        refine h_ine (off := 25) (t := 99) rfl rfl (by omega) (by decide) (fun c40 => ?_) (fun c40 => ?_)
        · refine k_run 0 (pc' := 99) (l' := [(0, .inr (.inr 361)), (1, .inl x1), (2, .inl x2), (3, .inl x3)]) (st' := []) rfl ?_
          refine k_run 1 (pc' := 100) (l' := [(0, .inr (.inr 361)), (1, .inl x1), (2, .inl x2), (3, .inl x3)]) (st' := [.inl x2]) rfl ?_
          refine h_retz (x := x2) rfl rfl (by omega) ?_
          exact ⟨_, rfl, (by omega), hI1, hf1⟩
        · refine k_run 0 (pc' := 77) (l' := [(0, .inr (.inr 361)), (1, .inl x1), (2, .inl x2), (3, .inl x3)]) (st' := []) rfl ?_
          refine k_run 3 (pc' := 82) (l' := [(0, .inr (.inr 361)), (1, .inl x1), (2, .inl x2), (3, .inl x3)]) (st' := [.inl (H1.1 361 3), .inr (.inr 361)]) rfl ?_
          have g41 : -2147483648 ≤ (H1.1 361 3) ∧ (H1.1 361 3) ≤ 2147483647 := kn (x := kx_361) hI1 rfl 3
          refine k_run 2 (pc' := 84) (l' := [(0, .inr (.inr 361)), (1, .inl x1), (2, .inl x2), (3, .inl x3)]) (st' := [.inl ((H1.1 361 3) + 1), .inr (.inr 361)]) rfl ?_
          refine k_putw (a := 361) (x := kx_361) rfl rfl rfl (by decide) (by decide) rfl rfl rfl rfl hI1 rfl (fun H42 hI43 hw44 => ?_)
          have hf46 : fq [(8, 4), (13, 4), (361, 3), (361, 4), (361, 5)] [9, 10, 11, 14, 15, 16, 17] false H H42 := fq_w hf1 hw44 (fpo (by decide) rfl)
          refine k_run 0 (pc' := 87) (l' := [(0, .inr (.inr 361)), (1, .inl x1), (2, .inl x2), (3, .inl x3)]) (st' := []) rfl ?_
          refine k_run 2 (pc' := 89) (l' := [(0, .inr (.inr 361)), (1, .inl x1), (2, .inl x2), (3, .inl x3)]) (st' := [.inl x1, .inr (.inr 361)]) rfl ?_
          refine h_cv (i := 117) (j := 65) (b := 361) (M' := mt_65) (xs := [.inl x1]) (rest := []) rfl rfl rfl rfl (zs_K (x := kx_361) rfl (by decide)) rfl (Nat.le_of_ble_eq_true rfl) (Nat.le_of_ble_eq_true rfl) (by omega) (f_Reader_readConstructor (by omega) hI43 (by omega) (by omega)) ?_
          rintro _ H48 ⟨z51, rfl, g47, hI49, hq50⟩
          have hf52 : fq [(8, 4), (13, 4), (361, 3), (361, 4), (361, 5)] [9, 10, 11, 14, 15, 16, 17] false H H48 := fq_t hf46 hq50 rfl rfl rfl
          refine k_run 0 (pc' := 92) (l' := [(0, .inr (.inr 361)), (1, .inl x1), (2, .inl x2), (3, .inl x3)]) (st' := [.inl z51]) rfl ?_
          refine k_run 3 (pc' := 58) (l' := [(0, .inr (.inr 361)), (1, .inl x1), (2, .inl z51), (3, .inl (x3 + 1))]) (st' := []) rfl ?_
          have g53 : -2147483648 ≤ (H48.1 361 4) ∧ (H48.1 361 4) ≤ 2147483647 := kn (x := kx_361) hI49 rfl 4
          exact ih H48 hI49 hf52 x1 z51 (x3 + 1) (by omega) (by omega) (by omega) (by omega) (by omega) (by omega) (by omega) (by omega)
set_option maxRecDepth 100000 in
theorem f_Reader_readData {d : Nat} (hd : 5 ≤ d) {H : hp} (hI : Inv H)   : hG (zs zK) d mt_64 0 (zargs 0 [.inr (.inr 361)]) [] H (fun r9 H9 => ∃ z : Int, r9 = some (.inl z) ∧ ((0 ≤ z ∧ z ≤ 1) ∧ ((z = 0 ∨ H9.1 361 4 = H.1 361 4))) ∧ Inv H9 ∧ fq [(8, 4), (13, 4), (361, 3), (361, 4), (361, 5)] [9, 10, 11, 14, 15, 16, 17] false H H9) := by
  refine k_run 0 (pc' := 0) (l' := [(0, .inr (.inr 361))]) (st' := []) rfl ?_
  refine k_run 3 (pc' := 5) (l' := [(0, .inr (.inr 361))]) (st' := [.inl (H.1 361 3), .inr (.inr 361)]) rfl ?_
  have g1 : -2147483648 ≤ (H.1 361 3) ∧ (H.1 361 3) ≤ 2147483647 := kn (x := kx_361) hI rfl 3
  refine k_run 2 (pc' := 7) (l' := [(0, .inr (.inr 361))]) (st' := [.inl ((H.1 361 3) + 1), .inr (.inr 361)]) rfl ?_
  refine k_putw (a := 361) (x := kx_361) rfl rfl rfl (by decide) (by decide) rfl rfl rfl rfl hI rfl (fun H2 hI3 hw4 => ?_)
  have hf6 : fq [(8, 4), (13, 4), (361, 3), (361, 4), (361, 5)] [9, 10, 11, 14, 15, 16, 17] false H H2 := fq_w (fq_rf _ _ _ _) hw4 (fpo (by decide) rfl)
  refine k_run 0 (pc' := 10) (l' := [(0, .inr (.inr 361))]) (st' := []) rfl ?_
  refine k_run 6 (pc' := 20) (l' := [(0, .inr (.inr 361))]) (st' := [.inl (-1), .inl 3, .inr (.inr 8), .inr (.inr 361)]) rfl ?_
  refine h_cv (i := 113) (j := 78) (b := 361) (M' := mt_78) (xs := [.inl (-1), .inl 3, .inr (.inr 8)]) (rest := []) rfl rfl rfl rfl (zs_K (x := kx_361) rfl (by decide)) rfl (Nat.le_of_ble_eq_true rfl) (Nat.le_of_ble_eq_true rfl) (by omega) (f_Reader_tellName_8 (by omega) hI3 (by decide) (by decide) (by omega)) ?_
  rintro _ H8 ⟨z11, rfl, g7, hI9, hq10⟩
  have hf12 : fq [(8, 4), (13, 4), (361, 3), (361, 4), (361, 5)] [9, 10, 11, 14, 15, 16, 17] false H H8 := fq_t hf6 hq10 rfl rfl rfl
  refine k_run 0 (pc' := 23) (l' := [(0, .inr (.inr 361))]) (st' := [.inl z11]) rfl ?_
  refine h_zeq (off := 12) (t := 35) rfl rfl (by omega) (fun c13 => ?_) (fun c13 => ?_)
  · refine k_run 0 (pc' := 35) (l' := [(0, .inr (.inr 361))]) (st' := []) rfl ?_
    refine k_run 1 (pc' := 36) (l' := [(0, .inr (.inr 361))]) (st' := [.inl 0]) rfl ?_
    refine h_retz (x := 0) rfl rfl (by decide) ?_
    have g14 : -2147483648 ≤ (H8.1 361 4) ∧ (H8.1 361 4) ≤ 2147483647 := kn (x := kx_361) hI9 rfl 4
    exact ⟨_, rfl, (by omega), hI9, hf12⟩
  · refine k_run 0 (pc' := 26) (l' := [(0, .inr (.inr 361))]) (st' := []) rfl ?_
    refine k_run 2 (pc' := 29) (l' := [(0, .inr (.inr 361))]) (st' := [.inl 61, .inr (.inr 361)]) rfl ?_
    refine h_cv (i := 92) (j := 82) (b := 361) (M' := mt_82) (xs := [.inl 61]) (rest := []) rfl rfl rfl rfl (zs_K (x := kx_361) rfl (by decide)) rfl (Nat.le_of_ble_eq_true rfl) (Nat.le_of_ble_eq_true rfl) (by omega) (f_Reader_take (by omega) hI9 (by decide)) ?_
    rintro _ H16 ⟨z19, rfl, g15, hI17, hq18⟩
    have hf20 : fq [(8, 4), (13, 4), (361, 3), (361, 4), (361, 5)] [9, 10, 11, 14, 15, 16, 17] false H H16 := fq_t hf12 hq18 rfl rfl rfl
    refine k_run 0 (pc' := 32) (l' := [(0, .inr (.inr 361))]) (st' := [.inl z19]) rfl ?_
    refine h_zne (off := 5) (t := 37) rfl rfl (by omega) (fun c21 => ?_) (fun c21 => ?_)
    · refine k_run 0 (pc' := 37) (l' := [(0, .inr (.inr 361))]) (st' := []) rfl ?_
      refine k_run 4 (pc' := 47) (l' := [(0, .inr (.inr 361))]) (st' := [.inl (H16.1 8 4)]) rfl ?_
      have g22 : 0 ≤ (H16.1 8 4) ∧ (H16.1 8 4) ≤ 6 := kn (x := kx_8) hI17 rfl 4
      have e23 : (H16.1 8 4) = (H8.1 8 4) := (hq18.1 8 4 rfl (by decide) (by decide)).1
      refine k_run 5 (pc' := 52) (l' := [(0, .inr (.inr 361)), (1, .inl ((H16.1 8 4) - 1))]) (st' := [.inl ((H16.1 8 4) - 1), .inr (.inr 361)]) rfl ?_
      refine h_cv (i := 117) (j := 65) (b := 361) (M' := mt_65) (xs := [.inl ((H16.1 8 4) - 1)]) (rest := []) rfl rfl rfl rfl (zs_K (x := kx_361) rfl (by decide)) rfl (Nat.le_of_ble_eq_true rfl) (Nat.le_of_ble_eq_true rfl) (by omega) (f_Reader_readConstructor (by omega) hI17 (by omega) (by omega)) ?_
      rintro _ H25 ⟨z28, rfl, g24, hI26, hq27⟩
      have hf29 : fq [(8, 4), (13, 4), (361, 3), (361, 4), (361, 5)] [9, 10, 11, 14, 15, 16, 17] false H H25 := fq_t hf20 hq27 rfl rfl rfl
      refine k_run 0 (pc' := 55) (l' := [(0, .inr (.inr 361)), (1, .inl ((H16.1 8 4) - 1))]) (st' := [.inl z28]) rfl ?_
      refine k_run 3 (pc' := 58) (l' := [(0, .inr (.inr 361)), (1, .inl ((H16.1 8 4) - 1)), (2, .inl z28), (3, .inl 1)]) (st' := []) rfl ?_
      have g30 : -2147483648 ≤ (H25.1 361 4) ∧ (H25.1 361 4) ≤ 2147483647 := kn (x := kx_361) hI26 rfl 4
      exact (f_Reader_readData_cut hd hI  _) H25 hI26 hf29 ((H16.1 8 4) - 1) z28 (1 : Int) (by omega) (by omega) (by decide) (by omega) (by omega) (by omega) (by omega) (Nat.lt_succ_self _)
    · refine k_run 0 (pc' := 35) (l' := [(0, .inr (.inr 361))]) (st' := []) rfl ?_
      refine k_run 1 (pc' := 36) (l' := [(0, .inr (.inr 361))]) (st' := [.inl 0]) rfl ?_
      refine h_retz (x := 0) rfl rfl (by decide) ?_
      have g31 : -2147483648 ≤ (H16.1 361 4) ∧ (H16.1 361 4) ≤ 2147483647 := kn (x := kx_361) hI17 rfl 4
      exact ⟨_, rfl, (by omega), hI17, hf20⟩

/-! Reader.readFunction -/
set_option maxRecDepth 100000 in
theorem f_Reader_readFunction_cut {d : Nat} (hd : 4 ≤ d) {H : hp} (hI : Inv H)   : ∀ w : Nat, (∀ (H1 : hp), Inv H1 → fq [(18, 4), (361, 3), (361, 4), (361, 5)] [19, 20, 21, 22] false H H1 → ∀ (x1 : Int) (x2 : Int) (x3 : Int) , (-2147483648 ≤ x1 ∧ x1 ≤ 2147483647) → (-2147483648 ≤ x2 ∧ x2 ≤ 2147483647) → (-2147483648 ≤ x3 ∧ x3 ≤ 2147483647) → (0 ≤ x3 ∧ x3 ≤ 5) → (0 ≤ x2 ∧ x2 ≤ 1) → (x2 = 0 ∨ (0 ≤ x1 ∧ x1 < 16)) → ((x2 = 0 ∨ H1.1 361 4 = H.1 361 4)) → (((100 - x3).toNat) < w) → hG (zs zK) d mt_66 70 [(0, .inr (.inr 361)), (1, .inl x1), (2, .inl x2), (3, .inl x3)] [] H1 (fun r9 H9 => ∃ z : Int, r9 = some (.inl z) ∧ ((0 ≤ z ∧ z ≤ 1) ∧ ((z = 0 ∨ H9.1 361 4 = H.1 361 4))) ∧ Inv H9 ∧ fq [(18, 4), (361, 3), (361, 4), (361, 5)] [19, 20, 21, 22] false H H9)) := by
  intro w
  induction w with
  | zero => exact fun _ _ _ _ _ _ _ _ _ _ _ _ _ h => absurd h (Nat.not_lt_zero _)
  | succ w ih =>
    intro H1 hI1 hf1 x1 x2 x3 hx1 hx2 hx3 hi0 hi1 hi2 hi3 hw
    have g36 : -2147483648 ≤ (H1.1 361 4) ∧ (H1.1 361 4) ≤ 2147483647 := kn (x := kx_361) hI1 rfl 4
    refine k_run 1 (pc' := 71) (l' := [(0, .inr (.inr 361)), (1, .inl x1), (2, .inl x2), (3, .inl x3)]) (st' := [.inl x2]) rfl ?_
    refine h_zeq (off := 72) (t := 143) rfl rfl (by omega) (fun c37 => ?_) (fun c37 => ?_)
    · refine k_run 0 (pc' := 143) (l' := [(0, .inr (.inr 361)), (1, .inl x1), (2, .inl x2), (3, .inl x3)]) (st' := []) rfl ?_
      refine k_run 1 (pc' := 144) (l' := [(0, .inr (.inr 361)), (1, .inl x1), (2, .inl x2), (3, .inl x3)]) (st' := [.inl x2]) rfl ?_
      refine h_retz (x := x2) rfl rfl (by omega) ?_
      exact ⟨_, rfl, (by omega), hI1, hf1⟩
    · refine k_run 0 (pc' := 74) (l' := [(0, .inr (.inr 361)), (1, .inl x1), (2, .inl x2), (3, .inl x3)]) (st' := []) rfl ?_
      refine k_run 2 (pc' := 76) (l' := [(0, .inr (.inr 361)), (1, .inl x1), (2, .inl x2), (3, .inl x3)]) (st' := [.inl 4, .inl x3]) rfl ?_
      refine h_igt (off := 67) (t := 143) rfl rfl (by omega) (by decide) (fun c38 => ?_) (fun c38 => ?_)
      · refine k_run 0 (pc' := 143) (l' := [(0, .inr (.inr 361)), (1, .inl x1), (2, .inl x2), (3, .inl x3)]) (st' := []) rfl ?_
        refine k_run 1 (pc' := 144) (l' := [(0, .inr (.inr 361)), (1, .inl x1), (2, .inl x2), (3, .inl x3)]) (st' := [.inl x2]) rfl ?_
        refine h_retz (x := x2) rfl rfl (by omega) ?_
        exact ⟨_, rfl, (by omega), hI1, hf1⟩
      · refine k_run 0 (pc' := 79) (l' := [(0, .inr (.inr 361)), (1, .inl x1), (2, .inl x2), (3, .inl x3)]) (st' := []) rfl ?_
        refine k_run 1 (pc' := 80) (l' := [(0, .inr (.inr 361)), (1, .inl x1), (2, .inl x2), (3, .inl x3)]) (st' := [.inr (.inr 361)]) rfl ?_
        refine h_cv (i := 72) (j := 83) (b := 361) (M' := mt_83) (xs := []) (rest := []) rfl rfl rfl rfl (zs_K (x := kx_361) rfl (by decide)) rfl (Nat.le_of_ble_eq_true rfl) (Nat.le_of_ble_eq_true rfl) (by omega) (f_Reader_token (by omega) hI1 ) ?_
        rintro _ _ ⟨z43, rfl, g39, rfl⟩
        refine k_run 0 (pc' := 83) (l' := [(0, .inr (.inr 361)), (1, .inl x1), (2, .inl x2), (3, .inl x3)]) (st' := [.inl z43]) rfl ?_
        refine k_run 1 (pc' := 85) (l' := [(0, .inr (.inr 361)), (1, .inl x1), (2, .inl x2), (3, .inl x3)]) (st' := [.inl 62, .inl z43]) rfl ?_
        refine h_ine (off := 58) (t := 143) rfl rfl (by omega) (by decide) (fun c44 => ?_) (fun c44 => ?_)
        · refine k_run 0 (pc' := 143) (l' := [(0, .inr (.inr 361)), (1, .inl x1), (2, .inl x2), (3, .inl x3)]) (st' := []) rfl ?_
          refine k_run 1 (pc' := 144) (l' := [(0, .inr (.inr 361)), (1, .inl x1), (2, .inl x2), (3, .inl x3)]) (st' := [.inl x2]) rfl ?_
          refine h_retz (x := x2) rfl rfl (by omega) ?_
          exact ⟨_, rfl, (by omega), hI1, hf1⟩
        · refine k_run 0 (pc' := 88) (l' := [(0, .inr (.inr 361)), (1, .inl x1), (2, .inl x2), (3, .inl x3)]) (st' := []) rfl ?_
          refine k_run 2 (pc' := 90) (l' := [(0, .inr (.inr 361)), (1, .inl x1), (2, .inl x2), (3, .inl x3)]) (st' := [.inl 4, .inl x3]) rfl ?_
          refine h_ine (off := 9) (t := 99) rfl rfl (by omega) (by decide) (fun c45 => ?_) (fun c45 => ?_)
          · refine k_run 0 (pc' := 99) (l' := [(0, .inr (.inr 361)), (1, .inl x1), (2, .inl x2), (3, .inl x3)]) (st' := []) rfl ?_
            refine k_run 8 (pc' := 117) (l' := [(0, .inr (.inr 361)), (1, .inl x1), (2, .inl x2), (3, .inl x3)]) (st' := [.inl x1, .inr (.inr 20), .inr (.inr 18)]) rfl ?_
            refine k_ild (c := 20) (j := (x1).toNat) (i := x1) (x := kx_20) rfl rfl (by decide) rfl (by decide) (by omega) (by omega) ?_
            have g46 : -2 ≤ (H1.1 20 (x1).toNat) ∧ (H1.1 20 (x1).toNat) ≤ 100 := kn (x := kx_20) hI1 rfl (x1).toNat
            refine k_run 0 (pc' := 118) (l' := [(0, .inr (.inr 361)), (1, .inl x1), (2, .inl x2), (3, .inl x3)]) (st' := [.inl (H1.1 20 (x1).toNat), .inr (.inr 18)]) rfl ?_
            refine h_cv (i := 131) (j := 44) (b := 18) (M' := mt_44) (xs := [.inl (H1.1 20 (x1).toNat)]) (rest := []) rfl rfl rfl rfl (zs_K (x := kx_18) rfl (by decide)) rfl (Nat.le_of_ble_eq_true rfl) (Nat.le_of_ble_eq_true rfl) (by omega) (k_Symbols_addArgument_18 (by omega) hI1 (by omega) (by omega)) ?_
            rintro _ H48 ⟨rfl, hI49, hq50⟩
            have hf51 : fq [(18, 4), (361, 3), (361, 4), (361, 5)] [19, 20, 21, 22] false H H48 := fq_t hf1 hq50 rfl rfl rfl
            refine k_run 0 (pc' := 121) (l' := [(0, .inr (.inr 361)), (1, .inl x1), (2, .inl x2), (3, .inl x3)]) (st' := []) rfl ?_
            refine k_run 3 (pc' := 126) (l' := [(0, .inr (.inr 361)), (1, .inl x1), (2, .inl x2), (3, .inl x3)]) (st' := [.inl (H48.1 361 3), .inr (.inr 361)]) rfl ?_
            have g52 : -2147483648 ≤ (H48.1 361 3) ∧ (H48.1 361 3) ≤ 2147483647 := kn (x := kx_361) hI49 rfl 3
            have e53 : (H48.1 361 3) = (H1.1 361 3) := (hq50.1 361 3 rfl (by decide) (by decide)).1
            refine k_run 2 (pc' := 128) (l' := [(0, .inr (.inr 361)), (1, .inl x1), (2, .inl x2), (3, .inl x3)]) (st' := [.inl ((H48.1 361 3) + 1), .inr (.inr 361)]) rfl ?_
            refine k_putw (a := 361) (x := kx_361) rfl rfl rfl (by decide) (by decide) rfl rfl rfl rfl hI49 rfl (fun H54 hI55 hw56 => ?_)
            have hf58 : fq [(18, 4), (361, 3), (361, 4), (361, 5)] [19, 20, 21, 22] false H H54 := fq_w hf51 hw56 (fpo (by decide) rfl)
            refine k_run 0 (pc' := 131) (l' := [(0, .inr (.inr 361)), (1, .inl x1), (2, .inl x2), (3, .inl x3)]) (st' := []) rfl ?_
            refine k_run 2 (pc' := 133) (l' := [(0, .inr (.inr 361)), (1, .inl x1), (2, .inl x2), (3, .inl x3)]) (st' := [.inl x1, .inr (.inr 361)]) rfl ?_
            refine h_cv (i := 135) (j := 67) (b := 361) (M' := mt_67) (xs := [.inl x1]) (rest := []) rfl rfl rfl rfl (zs_K (x := kx_361) rfl (by decide)) rfl (Nat.le_of_ble_eq_true rfl) (Nat.le_of_ble_eq_true rfl) (by omega) (f_Reader_readResult (by omega) hI55 (by omega) (by omega)) ?_
            rintro _ H60 ⟨z63, rfl, g59, hI61, hq62⟩
            have hf64 : fq [(18, 4), (361, 3), (361, 4), (361, 5)] [19, 20, 21, 22] false H H60 := fq_t hf58 hq62 rfl rfl rfl
            refine k_run 0 (pc' := 136) (l' := [(0, .inr (.inr 361)), (1, .inl x1), (2, .inl x2), (3, .inl x3)]) (st' := [.inl z63]) rfl ?_
            refine k_run 3 (pc' := 70) (l' := [(0, .inr (.inr 361)), (1, .inl x1), (2, .inl z63), (3, .inl (x3 + 1))]) (st' := []) rfl ?_
            have g65 : -2147483648 ≤ (H60.1 361 4) ∧ (H60.1 361 4) ≤ 2147483647 := kn (x := kx_361) hI61 rfl 4
            exact ih H60 hI61 hf64 x1 z63 (x3 + 1) (by omega) (by omega) (by omega) (by omega) (by omega) (by omega) (by omega) (by omega)
          · refine k_run 0 (pc' := 93) (l' := [(0, .inr (.inr 361)), (1, .inl x1), (2, .inl x2), (3, .inl x3)]) (st' := []) rfl ?_
            refine k_run 2 (pc' := 95) (l' := [(0, .inr (.inr 361)), (1, .inl x1), (2, .inl x2), (3, .inl x3)]) (st' := [.inl 5, .inr (.inr 361)]) rfl ?_
            refine h_cv (i := 128) (j := 86) (b := 361) (M' := mt_86) (xs := [.inl 5]) (rest := []) rfl rfl rfl rfl (zs_K (x := kx_361) rfl (by decide)) rfl (Nat.le_of_ble_eq_true rfl) (Nat.le_of_ble_eq_true rfl) (by omega) (f_Reader_fails (by omega) hI1 (by decide)) ?_
            rintro _ H67 ⟨z70, rfl, g66, hI68, hq69⟩
            have hf71 : fq [(18, 4), (361, 3), (361, 4), (361, 5)] [19, 20, 21, 22] false H H67 := fq_t hf1 hq69 rfl rfl rfl
            refine k_run 0 (pc' := 98) (l' := [(0, .inr (.inr 361)), (1, .inl x1), (2, .inl x2), (3, .inl x3)]) (st' := [.inl z70]) rfl ?_
            refine h_retz (x := z70) rfl rfl (by omega) ?_
            have g72 : -2147483648 ≤ (H67.1 361 4) ∧ (H67.1 361 4) ≤ 2147483647 := kn (x := kx_361) hI68 rfl 4
            exact ⟨_, rfl, (by omega), hI68, hf71⟩
set_option maxRecDepth 100000 in
theorem f_Reader_readFunction {d : Nat} (hd : 4 ≤ d) {H : hp} (hI : Inv H)   : hG (zs zK) d mt_66 0 (zargs 0 [.inr (.inr 361)]) [] H (fun r9 H9 => ∃ z : Int, r9 = some (.inl z) ∧ ((0 ≤ z ∧ z ≤ 1) ∧ ((z = 0 ∨ H9.1 361 4 = H.1 361 4))) ∧ Inv H9 ∧ fq [(18, 4), (361, 3), (361, 4), (361, 5)] [19, 20, 21, 22] false H H9) := by
  refine k_run 0 (pc' := 0) (l' := [(0, .inr (.inr 361))]) (st' := []) rfl ?_
  refine k_run 3 (pc' := 5) (l' := [(0, .inr (.inr 361))]) (st' := [.inl (H.1 361 3), .inr (.inr 361)]) rfl ?_
  have g1 : -2147483648 ≤ (H.1 361 3) ∧ (H.1 361 3) ≤ 2147483647 := kn (x := kx_361) hI rfl 3
  refine k_run 2 (pc' := 7) (l' := [(0, .inr (.inr 361))]) (st' := [.inl ((H.1 361 3) + 1), .inr (.inr 361)]) rfl ?_
  refine k_putw (a := 361) (x := kx_361) rfl rfl rfl (by decide) (by decide) rfl rfl rfl rfl hI rfl (fun H2 hI3 hw4 => ?_)
  have hf6 : fq [(18, 4), (361, 3), (361, 4), (361, 5)] [19, 20, 21, 22] false H H2 := fq_w (fq_rf _ _ _ _) hw4 (fpo (by decide) rfl)
  refine k_run 0 (pc' := 10) (l' := [(0, .inr (.inr 361))]) (st' := []) rfl ?_
  refine k_run 6 (pc' := 20) (l' := [(0, .inr (.inr 361))]) (st' := [.inl (-1), .inl 2, .inr (.inr 18), .inr (.inr 361)]) rfl ?_
  refine h_cv (i := 113) (j := 78) (b := 361) (M' := mt_78) (xs := [.inl (-1), .inl 2, .inr (.inr 18)]) (rest := []) rfl rfl rfl rfl (zs_K (x := kx_361) rfl (by decide)) rfl (Nat.le_of_ble_eq_true rfl) (Nat.le_of_ble_eq_true rfl) (by omega) (f_Reader_tellName_18 (by omega) hI3 (by decide) (by decide) (by omega)) ?_
  rintro _ H8 ⟨z11, rfl, g7, hI9, hq10⟩
  have hf12 : fq [(18, 4), (361, 3), (361, 4), (361, 5)] [19, 20, 21, 22] false H H8 := fq_t hf6 hq10 rfl rfl rfl
  refine k_run 0 (pc' := 23) (l' := [(0, .inr (.inr 361))]) (st' := [.inl z11]) rfl ?_
  refine h_zeq (off := 12) (t := 35) rfl rfl (by omega) (fun c13 => ?_) (fun c13 => ?_)
  · refine k_run 0 (pc' := 35) (l' := [(0, .inr (.inr 361))]) (st' := []) rfl ?_
    refine k_run 1 (pc' := 36) (l' := [(0, .inr (.inr 361))]) (st' := [.inl 0]) rfl ?_
    refine h_retz (x := 0) rfl rfl (by decide) ?_
    have g14 : -2147483648 ≤ (H8.1 361 4) ∧ (H8.1 361 4) ≤ 2147483647 := kn (x := kx_361) hI9 rfl 4
    exact ⟨_, rfl, (by omega), hI9, hf12⟩
  · refine k_run 0 (pc' := 26) (l' := [(0, .inr (.inr 361))]) (st' := []) rfl ?_
    refine k_run 2 (pc' := 29) (l' := [(0, .inr (.inr 361))]) (st' := [.inl 58, .inr (.inr 361)]) rfl ?_
    refine h_cv (i := 92) (j := 82) (b := 361) (M' := mt_82) (xs := [.inl 58]) (rest := []) rfl rfl rfl rfl (zs_K (x := kx_361) rfl (by decide)) rfl (Nat.le_of_ble_eq_true rfl) (Nat.le_of_ble_eq_true rfl) (by omega) (f_Reader_take (by omega) hI9 (by decide)) ?_
    rintro _ H16 ⟨z19, rfl, g15, hI17, hq18⟩
    have hf20 : fq [(18, 4), (361, 3), (361, 4), (361, 5)] [19, 20, 21, 22] false H H16 := fq_t hf12 hq18 rfl rfl rfl
    refine k_run 0 (pc' := 32) (l' := [(0, .inr (.inr 361))]) (st' := [.inl z19]) rfl ?_
    refine h_zne (off := 5) (t := 37) rfl rfl (by omega) (fun c21 => ?_) (fun c21 => ?_)
    · refine k_run 0 (pc' := 37) (l' := [(0, .inr (.inr 361))]) (st' := []) rfl ?_
      refine k_run 4 (pc' := 47) (l' := [(0, .inr (.inr 361))]) (st' := [.inl (H16.1 18 4)]) rfl ?_
      have g22 : 0 ≤ (H16.1 18 4) ∧ (H16.1 18 4) ≤ 16 := kn (x := kx_18) hI17 rfl 4
      have e23 : (H16.1 18 4) = (H8.1 18 4) := (hq18.1 18 4 rfl (by decide) (by decide)).1
      refine k_run 4 (pc' := 51) (l' := [(0, .inr (.inr 361)), (1, .inl ((H16.1 18 4) - 1))]) (st' := [.inl ((H16.1 18 4) - 1)]) rfl ?_
      refine h_zlt (off := 15) (t := 66) rfl rfl (by omega) (fun c24 => ?_) (fun c24 => ?_)
      · refine k_run 0 (pc' := 66) (l' := [(0, .inr (.inr 361)), (1, .inl ((H16.1 18 4) - 1))]) (st' := []) rfl ?_
        refine k_run 4 (pc' := 70) (l' := [(0, .inr (.inr 361)), (1, .inl ((H16.1 18 4) - 1)), (2, .inl 0), (3, .inl 0)]) (st' := []) rfl ?_
        have g25 : -2147483648 ≤ (H16.1 361 4) ∧ (H16.1 361 4) ≤ 2147483647 := kn (x := kx_361) hI17 rfl 4
        exact (f_Reader_readFunction_cut hd hI  _) H16 hI17 hf20 ((H16.1 18 4) - 1) (0 : Int) (0 : Int) (by omega) (by decide) (by decide) (by omega) (by omega) (by omega) (by omega) (Nat.lt_succ_self _)
      · refine k_run 0 (pc' := 54) (l' := [(0, .inr (.inr 361)), (1, .inl ((H16.1 18 4) - 1))]) (st' := []) rfl ?_
        refine k_run 2 (pc' := 56) (l' := [(0, .inr (.inr 361)), (1, .inl ((H16.1 18 4) - 1))]) (st' := [.inl ((H16.1 18 4) - 1), .inr (.inr 361)]) rfl ?_
        refine h_cv (i := 135) (j := 67) (b := 361) (M' := mt_67) (xs := [.inl ((H16.1 18 4) - 1)]) (rest := []) rfl rfl rfl rfl (zs_K (x := kx_361) rfl (by decide)) rfl (Nat.le_of_ble_eq_true rfl) (Nat.le_of_ble_eq_true rfl) (by omega) (f_Reader_readResult (by omega) hI17 (by omega) (by omega)) ?_
        rintro _ H27 ⟨z30, rfl, g26, hI28, hq29⟩
        have hf31 : fq [(18, 4), (361, 3), (361, 4), (361, 5)] [19, 20, 21, 22] false H H27 := fq_t hf20 hq29 rfl rfl rfl
        refine k_run 0 (pc' := 59) (l' := [(0, .inr (.inr 361)), (1, .inl ((H16.1 18 4) - 1))]) (st' := [.inl z30]) rfl ?_
        refine h_zeq (off := 7) (t := 66) rfl rfl (by omega) (fun c32 => ?_) (fun c32 => ?_)
        · refine k_run 0 (pc' := 66) (l' := [(0, .inr (.inr 361)), (1, .inl ((H16.1 18 4) - 1))]) (st' := []) rfl ?_
          refine k_run 4 (pc' := 70) (l' := [(0, .inr (.inr 361)), (1, .inl ((H16.1 18 4) - 1)), (2, .inl 0), (3, .inl 0)]) (st' := []) rfl ?_
          have g33 : -2147483648 ≤ (H27.1 361 4) ∧ (H27.1 361 4) ≤ 2147483647 := kn (x := kx_361) hI28 rfl 4
          exact (f_Reader_readFunction_cut hd hI  _) H27 hI28 hf31 ((H16.1 18 4) - 1) (0 : Int) (0 : Int) (by omega) (by decide) (by decide) (by omega) (by omega) (by omega) (by omega) (Nat.lt_succ_self _)
        · refine k_run 0 (pc' := 62) (l' := [(0, .inr (.inr 361)), (1, .inl ((H16.1 18 4) - 1))]) (st' := []) rfl ?_
          refine k_run 5 (pc' := 70) (l' := [(0, .inr (.inr 361)), (1, .inl ((H16.1 18 4) - 1)), (2, .inl 1), (3, .inl 0)]) (st' := []) rfl ?_
          have g34 : -2147483648 ≤ (H27.1 361 4) ∧ (H27.1 361 4) ≤ 2147483647 := kn (x := kx_361) hI28 rfl 4
          exact (f_Reader_readFunction_cut hd hI  _) H27 hI28 hf31 ((H16.1 18 4) - 1) (1 : Int) (0 : Int) (by omega) (by decide) (by decide) (by omega) (by omega) (by omega) (by omega) (Nat.lt_succ_self _)
    · refine k_run 0 (pc' := 35) (l' := [(0, .inr (.inr 361))]) (st' := []) rfl ?_
      refine k_run 1 (pc' := 36) (l' := [(0, .inr (.inr 361))]) (st' := [.inl 0]) rfl ?_
      refine h_retz (x := 0) rfl rfl (by decide) ?_
      have g35 : -2147483648 ≤ (H16.1 361 4) ∧ (H16.1 361 4) ≤ 2147483647 := kn (x := kx_361) hI17 rfl 4
      exact ⟨_, rfl, (by omega), hI17, hf20⟩

/-! the class: terms and patterns are read -/
/-- a term is read at depth b with 10 - b ≤ m -/
def RTc9 (m : Nat) : Prop := ∀ {d : Nat} (_ : 3 * m + 10 ≤ d) {H : hp} (_ : Inv H) {a b c : Int} (_ : -2147483648 ≤ a ∧ a ≤ 2147483647) (_ : -2147483648 ≤ b ∧ b ≤ 2147483647) (_ : 0 ≤ c ∧ c ≤ 1) (_ : -2 ≤ a ∧ a ≤ 100 ∧ 0 ≤ b ∧ b ≤ 10 ∧ 10 ≤ b + (m : Int)), hG (zs zK) d mt_73 0 (zargs 0 [.inr (.inr 361), .inl a, .inl b, .inl c]) [] H (fun r9 H9 => ∃ z : Int, r9 = some (.inl z) ∧ ((0 ≤ z ∧ z ≤ 1) ∧ (z = 0 ∨ H9.1 361 4 = H.1 361 4)) ∧ Inv H9 ∧ fq [(361, 3), (361, 4), (361, 5), (361, 9)] [362] true H H9)
/-- as an atom -/
def RT1c9 (m : Nat) : Prop := ∀ {d : Nat} (_ : 3 * m + 8 ≤ d) {H : hp} (_ : Inv H) {a b : Int} (_ : -2147483648 ≤ a ∧ a ≤ 2147483647) (_ : -2147483648 ≤ b ∧ b ≤ 2147483647) (_ : -2 ≤ a ∧ a ≤ 100 ∧ 0 ≤ b ∧ b ≤ 10 ∧ 10 ≤ b + (m : Int)), hG (zs zK) d mt_73 0 (zargs 0 [.inr (.inr 361), .inl a, .inl b, .inl 1]) [] H (fun r9 H9 => ∃ z : Int, r9 = some (.inl z) ∧ ((0 ≤ z ∧ z ≤ 1) ∧ (z = 0 ∨ H9.1 361 4 = H.1 361 4)) ∧ Inv H9 ∧ fq [(361, 3), (361, 4), (361, 5), (361, 9)] [362] true H H9)
def RA2c9 (m : Nat) : Prop := ∀ {d : Nat} (_ : 3 * m + 9 ≤ d) {H : hp} (_ : Inv H) {x a b c : Int} (_ : -2147483648 ≤ x ∧ x ≤ 2147483647) (_ : -2147483648 ≤ a ∧ a ≤ 2147483647) (_ : -2147483648 ≤ b ∧ b ≤ 2147483647) (_ : 0 ≤ c ∧ c ≤ 1) (_ : 0 ≤ x ∧ x < 16) (_ : -2 ≤ a ∧ a ≤ 100 ∧ 0 ≤ b ∧ b ≤ 10 ∧ 10 ≤ b + (m : Int)), hG (zs zK) d mt_74 0 (zargs 0 [.inr (.inr 361), .inl 2, .inl x, .inl a, .inl b, .inl c]) [] H (fun r9 H9 => ∃ z : Int, r9 = some (.inl z) ∧ ((0 ≤ z ∧ z ≤ 1) ∧ (z = 0 ∨ H9.1 361 4 = H.1 361 4)) ∧ Inv H9 ∧ fq [(361, 3), (361, 4), (361, 5), (361, 9)] [362] true H H9)
def RA1c9 (m : Nat) : Prop := ∀ {d : Nat} (_ : 3 * m + 9 ≤ d) {H : hp} (_ : Inv H) {x a b c : Int} (_ : -2147483648 ≤ x ∧ x ≤ 2147483647) (_ : -2147483648 ≤ a ∧ a ≤ 2147483647) (_ : -2147483648 ≤ b ∧ b ≤ 2147483647) (_ : 0 ≤ c ∧ c ≤ 1) (_ : 0 ≤ x ∧ x < 16) (_ : -2 ≤ a ∧ a ≤ 100 ∧ 0 ≤ b ∧ b ≤ 10 ∧ 10 ≤ b + (m : Int)), hG (zs zK) d mt_74 0 (zargs 0 [.inr (.inr 361), .inl 1, .inl x, .inl a, .inl b, .inl c]) [] H (fun r9 H9 => ∃ z : Int, r9 = some (.inl z) ∧ ((0 ≤ z ∧ z ≤ 1) ∧ (z = 0 ∨ H9.1 361 4 = H.1 361 4)) ∧ Inv H9 ∧ fq [(361, 3), (361, 4), (361, 5), (361, 9)] [362] true H H9)

/-! Reader.readApplied -/
set_option maxRecDepth 100000 in
theorem f_readApplied_a2_cut {d : Nat} (hd : 3 ≤ d) {H : hp} (hI : Inv H) {x : Int} {a : Int} {b : Int} (hx : -2147483648 ≤ x ∧ x ≤ 2147483647) (ha : -2147483648 ≤ a ∧ a ≤ 2147483647) (hb : -2147483648 ≤ b ∧ b ≤ 2147483647) (hp0 : 0 ≤ x ∧ x < 16) (hp1 : -2 ≤ a ∧ a ≤ 100 ∧ 0 ≤ b ∧ b ≤ 10) : ∀ w : Nat, (∀ (H1 : hp), Inv H1 → fq [(361, 3), (361, 4), (361, 5), (361, 9)] [362] true H H1 → ∀ (x7 : Int) (x8 : Int) (x9 : Int) , (-2147483648 ≤ x7 ∧ x7 ≤ 2147483647) → (-2147483648 ≤ x8 ∧ x8 ≤ 2147483647) → (-2147483648 ≤ x9 ∧ x9 ≤ 2147483647) → (0 ≤ x9) → (x7 ≤ 0) → (0 ≤ x8 ∧ x8 ≤ 1) → ((x8 = 0 ∨ H1.1 361 4 = H.1 361 4)) → (((100 - x9).toNat) < w) → hG (zs zK) d mt_74 86 [(0, .inr (.inr 361)), (1, .inl 2), (2, .inl x), (3, .inl a), (4, .inl b), (5, .inl 1), (6, .inr (.inr 18)), (7, .inl x7), (8, .inl x8), (9, .inl x9)] [] H1 (fun r9 H9 => ∃ z : Int, r9 = some (.inl z) ∧ ((0 ≤ z ∧ z ≤ 1) ∧ ((z = 0 ∨ H9.1 361 4 = H.1 361 4))) ∧ Inv H9 ∧ fq [(361, 3), (361, 4), (361, 5), (361, 9)] [362] true H H9)) := by
  intro w
  induction w with
  | zero => exact fun _ _ _ _ _ _ _ _ _ _ _ _ _ h => absurd h (Nat.not_lt_zero _)
  | succ w ih =>
    intro H1 hI1 hf1 x7 x8 x9 hx7 hx8 hx9 hi0 hi1 hi2 hi3 hw
    have g44 : -2147483648 ≤ (H1.1 361 4) ∧ (H1.1 361 4) ≤ 2147483647 := kn (x := kx_361) hI1 rfl 4
    refine k_run 1 (pc' := 88) (l' := [(0, .inr (.inr 361)), (1, .inl 2), (2, .inl x), (3, .inl a), (4, .inl b), (5, .inl 1), (6, .inr (.inr 18)), (7, .inl x7), (8, .inl x8), (9, .inl x9)]) (st' := [.inl x8]) rfl ?_
    refine h_zeq (off := 33) (t := 121) rfl rfl (by omega) (fun c45 => ?_) (fun c45 => ?_)
    · refine k_run 0 (pc' := 121) (l' := [(0, .inr (.inr 361)), (1, .inl 2), (2, .inl x), (3, .inl a), (4, .inl b), (5, .inl 1), (6, .inr (.inr 18)), (7, .inl x7), (8, .inl x8), (9, .inl x9)]) (st' := []) rfl ?_
      refine k_run 1 (pc' := 123) (l' := [(0, .inr (.inr 361)), (1, .inl 2), (2, .inl x), (3, .inl a), (4, .inl b), (5, .inl 1), (6, .inr (.inr 18)), (7, .inl x7), (8, .inl x8), (9, .inl x9)]) (st' := [.inl x8]) rfl ?_
      refine h_retz (x := x8) rfl rfl (by omega) ?_
      exact ⟨_, rfl, (by omega), hI1, hf1⟩
    · refine k_run 0 (pc' := 91) (l' := [(0, .inr (.inr 361)), (1, .inl 2), (2, .inl x), (3, .inl a), (4, .inl b), (5, .inl 1), (6, .inr (.inr 18)), (7, .inl x7), (8, .inl x8), (9, .inl x9)]) (st' := []) rfl ?_
      refine k_run 2 (pc' := 95) (l' := [(0, .inr (.inr 361)), (1, .inl 2), (2, .inl x), (3, .inl a), (4, .inl b), (5, .inl 1), (6, .inr (.inr 18)), (7, .inl x7), (8, .inl x8), (9, .inl x9)]) (st' := [.inl x7, .inl x9]) rfl ?_
      refine h_ige (off := 26) (t := 121) rfl rfl (by omega) (by omega) (fun c46 => ?_) (fun c46 => ?_)
      · refine k_run 0 (pc' := 121) (l' := [(0, .inr (.inr 361)), (1, .inl 2), (2, .inl x), (3, .inl a), (4, .inl b), (5, .inl 1), (6, .inr (.inr 18)), (7, .inl x7), (8, .inl x8), (9, .inl x9)]) (st' := []) rfl ?_
        refine k_run 1 (pc' := 123) (l' := [(0, .inr (.inr 361)), (1, .inl 2), (2, .inl x), (3, .inl a), (4, .inl b), (5, .inl 1), (6, .inr (.inr 18)), (7, .inl x7), (8, .inl x8), (9, .inl x9)]) (st' := [.inl x8]) rfl ?_
        refine h_retz (x := x8) rfl rfl (by omega) ?_
        exact ⟨_, rfl, (by omega), hI1, hf1⟩
      · refine k_run 0 (pc' := 98) (l' := [(0, .inr (.inr 361)), (1, .inl 2), (2, .inl x), (3, .inl a), (4, .inl b), (5, .inl 1), (6, .inr (.inr 18)), (7, .inl x7), (8, .inl x8), (9, .inl x9)]) (st' := []) rfl ?_
        exfalso
        omega
set_option maxRecDepth 100000 in
theorem f_readApplied_a2 {d : Nat} (hd : 3 ≤ d) {H : hp} (hI : Inv H) {x : Int} {a : Int} {b : Int} (hx : -2147483648 ≤ x ∧ x ≤ 2147483647) (ha : -2147483648 ≤ a ∧ a ≤ 2147483647) (hb : -2147483648 ≤ b ∧ b ≤ 2147483647) (hp0 : 0 ≤ x ∧ x < 16) (hp1 : -2 ≤ a ∧ a ≤ 100 ∧ 0 ≤ b ∧ b ≤ 10) : hG (zs zK) d mt_74 0 (zargs 0 [.inr (.inr 361), .inl 2, .inl x, .inl a, .inl b, .inl 1]) [] H (fun r9 H9 => ∃ z : Int, r9 = some (.inl z) ∧ ((0 ≤ z ∧ z ≤ 1) ∧ ((z = 0 ∨ H9.1 361 4 = H.1 361 4))) ∧ Inv H9 ∧ fq [(361, 3), (361, 4), (361, 5), (361, 9)] [362] true H H9) := by
  refine k_run 0 (pc' := 0) (l' := [(0, .inr (.inr 361)), (1, .inl 2), (2, .inl x), (3, .inl a), (4, .inl b), (5, .inl 1)]) (st' := []) rfl ?_
  refine k_run 2 (pc' := 2) (l' := [(0, .inr (.inr 361)), (1, .inl 2), (2, .inl x), (3, .inl a), (4, .inl b), (5, .inl 1)]) (st' := [.inl 2, .inl 2]) rfl ?_
  refine h_ine (off := 13) (t := 15) rfl rfl (by decide) (by decide) (fun c => absurd c (by decide)) (fun _ => ?_)
  refine k_run 0 (pc' := 5) (l' := [(0, .inr (.inr 361)), (1, .inl 2), (2, .inl x), (3, .inl a), (4, .inl b), (5, .inl 1)]) (st' := []) rfl ?_
  refine k_run 8 (pc' := 30) (l' := [(0, .inr (.inr 361)), (1, .inl 2), (2, .inl x), (3, .inl a), (4, .inl b), (5, .inl 1), (6, .inr (.inr 18))]) (st' := [.inl x, .inr (.inr 21)]) rfl ?_
  refine k_ild (c := 21) (j := (x).toNat) (i := x) (x := kx_21) rfl rfl (by decide) rfl (by decide) (by omega) (by omega) ?_
  have g1 : 0 ≤ (H.1 21 (x).toNat) ∧ (H.1 21 (x).toNat) ≤ 4 := kn (x := kx_21) hI rfl (x).toNat
  refine k_run 0 (pc' := 31) (l' := [(0, .inr (.inr 361)), (1, .inl 2), (2, .inl x), (3, .inl a), (4, .inl b), (5, .inl 1), (6, .inr (.inr 18))]) (st' := [.inl (H.1 21 (x).toNat)]) rfl ?_
  refine k_run 2 (pc' := 35) (l' := [(0, .inr (.inr 361)), (1, .inl 2), (2, .inl x), (3, .inl a), (4, .inl b), (5, .inl 1), (6, .inr (.inr 18)), (7, .inl (H.1 21 (x).toNat))]) (st' := [.inl 1]) rfl ?_
  refine h_zeq (off := 14) (t := 49) rfl rfl (by decide) (fun c => absurd c (by decide)) (fun _ => ?_)
  refine k_run 0 (pc' := 38) (l' := [(0, .inr (.inr 361)), (1, .inl 2), (2, .inl x), (3, .inl a), (4, .inl b), (5, .inl 1), (6, .inr (.inr 18)), (7, .inl (H.1 21 (x).toNat))]) (st' := []) rfl ?_
  refine k_run 1 (pc' := 40) (l' := [(0, .inr (.inr 361)), (1, .inl 2), (2, .inl x), (3, .inl a), (4, .inl b), (5, .inl 1), (6, .inr (.inr 18)), (7, .inl (H.1 21 (x).toNat))]) (st' := [.inl (H.1 21 (x).toNat)]) rfl ?_
  refine h_zle (off := 9) (t := 49) rfl rfl (by omega) (fun c2 => ?_) (fun c2 => ?_)
  · refine k_run 0 (pc' := 49) (l' := [(0, .inr (.inr 361)), (1, .inl 2), (2, .inl x), (3, .inl a), (4, .inl b), (5, .inl 1), (6, .inr (.inr 18)), (7, .inl (H.1 21 (x).toNat))]) (st' := []) rfl ?_
    refine k_run 1 (pc' := 50) (l' := [(0, .inr (.inr 361)), (1, .inl 2), (2, .inl x), (3, .inl a), (4, .inl b), (5, .inl 1), (6, .inr (.inr 18)), (7, .inl (H.1 21 (x).toNat))]) (st' := [.inl a]) rfl ?_
    refine h_zlt (off := 20) (t := 70) rfl rfl (by omega) (fun c3 => ?_) (fun c3 => ?_)
    · refine k_run 0 (pc' := 70) (l' := [(0, .inr (.inr 361)), (1, .inl 2), (2, .inl x), (3, .inl a), (4, .inl b), (5, .inl 1), (6, .inr (.inr 18)), (7, .inl (H.1 21 (x).toNat))]) (st' := []) rfl ?_
      refine k_run 4 (pc' := 75) (l' := [(0, .inr (.inr 361)), (1, .inl 2), (2, .inl x), (3, .inl a), (4, .inl b), (5, .inl 1), (6, .inr (.inr 18)), (7, .inl (H.1 21 (x).toNat))]) (st' := [.inl (H.1 21 (x).toNat), .inl x, .inl 2, .inr (.inr 361)]) rfl ?_
      refine h_cs (i := 153) (j := 48) (M' := mt_48) (xs := [.inl (H.1 21 (x).toNat), .inl x, .inl 2]) (rest := [.inr (.inr 361)]) rfl rfl rfl rfl rfl (Nat.le_of_ble_eq_true rfl) (Nat.le_of_ble_eq_true rfl) (by omega) (k_Term_codeOf (by omega)  (by decide) (by omega) (by omega)) ?_
      rintro _ _ ⟨z8, rfl, g4, rfl⟩
      refine k_run 0 (pc' := 78) (l' := [(0, .inr (.inr 361)), (1, .inl 2), (2, .inl x), (3, .inl a), (4, .inl b), (5, .inl 1), (6, .inr (.inr 18)), (7, .inl (H.1 21 (x).toNat))]) (st' := [.inl z8, .inr (.inr 361)]) rfl ?_
      refine h_cv (i := 157) (j := 77) (b := 361) (M' := mt_77) (xs := [.inl z8]) (rest := []) rfl rfl rfl rfl (zs_K (x := kx_361) rfl (by decide)) rfl (Nat.le_of_ble_eq_true rfl) (Nat.le_of_ble_eq_true rfl) (by omega) (f_Reader_addName (by omega) hI (by omega)) ?_
      rintro _ H10 ⟨z13, rfl, g9, hI11, hq12⟩
      have hf14 : fq [(361, 3), (361, 4), (361, 5), (361, 9)] [362] true H H10 := fq_t (fq_rf _ _ _ _) hq12 rfl rfl rfl
      refine k_run 0 (pc' := 81) (l' := [(0, .inr (.inr 361)), (1, .inl 2), (2, .inl x), (3, .inl a), (4, .inl b), (5, .inl 1), (6, .inr (.inr 18)), (7, .inl (H.1 21 (x).toNat))]) (st' := [.inl z13]) rfl ?_
      refine k_run 3 (pc' := 86) (l' := [(0, .inr (.inr 361)), (1, .inl 2), (2, .inl x), (3, .inl a), (4, .inl b), (5, .inl 1), (6, .inr (.inr 18)), (7, .inl (H.1 21 (x).toNat)), (8, .inl z13), (9, .inl 0)]) (st' := []) rfl ?_
      have g15 : -2147483648 ≤ (H10.1 361 4) ∧ (H10.1 361 4) ≤ 2147483647 := kn (x := kx_361) hI11 rfl 4
      exact (f_readApplied_a2_cut hd hI hx ha hb hp0 hp1 _) H10 hI11 hf14 (H.1 21 (x).toNat) z13 (0 : Int) (by omega) (by omega) (by decide) (by omega) (by omega) (by omega) (by omega) (Nat.lt_succ_self _)
    · refine k_run 0 (pc' := 53) (l' := [(0, .inr (.inr 361)), (1, .inl 2), (2, .inl x), (3, .inl a), (4, .inl b), (5, .inl 1), (6, .inr (.inr 18)), (7, .inl (H.1 21 (x).toNat))]) (st' := []) rfl ?_
      refine k_run 3 (pc' := 59) (l' := [(0, .inr (.inr 361)), (1, .inl 2), (2, .inl x), (3, .inl a), (4, .inl b), (5, .inl 1), (6, .inr (.inr 18)), (7, .inl (H.1 21 (x).toNat))]) (st' := [.inl x, .inr (.inr 20)]) rfl ?_
      refine k_ild (c := 20) (j := (x).toNat) (i := x) (x := kx_20) rfl rfl (by decide) rfl (by decide) (by omega) (by omega) ?_
      have g16 : -2 ≤ (H.1 20 (x).toNat) ∧ (H.1 20 (x).toNat) ≤ 100 := kn (x := kx_20) hI rfl (x).toNat
      refine k_run 0 (pc' := 60) (l' := [(0, .inr (.inr 361)), (1, .inl 2), (2, .inl x), (3, .inl a), (4, .inl b), (5, .inl 1), (6, .inr (.inr 18)), (7, .inl (H.1 21 (x).toNat))]) (st' := [.inl (H.1 20 (x).toNat)]) rfl ?_
      refine k_run 1 (pc' := 61) (l' := [(0, .inr (.inr 361)), (1, .inl 2), (2, .inl x), (3, .inl a), (4, .inl b), (5, .inl 1), (6, .inr (.inr 18)), (7, .inl (H.1 21 (x).toNat))]) (st' := [.inl a, .inl (H.1 20 (x).toNat)]) rfl ?_
      refine h_ieq (off := 9) (t := 70) rfl rfl (by omega) (by omega) (fun c17 => ?_) (fun c17 => ?_)
      · refine k_run 0 (pc' := 70) (l' := [(0, .inr (.inr 361)), (1, .inl 2), (2, .inl x), (3, .inl a), (4, .inl b), (5, .inl 1), (6, .inr (.inr 18)), (7, .inl (H.1 21 (x).toNat))]) (st' := []) rfl ?_
        refine k_run 4 (pc' := 75) (l' := [(0, .inr (.inr 361)), (1, .inl 2), (2, .inl x), (3, .inl a), (4, .inl b), (5, .inl 1), (6, .inr (.inr 18)), (7, .inl (H.1 21 (x).toNat))]) (st' := [.inl (H.1 21 (x).toNat), .inl x, .inl 2, .inr (.inr 361)]) rfl ?_
        refine h_cs (i := 153) (j := 48) (M' := mt_48) (xs := [.inl (H.1 21 (x).toNat), .inl x, .inl 2]) (rest := [.inr (.inr 361)]) rfl rfl rfl rfl rfl (Nat.le_of_ble_eq_true rfl) (Nat.le_of_ble_eq_true rfl) (by omega) (k_Term_codeOf (by omega)  (by decide) (by omega) (by omega)) ?_
        rintro _ _ ⟨z22, rfl, g18, rfl⟩
        refine k_run 0 (pc' := 78) (l' := [(0, .inr (.inr 361)), (1, .inl 2), (2, .inl x), (3, .inl a), (4, .inl b), (5, .inl 1), (6, .inr (.inr 18)), (7, .inl (H.1 21 (x).toNat))]) (st' := [.inl z22, .inr (.inr 361)]) rfl ?_
        refine h_cv (i := 157) (j := 77) (b := 361) (M' := mt_77) (xs := [.inl z22]) (rest := []) rfl rfl rfl rfl (zs_K (x := kx_361) rfl (by decide)) rfl (Nat.le_of_ble_eq_true rfl) (Nat.le_of_ble_eq_true rfl) (by omega) (f_Reader_addName (by omega) hI (by omega)) ?_
        rintro _ H24 ⟨z27, rfl, g23, hI25, hq26⟩
        have hf28 : fq [(361, 3), (361, 4), (361, 5), (361, 9)] [362] true H H24 := fq_t (fq_rf _ _ _ _) hq26 rfl rfl rfl
        refine k_run 0 (pc' := 81) (l' := [(0, .inr (.inr 361)), (1, .inl 2), (2, .inl x), (3, .inl a), (4, .inl b), (5, .inl 1), (6, .inr (.inr 18)), (7, .inl (H.1 21 (x).toNat))]) (st' := [.inl z27]) rfl ?_
        refine k_run 3 (pc' := 86) (l' := [(0, .inr (.inr 361)), (1, .inl 2), (2, .inl x), (3, .inl a), (4, .inl b), (5, .inl 1), (6, .inr (.inr 18)), (7, .inl (H.1 21 (x).toNat)), (8, .inl z27), (9, .inl 0)]) (st' := []) rfl ?_
        have g29 : -2147483648 ≤ (H24.1 361 4) ∧ (H24.1 361 4) ≤ 2147483647 := kn (x := kx_361) hI25 rfl 4
        exact (f_readApplied_a2_cut hd hI hx ha hb hp0 hp1 _) H24 hI25 hf28 (H.1 21 (x).toNat) z27 (0 : Int) (by omega) (by omega) (by decide) (by omega) (by omega) (by omega) (by omega) (Nat.lt_succ_self _)
      · refine k_run 0 (pc' := 64) (l' := [(0, .inr (.inr 361)), (1, .inl 2), (2, .inl x), (3, .inl a), (4, .inl b), (5, .inl 1), (6, .inr (.inr 18)), (7, .inl (H.1 21 (x).toNat))]) (st' := []) rfl ?_
        refine k_run 2 (pc' := 66) (l' := [(0, .inr (.inr 361)), (1, .inl 2), (2, .inl x), (3, .inl a), (4, .inl b), (5, .inl 1), (6, .inr (.inr 18)), (7, .inl (H.1 21 (x).toNat))]) (st' := [.inl 4, .inr (.inr 361)]) rfl ?_
        refine h_cv (i := 128) (j := 86) (b := 361) (M' := mt_86) (xs := [.inl 4]) (rest := []) rfl rfl rfl rfl (zs_K (x := kx_361) rfl (by decide)) rfl (Nat.le_of_ble_eq_true rfl) (Nat.le_of_ble_eq_true rfl) (by omega) (f_Reader_fails (by omega) hI (by decide)) ?_
        rintro _ H31 ⟨z34, rfl, g30, hI32, hq33⟩
        have hf35 : fq [(361, 3), (361, 4), (361, 5), (361, 9)] [362] true H H31 := fq_t (fq_rf _ _ _ _) hq33 rfl rfl rfl
        refine k_run 0 (pc' := 69) (l' := [(0, .inr (.inr 361)), (1, .inl 2), (2, .inl x), (3, .inl a), (4, .inl b), (5, .inl 1), (6, .inr (.inr 18)), (7, .inl (H.1 21 (x).toNat))]) (st' := [.inl z34]) rfl ?_
        refine h_retz (x := z34) rfl rfl (by omega) ?_
        have g36 : -2147483648 ≤ (H31.1 361 4) ∧ (H31.1 361 4) ≤ 2147483647 := kn (x := kx_361) hI32 rfl 4
        exact ⟨_, rfl, (by omega), hI32, hf35⟩
  · refine k_run 0 (pc' := 43) (l' := [(0, .inr (.inr 361)), (1, .inl 2), (2, .inl x), (3, .inl a), (4, .inl b), (5, .inl 1), (6, .inr (.inr 18)), (7, .inl (H.1 21 (x).toNat))]) (st' := []) rfl ?_
    refine k_run 2 (pc' := 45) (l' := [(0, .inr (.inr 361)), (1, .inl 2), (2, .inl x), (3, .inl a), (4, .inl b), (5, .inl 1), (6, .inr (.inr 18)), (7, .inl (H.1 21 (x).toNat))]) (st' := [.inl 2, .inr (.inr 361)]) rfl ?_
    refine h_cv (i := 128) (j := 86) (b := 361) (M' := mt_86) (xs := [.inl 2]) (rest := []) rfl rfl rfl rfl (zs_K (x := kx_361) rfl (by decide)) rfl (Nat.le_of_ble_eq_true rfl) (Nat.le_of_ble_eq_true rfl) (by omega) (f_Reader_fails (by omega) hI (by decide)) ?_
    rintro _ H38 ⟨z41, rfl, g37, hI39, hq40⟩
    have hf42 : fq [(361, 3), (361, 4), (361, 5), (361, 9)] [362] true H H38 := fq_t (fq_rf _ _ _ _) hq40 rfl rfl rfl
    refine k_run 0 (pc' := 48) (l' := [(0, .inr (.inr 361)), (1, .inl 2), (2, .inl x), (3, .inl a), (4, .inl b), (5, .inl 1), (6, .inr (.inr 18)), (7, .inl (H.1 21 (x).toNat))]) (st' := [.inl z41]) rfl ?_
    refine h_retz (x := z41) rfl rfl (by omega) ?_
    have g43 : -2147483648 ≤ (H38.1 361 4) ∧ (H38.1 361 4) ≤ 2147483647 := kn (x := kx_361) hI39 rfl 4
    exact ⟨_, rfl, (by omega), hI39, hf42⟩

/-! Reader.readApplied -/
set_option maxRecDepth 100000 in
theorem f_readApplied_a1_cut {d : Nat} (hd : 3 ≤ d) {H : hp} (hI : Inv H) {x : Int} {a : Int} {b : Int} (hx : -2147483648 ≤ x ∧ x ≤ 2147483647) (ha : -2147483648 ≤ a ∧ a ≤ 2147483647) (hb : -2147483648 ≤ b ∧ b ≤ 2147483647) (hp0 : 0 ≤ x ∧ x < 16) (hp1 : -2 ≤ a ∧ a ≤ 100 ∧ 0 ≤ b ∧ b ≤ 10) : ∀ w : Nat, (∀ (H1 : hp), Inv H1 → fq [(361, 3), (361, 4), (361, 5), (361, 9)] [362] true H H1 → ∀ (x7 : Int) (x8 : Int) (x9 : Int) , (-2147483648 ≤ x7 ∧ x7 ≤ 2147483647) → (-2147483648 ≤ x8 ∧ x8 ≤ 2147483647) → (-2147483648 ≤ x9 ∧ x9 ≤ 2147483647) → (0 ≤ x9) → (x7 ≤ 0) → (0 ≤ x8 ∧ x8 ≤ 1) → ((x8 = 0 ∨ H1.1 361 4 = H.1 361 4)) → (((100 - x9).toNat) < w) → hG (zs zK) d mt_74 86 [(0, .inr (.inr 361)), (1, .inl 1), (2, .inl x), (3, .inl a), (4, .inl b), (5, .inl 1), (6, .inr (.inr 13)), (7, .inl x7), (8, .inl x8), (9, .inl x9)] [] H1 (fun r9 H9 => ∃ z : Int, r9 = some (.inl z) ∧ ((0 ≤ z ∧ z ≤ 1) ∧ ((z = 0 ∨ H9.1 361 4 = H.1 361 4))) ∧ Inv H9 ∧ fq [(361, 3), (361, 4), (361, 5), (361, 9)] [362] true H H9)) := by
  intro w
  induction w with
  | zero => exact fun _ _ _ _ _ _ _ _ _ _ _ _ _ h => absurd h (Nat.not_lt_zero _)
  | succ w ih =>
    intro H1 hI1 hf1 x7 x8 x9 hx7 hx8 hx9 hi0 hi1 hi2 hi3 hw
    have g44 : -2147483648 ≤ (H1.1 361 4) ∧ (H1.1 361 4) ≤ 2147483647 := kn (x := kx_361) hI1 rfl 4
    refine k_run 1 (pc' := 88) (l' := [(0, .inr (.inr 361)), (1, .inl 1), (2, .inl x), (3, .inl a), (4, .inl b), (5, .inl 1), (6, .inr (.inr 13)), (7, .inl x7), (8, .inl x8), (9, .inl x9)]) (st' := [.inl x8]) rfl ?_
    refine h_zeq (off := 33) (t := 121) rfl rfl (by omega) (fun c45 => ?_) (fun c45 => ?_)
    · refine k_run 0 (pc' := 121) (l' := [(0, .inr (.inr 361)), (1, .inl 1), (2, .inl x), (3, .inl a), (4, .inl b), (5, .inl 1), (6, .inr (.inr 13)), (7, .inl x7), (8, .inl x8), (9, .inl x9)]) (st' := []) rfl ?_
      refine k_run 1 (pc' := 123) (l' := [(0, .inr (.inr 361)), (1, .inl 1), (2, .inl x), (3, .inl a), (4, .inl b), (5, .inl 1), (6, .inr (.inr 13)), (7, .inl x7), (8, .inl x8), (9, .inl x9)]) (st' := [.inl x8]) rfl ?_
      refine h_retz (x := x8) rfl rfl (by omega) ?_
      exact ⟨_, rfl, (by omega), hI1, hf1⟩
    · refine k_run 0 (pc' := 91) (l' := [(0, .inr (.inr 361)), (1, .inl 1), (2, .inl x), (3, .inl a), (4, .inl b), (5, .inl 1), (6, .inr (.inr 13)), (7, .inl x7), (8, .inl x8), (9, .inl x9)]) (st' := []) rfl ?_
      refine k_run 2 (pc' := 95) (l' := [(0, .inr (.inr 361)), (1, .inl 1), (2, .inl x), (3, .inl a), (4, .inl b), (5, .inl 1), (6, .inr (.inr 13)), (7, .inl x7), (8, .inl x8), (9, .inl x9)]) (st' := [.inl x7, .inl x9]) rfl ?_
      refine h_ige (off := 26) (t := 121) rfl rfl (by omega) (by omega) (fun c46 => ?_) (fun c46 => ?_)
      · refine k_run 0 (pc' := 121) (l' := [(0, .inr (.inr 361)), (1, .inl 1), (2, .inl x), (3, .inl a), (4, .inl b), (5, .inl 1), (6, .inr (.inr 13)), (7, .inl x7), (8, .inl x8), (9, .inl x9)]) (st' := []) rfl ?_
        refine k_run 1 (pc' := 123) (l' := [(0, .inr (.inr 361)), (1, .inl 1), (2, .inl x), (3, .inl a), (4, .inl b), (5, .inl 1), (6, .inr (.inr 13)), (7, .inl x7), (8, .inl x8), (9, .inl x9)]) (st' := [.inl x8]) rfl ?_
        refine h_retz (x := x8) rfl rfl (by omega) ?_
        exact ⟨_, rfl, (by omega), hI1, hf1⟩
      · refine k_run 0 (pc' := 98) (l' := [(0, .inr (.inr 361)), (1, .inl 1), (2, .inl x), (3, .inl a), (4, .inl b), (5, .inl 1), (6, .inr (.inr 13)), (7, .inl x7), (8, .inl x8), (9, .inl x9)]) (st' := []) rfl ?_
        exfalso
        omega
set_option maxRecDepth 100000 in
theorem f_readApplied_a1 {d : Nat} (hd : 3 ≤ d) {H : hp} (hI : Inv H) {x : Int} {a : Int} {b : Int} (hx : -2147483648 ≤ x ∧ x ≤ 2147483647) (ha : -2147483648 ≤ a ∧ a ≤ 2147483647) (hb : -2147483648 ≤ b ∧ b ≤ 2147483647) (hp0 : 0 ≤ x ∧ x < 16) (hp1 : -2 ≤ a ∧ a ≤ 100 ∧ 0 ≤ b ∧ b ≤ 10) : hG (zs zK) d mt_74 0 (zargs 0 [.inr (.inr 361), .inl 1, .inl x, .inl a, .inl b, .inl 1]) [] H (fun r9 H9 => ∃ z : Int, r9 = some (.inl z) ∧ ((0 ≤ z ∧ z ≤ 1) ∧ ((z = 0 ∨ H9.1 361 4 = H.1 361 4))) ∧ Inv H9 ∧ fq [(361, 3), (361, 4), (361, 5), (361, 9)] [362] true H H9) := by
  refine k_run 0 (pc' := 0) (l' := [(0, .inr (.inr 361)), (1, .inl 1), (2, .inl x), (3, .inl a), (4, .inl b), (5, .inl 1)]) (st' := []) rfl ?_
  refine k_run 2 (pc' := 2) (l' := [(0, .inr (.inr 361)), (1, .inl 1), (2, .inl x), (3, .inl a), (4, .inl b), (5, .inl 1)]) (st' := [.inl 2, .inl 1]) rfl ?_
  refine h_ine (off := 13) (t := 15) rfl rfl (by decide) (by decide) (fun _ => ?_) (fun c => absurd c (by decide))
  refine k_run 0 (pc' := 15) (l' := [(0, .inr (.inr 361)), (1, .inl 1), (2, .inl x), (3, .inl a), (4, .inl b), (5, .inl 1)]) (st' := []) rfl ?_
  refine k_run 7 (pc' := 30) (l' := [(0, .inr (.inr 361)), (1, .inl 1), (2, .inl x), (3, .inl a), (4, .inl b), (5, .inl 1), (6, .inr (.inr 13))]) (st' := [.inl x, .inr (.inr 16)]) rfl ?_
  refine k_ild (c := 16) (j := (x).toNat) (i := x) (x := kx_16) rfl rfl (by decide) rfl (by decide) (by omega) (by omega) ?_
  have g1 : 0 ≤ (H.1 16 (x).toNat) ∧ (H.1 16 (x).toNat) ≤ 4 := kn (x := kx_16) hI rfl (x).toNat
  refine k_run 0 (pc' := 31) (l' := [(0, .inr (.inr 361)), (1, .inl 1), (2, .inl x), (3, .inl a), (4, .inl b), (5, .inl 1), (6, .inr (.inr 13))]) (st' := [.inl (H.1 16 (x).toNat)]) rfl ?_
  refine k_run 2 (pc' := 35) (l' := [(0, .inr (.inr 361)), (1, .inl 1), (2, .inl x), (3, .inl a), (4, .inl b), (5, .inl 1), (6, .inr (.inr 13)), (7, .inl (H.1 16 (x).toNat))]) (st' := [.inl 1]) rfl ?_
  refine h_zeq (off := 14) (t := 49) rfl rfl (by decide) (fun c => absurd c (by decide)) (fun _ => ?_)
  refine k_run 0 (pc' := 38) (l' := [(0, .inr (.inr 361)), (1, .inl 1), (2, .inl x), (3, .inl a), (4, .inl b), (5, .inl 1), (6, .inr (.inr 13)), (7, .inl (H.1 16 (x).toNat))]) (st' := []) rfl ?_
  refine k_run 1 (pc' := 40) (l' := [(0, .inr (.inr 361)), (1, .inl 1), (2, .inl x), (3, .inl a), (4, .inl b), (5, .inl 1), (6, .inr (.inr 13)), (7, .inl (H.1 16 (x).toNat))]) (st' := [.inl (H.1 16 (x).toNat)]) rfl ?_
  refine h_zle (off := 9) (t := 49) rfl rfl (by omega) (fun c2 => ?_) (fun c2 => ?_)
  · refine k_run 0 (pc' := 49) (l' := [(0, .inr (.inr 361)), (1, .inl 1), (2, .inl x), (3, .inl a), (4, .inl b), (5, .inl 1), (6, .inr (.inr 13)), (7, .inl (H.1 16 (x).toNat))]) (st' := []) rfl ?_
    refine k_run 1 (pc' := 50) (l' := [(0, .inr (.inr 361)), (1, .inl 1), (2, .inl x), (3, .inl a), (4, .inl b), (5, .inl 1), (6, .inr (.inr 13)), (7, .inl (H.1 16 (x).toNat))]) (st' := [.inl a]) rfl ?_
    refine h_zlt (off := 20) (t := 70) rfl rfl (by omega) (fun c3 => ?_) (fun c3 => ?_)
    · refine k_run 0 (pc' := 70) (l' := [(0, .inr (.inr 361)), (1, .inl 1), (2, .inl x), (3, .inl a), (4, .inl b), (5, .inl 1), (6, .inr (.inr 13)), (7, .inl (H.1 16 (x).toNat))]) (st' := []) rfl ?_
      refine k_run 4 (pc' := 75) (l' := [(0, .inr (.inr 361)), (1, .inl 1), (2, .inl x), (3, .inl a), (4, .inl b), (5, .inl 1), (6, .inr (.inr 13)), (7, .inl (H.1 16 (x).toNat))]) (st' := [.inl (H.1 16 (x).toNat), .inl x, .inl 1, .inr (.inr 361)]) rfl ?_
      refine h_cs (i := 153) (j := 48) (M' := mt_48) (xs := [.inl (H.1 16 (x).toNat), .inl x, .inl 1]) (rest := [.inr (.inr 361)]) rfl rfl rfl rfl rfl (Nat.le_of_ble_eq_true rfl) (Nat.le_of_ble_eq_true rfl) (by omega) (k_Term_codeOf (by omega)  (by decide) (by omega) (by omega)) ?_
      rintro _ _ ⟨z8, rfl, g4, rfl⟩
      refine k_run 0 (pc' := 78) (l' := [(0, .inr (.inr 361)), (1, .inl 1), (2, .inl x), (3, .inl a), (4, .inl b), (5, .inl 1), (6, .inr (.inr 13)), (7, .inl (H.1 16 (x).toNat))]) (st' := [.inl z8, .inr (.inr 361)]) rfl ?_
      refine h_cv (i := 157) (j := 77) (b := 361) (M' := mt_77) (xs := [.inl z8]) (rest := []) rfl rfl rfl rfl (zs_K (x := kx_361) rfl (by decide)) rfl (Nat.le_of_ble_eq_true rfl) (Nat.le_of_ble_eq_true rfl) (by omega) (f_Reader_addName (by omega) hI (by omega)) ?_
      rintro _ H10 ⟨z13, rfl, g9, hI11, hq12⟩
      have hf14 : fq [(361, 3), (361, 4), (361, 5), (361, 9)] [362] true H H10 := fq_t (fq_rf _ _ _ _) hq12 rfl rfl rfl
      refine k_run 0 (pc' := 81) (l' := [(0, .inr (.inr 361)), (1, .inl 1), (2, .inl x), (3, .inl a), (4, .inl b), (5, .inl 1), (6, .inr (.inr 13)), (7, .inl (H.1 16 (x).toNat))]) (st' := [.inl z13]) rfl ?_
      refine k_run 3 (pc' := 86) (l' := [(0, .inr (.inr 361)), (1, .inl 1), (2, .inl x), (3, .inl a), (4, .inl b), (5, .inl 1), (6, .inr (.inr 13)), (7, .inl (H.1 16 (x).toNat)), (8, .inl z13), (9, .inl 0)]) (st' := []) rfl ?_
      have g15 : -2147483648 ≤ (H10.1 361 4) ∧ (H10.1 361 4) ≤ 2147483647 := kn (x := kx_361) hI11 rfl 4
      exact (f_readApplied_a1_cut hd hI hx ha hb hp0 hp1 _) H10 hI11 hf14 (H.1 16 (x).toNat) z13 (0 : Int) (by omega) (by omega) (by decide) (by omega) (by omega) (by omega) (by omega) (Nat.lt_succ_self _)
    · refine k_run 0 (pc' := 53) (l' := [(0, .inr (.inr 361)), (1, .inl 1), (2, .inl x), (3, .inl a), (4, .inl b), (5, .inl 1), (6, .inr (.inr 13)), (7, .inl (H.1 16 (x).toNat))]) (st' := []) rfl ?_
      refine k_run 3 (pc' := 59) (l' := [(0, .inr (.inr 361)), (1, .inl 1), (2, .inl x), (3, .inl a), (4, .inl b), (5, .inl 1), (6, .inr (.inr 13)), (7, .inl (H.1 16 (x).toNat))]) (st' := [.inl x, .inr (.inr 15)]) rfl ?_
      refine k_ild (c := 15) (j := (x).toNat) (i := x) (x := kx_15) rfl rfl (by decide) rfl (by decide) (by omega) (by omega) ?_
      have g16 : -2 ≤ (H.1 15 (x).toNat) ∧ (H.1 15 (x).toNat) ≤ 100 := kn (x := kx_15) hI rfl (x).toNat
      refine k_run 0 (pc' := 60) (l' := [(0, .inr (.inr 361)), (1, .inl 1), (2, .inl x), (3, .inl a), (4, .inl b), (5, .inl 1), (6, .inr (.inr 13)), (7, .inl (H.1 16 (x).toNat))]) (st' := [.inl (H.1 15 (x).toNat)]) rfl ?_
      refine k_run 1 (pc' := 61) (l' := [(0, .inr (.inr 361)), (1, .inl 1), (2, .inl x), (3, .inl a), (4, .inl b), (5, .inl 1), (6, .inr (.inr 13)), (7, .inl (H.1 16 (x).toNat))]) (st' := [.inl a, .inl (H.1 15 (x).toNat)]) rfl ?_
      refine h_ieq (off := 9) (t := 70) rfl rfl (by omega) (by omega) (fun c17 => ?_) (fun c17 => ?_)
      · refine k_run 0 (pc' := 70) (l' := [(0, .inr (.inr 361)), (1, .inl 1), (2, .inl x), (3, .inl a), (4, .inl b), (5, .inl 1), (6, .inr (.inr 13)), (7, .inl (H.1 16 (x).toNat))]) (st' := []) rfl ?_
        refine k_run 4 (pc' := 75) (l' := [(0, .inr (.inr 361)), (1, .inl 1), (2, .inl x), (3, .inl a), (4, .inl b), (5, .inl 1), (6, .inr (.inr 13)), (7, .inl (H.1 16 (x).toNat))]) (st' := [.inl (H.1 16 (x).toNat), .inl x, .inl 1, .inr (.inr 361)]) rfl ?_
        refine h_cs (i := 153) (j := 48) (M' := mt_48) (xs := [.inl (H.1 16 (x).toNat), .inl x, .inl 1]) (rest := [.inr (.inr 361)]) rfl rfl rfl rfl rfl (Nat.le_of_ble_eq_true rfl) (Nat.le_of_ble_eq_true rfl) (by omega) (k_Term_codeOf (by omega)  (by decide) (by omega) (by omega)) ?_
        rintro _ _ ⟨z22, rfl, g18, rfl⟩
        refine k_run 0 (pc' := 78) (l' := [(0, .inr (.inr 361)), (1, .inl 1), (2, .inl x), (3, .inl a), (4, .inl b), (5, .inl 1), (6, .inr (.inr 13)), (7, .inl (H.1 16 (x).toNat))]) (st' := [.inl z22, .inr (.inr 361)]) rfl ?_
        refine h_cv (i := 157) (j := 77) (b := 361) (M' := mt_77) (xs := [.inl z22]) (rest := []) rfl rfl rfl rfl (zs_K (x := kx_361) rfl (by decide)) rfl (Nat.le_of_ble_eq_true rfl) (Nat.le_of_ble_eq_true rfl) (by omega) (f_Reader_addName (by omega) hI (by omega)) ?_
        rintro _ H24 ⟨z27, rfl, g23, hI25, hq26⟩
        have hf28 : fq [(361, 3), (361, 4), (361, 5), (361, 9)] [362] true H H24 := fq_t (fq_rf _ _ _ _) hq26 rfl rfl rfl
        refine k_run 0 (pc' := 81) (l' := [(0, .inr (.inr 361)), (1, .inl 1), (2, .inl x), (3, .inl a), (4, .inl b), (5, .inl 1), (6, .inr (.inr 13)), (7, .inl (H.1 16 (x).toNat))]) (st' := [.inl z27]) rfl ?_
        refine k_run 3 (pc' := 86) (l' := [(0, .inr (.inr 361)), (1, .inl 1), (2, .inl x), (3, .inl a), (4, .inl b), (5, .inl 1), (6, .inr (.inr 13)), (7, .inl (H.1 16 (x).toNat)), (8, .inl z27), (9, .inl 0)]) (st' := []) rfl ?_
        have g29 : -2147483648 ≤ (H24.1 361 4) ∧ (H24.1 361 4) ≤ 2147483647 := kn (x := kx_361) hI25 rfl 4
        exact (f_readApplied_a1_cut hd hI hx ha hb hp0 hp1 _) H24 hI25 hf28 (H.1 16 (x).toNat) z27 (0 : Int) (by omega) (by omega) (by decide) (by omega) (by omega) (by omega) (by omega) (Nat.lt_succ_self _)
      · refine k_run 0 (pc' := 64) (l' := [(0, .inr (.inr 361)), (1, .inl 1), (2, .inl x), (3, .inl a), (4, .inl b), (5, .inl 1), (6, .inr (.inr 13)), (7, .inl (H.1 16 (x).toNat))]) (st' := []) rfl ?_
        refine k_run 2 (pc' := 66) (l' := [(0, .inr (.inr 361)), (1, .inl 1), (2, .inl x), (3, .inl a), (4, .inl b), (5, .inl 1), (6, .inr (.inr 13)), (7, .inl (H.1 16 (x).toNat))]) (st' := [.inl 4, .inr (.inr 361)]) rfl ?_
        refine h_cv (i := 128) (j := 86) (b := 361) (M' := mt_86) (xs := [.inl 4]) (rest := []) rfl rfl rfl rfl (zs_K (x := kx_361) rfl (by decide)) rfl (Nat.le_of_ble_eq_true rfl) (Nat.le_of_ble_eq_true rfl) (by omega) (f_Reader_fails (by omega) hI (by decide)) ?_
        rintro _ H31 ⟨z34, rfl, g30, hI32, hq33⟩
        have hf35 : fq [(361, 3), (361, 4), (361, 5), (361, 9)] [362] true H H31 := fq_t (fq_rf _ _ _ _) hq33 rfl rfl rfl
        refine k_run 0 (pc' := 69) (l' := [(0, .inr (.inr 361)), (1, .inl 1), (2, .inl x), (3, .inl a), (4, .inl b), (5, .inl 1), (6, .inr (.inr 13)), (7, .inl (H.1 16 (x).toNat))]) (st' := [.inl z34]) rfl ?_
        refine h_retz (x := z34) rfl rfl (by omega) ?_
        have g36 : -2147483648 ≤ (H31.1 361 4) ∧ (H31.1 361 4) ≤ 2147483647 := kn (x := kx_361) hI32 rfl 4
        exact ⟨_, rfl, (by omega), hI32, hf35⟩
  · refine k_run 0 (pc' := 43) (l' := [(0, .inr (.inr 361)), (1, .inl 1), (2, .inl x), (3, .inl a), (4, .inl b), (5, .inl 1), (6, .inr (.inr 13)), (7, .inl (H.1 16 (x).toNat))]) (st' := []) rfl ?_
    refine k_run 2 (pc' := 45) (l' := [(0, .inr (.inr 361)), (1, .inl 1), (2, .inl x), (3, .inl a), (4, .inl b), (5, .inl 1), (6, .inr (.inr 13)), (7, .inl (H.1 16 (x).toNat))]) (st' := [.inl 2, .inr (.inr 361)]) rfl ?_
    refine h_cv (i := 128) (j := 86) (b := 361) (M' := mt_86) (xs := [.inl 2]) (rest := []) rfl rfl rfl rfl (zs_K (x := kx_361) rfl (by decide)) rfl (Nat.le_of_ble_eq_true rfl) (Nat.le_of_ble_eq_true rfl) (by omega) (f_Reader_fails (by omega) hI (by decide)) ?_
    rintro _ H38 ⟨z41, rfl, g37, hI39, hq40⟩
    have hf42 : fq [(361, 3), (361, 4), (361, 5), (361, 9)] [362] true H H38 := fq_t (fq_rf _ _ _ _) hq40 rfl rfl rfl
    refine k_run 0 (pc' := 48) (l' := [(0, .inr (.inr 361)), (1, .inl 1), (2, .inl x), (3, .inl a), (4, .inl b), (5, .inl 1), (6, .inr (.inr 13)), (7, .inl (H.1 16 (x).toNat))]) (st' := [.inl z41]) rfl ?_
    refine h_retz (x := z41) rfl rfl (by omega) ?_
    have g43 : -2147483648 ≤ (H38.1 361 4) ∧ (H38.1 361 4) ≤ 2147483647 := kn (x := kx_361) hI39 rfl 4
    exact ⟨_, rfl, (by omega), hI39, hf42⟩

/-! Reader.readTerm -/
set_option maxRecDepth 100000 in
theorem f_readTerm_1 {m : Nat} {d : Nat} (hd : 3 * m + 8 ≤ d) {H : hp} (hI : Inv H) {a : Int} {b : Int} (ha : -2147483648 ≤ a ∧ a ≤ 2147483647) (hb : -2147483648 ≤ b ∧ b ≤ 2147483647) (hp0 : -2 ≤ a ∧ a ≤ 100 ∧ 0 ≤ b ∧ b ≤ 10 ∧ 10 ≤ b + (m : Int)) (hR : ∀ m1, m1 < m → RTc9 m1) : hG (zs zK) d mt_73 0 (zargs 0 [.inr (.inr 361), .inl a, .inl b, .inl 1]) [] H (fun r9 H9 => ∃ z : Int, r9 = some (.inl z) ∧ ((0 ≤ z ∧ z ≤ 1) ∧ ((z = 0 ∨ H9.1 361 4 = H.1 361 4))) ∧ Inv H9 ∧ fq [(361, 3), (361, 4), (361, 5), (361, 9)] [362] true H H9) := by
  refine k_run 0 (pc' := 0) (l' := [(0, .inr (.inr 361)), (1, .inl a), (2, .inl b), (3, .inl 1)]) (st' := []) rfl ?_
  refine k_run 1 (pc' := 1) (l' := [(0, .inr (.inr 361)), (1, .inl a), (2, .inl b), (3, .inl 1)]) (st' := [.inr (.inr 361)]) rfl ?_
  refine h_cv (i := 72) (j := 83) (b := 361) (M' := mt_83) (xs := []) (rest := []) rfl rfl rfl rfl (zs_K (x := kx_361) rfl (by decide)) rfl (Nat.le_of_ble_eq_true rfl) (Nat.le_of_ble_eq_true rfl) (by omega) (f_Reader_token (by omega) hI ) ?_
  rintro _ _ ⟨z5, rfl, g1, rfl⟩
  refine k_run 0 (pc' := 4) (l' := [(0, .inr (.inr 361)), (1, .inl a), (2, .inl b), (3, .inl 1)]) (st' := [.inl z5]) rfl ?_
  rcases (show (z5 ≠ 2 ∧ z5 ≠ 3 ∧ z5 ≠ 40 ∧ z5 ≠ 95) ∨ z5 = 2 ∨ z5 = 3 ∨ z5 = 40 ∨ z5 = 95 by omega) with c6 | c6 | c6 | c6 | c6
  · refine k_lsw (t := 193) rfl (by omega) (by decide) (lsw_no (by intro q9 hq9; simp only [List.mem_cons, List.not_mem_nil, or_false] at hq9; rcases hq9 with rfl | rfl | rfl | rfl <;> (dsimp only; omega))) rfl ?_
    refine k_run 1 (pc' := 194) (l' := [(0, .inr (.inr 361)), (1, .inl a), (2, .inl b), (3, .inl 1)]) (st' := [.inr (.inr 361)]) rfl ?_
    refine h_cv (i := 89) (j := 85) (b := 361) (M' := mt_85) (xs := []) (rest := []) rfl rfl rfl rfl (zs_K (x := kx_361) rfl (by decide)) rfl (Nat.le_of_ble_eq_true rfl) (Nat.le_of_ble_eq_true rfl) (by omega) (f_Reader_misplaced (by omega) hI ) ?_
    rintro _ H8 ⟨z11, rfl, g7, hI9, hq10⟩
    have hf12 : fq [(361, 3), (361, 4), (361, 5), (361, 9)] [362] true H H8 := fq_t (fq_rf _ _ _ _) hq10 rfl rfl rfl
    refine k_run 0 (pc' := 197) (l' := [(0, .inr (.inr 361)), (1, .inl a), (2, .inl b), (3, .inl 1)]) (st' := [.inl z11]) rfl ?_
    refine h_retz (x := z11) rfl rfl (by omega) ?_
    have g13 : -2147483648 ≤ (H8.1 361 4) ∧ (H8.1 361 4) ≤ 2147483647 := kn (x := kx_361) hI9 rfl 4
    exact ⟨_, rfl, (by omega), hI9, hf12⟩
  · refine k_lsw (t := 48) rfl (by omega) (by decide) (by rw [c6]) rfl ?_
    refine k_run 4 (pc' := 56) (l' := [(0, .inr (.inr 361)), (1, .inl a), (2, .inl b), (3, .inl 1)]) (st' := [.inr (.inr 361), .inr (.inr 18)]) rfl ?_
    refine h_cv (i := 120) (j := 84) (b := 361) (M' := mt_84) (xs := []) (rest := [.inr (.inr 18)]) rfl rfl rfl rfl (zs_K (x := kx_361) rfl (by decide)) rfl (Nat.le_of_ble_eq_true rfl) (Nat.le_of_ble_eq_true rfl) (by omega) (f_Reader_name (by omega) hI ) ?_
    rintro _ _ ⟨z18, rfl, g14, rfl⟩
    refine k_run 0 (pc' := 59) (l' := [(0, .inr (.inr 361)), (1, .inl a), (2, .inl b), (3, .inl 1)]) (st' := [.inr (.inl z18), .inr (.inr 18)]) rfl ?_
    have g19 : 0 ≤ (H.1 18 4) ∧ (H.1 18 4) ≤ 16 := kn (x := kx_18) hI rfl 4
    refine h_cv (i := 124) (j := 41) (b := 18) (M' := mt_41) (xs := [.inr (.inl z18)]) (rest := []) rfl rfl rfl rfl (zs_K (x := kx_18) rfl (by decide)) rfl (Nat.le_of_ble_eq_true rfl) (Nat.le_of_ble_eq_true rfl) (by omega) (k_Symbols_find_18 (by omega) hI ) ?_
    rintro _ _ ⟨z24, rfl, g20, rfl⟩
    refine k_run 0 (pc' := 62) (l' := [(0, .inr (.inr 361)), (1, .inl a), (2, .inl b), (3, .inl 1)]) (st' := [.inl z24]) rfl ?_
    refine k_run 2 (pc' := 66) (l' := [(0, .inr (.inr 361)), (1, .inl a), (2, .inl b), (3, .inl 1), (4, .inl z24)]) (st' := [.inl z24]) rfl ?_
    refine h_zge (off := 9) (t := 75) rfl rfl (by omega) (fun c25 => ?_) (fun c25 => ?_)
    · refine k_run 0 (pc' := 75) (l' := [(0, .inr (.inr 361)), (1, .inl a), (2, .inl b), (3, .inl 1), (4, .inl z24)]) (st' := []) rfl ?_
      refine k_run 6 (pc' := 82) (l' := [(0, .inr (.inr 361)), (1, .inl a), (2, .inl b), (3, .inl 1), (4, .inl z24)]) (st' := [.inl 1, .inl b, .inl a, .inl z24, .inl 2, .inr (.inr 361)]) rfl ?_
      refine h_cv (i := 215) (j := 74) (b := 361) (M' := mt_74) (xs := [.inl 1, .inl b, .inl a, .inl z24, .inl 2]) (rest := []) rfl rfl rfl rfl (zs_K (x := kx_361) rfl (by decide)) rfl (Nat.le_of_ble_eq_true rfl) (Nat.le_of_ble_eq_true rfl) (by omega) (f_readApplied_a2 (by omega) hI (by omega) (by omega) (by omega) (by omega) (by omega)) ?_
      rintro _ H27 ⟨z30, rfl, g26, hI28, hq29⟩
      have hf31 : fq [(361, 3), (361, 4), (361, 5), (361, 9)] [362] true H H27 := fq_t (fq_rf _ _ _ _) hq29 rfl rfl rfl
      refine k_run 0 (pc' := 85) (l' := [(0, .inr (.inr 361)), (1, .inl a), (2, .inl b), (3, .inl 1), (4, .inl z24)]) (st' := [.inl z30]) rfl ?_
      refine h_retz (x := z30) rfl rfl (by omega) ?_
      have g32 : -2147483648 ≤ (H27.1 361 4) ∧ (H27.1 361 4) ≤ 2147483647 := kn (x := kx_361) hI28 rfl 4
      exact ⟨_, rfl, (by omega), hI28, hf31⟩
    · refine k_run 0 (pc' := 69) (l' := [(0, .inr (.inr 361)), (1, .inl a), (2, .inl b), (3, .inl 1), (4, .inl z24)]) (st' := []) rfl ?_
      refine k_run 2 (pc' := 71) (l' := [(0, .inr (.inr 361)), (1, .inl a), (2, .inl b), (3, .inl 1), (4, .inl z24)]) (st' := [.inl a, .inr (.inr 361)]) rfl ?_
      refine h_cv (i := 212) (j := 75) (b := 361) (M' := mt_75) (xs := [.inl a]) (rest := []) rfl rfl rfl rfl (zs_K (x := kx_361) rfl (by decide)) rfl (Nat.le_of_ble_eq_true rfl) (Nat.le_of_ble_eq_true rfl) (by omega) (f_Reader_readVariable (by omega) hI (by omega) (by omega)) ?_
      rintro _ H34 ⟨z37, rfl, g33, hI35, hq36⟩
      have hf38 : fq [(361, 3), (361, 4), (361, 5), (361, 9)] [362] true H H34 := fq_t (fq_rf _ _ _ _) hq36 rfl rfl rfl
      refine k_run 0 (pc' := 74) (l' := [(0, .inr (.inr 361)), (1, .inl a), (2, .inl b), (3, .inl 1), (4, .inl z24)]) (st' := [.inl z37]) rfl ?_
      refine h_retz (x := z37) rfl rfl (by omega) ?_
      have g39 : -2147483648 ≤ (H34.1 361 4) ∧ (H34.1 361 4) ≤ 2147483647 := kn (x := kx_361) hI35 rfl 4
      exact ⟨_, rfl, (by omega), hI35, hf38⟩
  · refine k_lsw (t := 86) rfl (by omega) (by decide) (by rw [c6]) rfl ?_
    refine k_run 4 (pc' := 94) (l' := [(0, .inr (.inr 361)), (1, .inl a), (2, .inl b), (3, .inl 1)]) (st' := [.inr (.inr 361), .inr (.inr 13)]) rfl ?_
    refine h_cv (i := 120) (j := 84) (b := 361) (M' := mt_84) (xs := []) (rest := [.inr (.inr 13)]) rfl rfl rfl rfl (zs_K (x := kx_361) rfl (by decide)) rfl (Nat.le_of_ble_eq_true rfl) (Nat.le_of_ble_eq_true rfl) (by omega) (f_Reader_name (by omega) hI ) ?_
    rintro _ _ ⟨z44, rfl, g40, rfl⟩
    refine k_run 0 (pc' := 97) (l' := [(0, .inr (.inr 361)), (1, .inl a), (2, .inl b), (3, .inl 1)]) (st' := [.inr (.inl z44), .inr (.inr 13)]) rfl ?_
    have g45 : 0 ≤ (H.1 13 4) ∧ (H.1 13 4) ≤ 16 := kn (x := kx_13) hI rfl 4
    refine h_cv (i := 124) (j := 41) (b := 13) (M' := mt_41) (xs := [.inr (.inl z44)]) (rest := []) rfl rfl rfl rfl (zs_K (x := kx_13) rfl (by decide)) rfl (Nat.le_of_ble_eq_true rfl) (Nat.le_of_ble_eq_true rfl) (by omega) (k_Symbols_find_13 (by omega) hI ) ?_
    rintro _ _ ⟨z50, rfl, g46, rfl⟩
    refine k_run 0 (pc' := 100) (l' := [(0, .inr (.inr 361)), (1, .inl a), (2, .inl b), (3, .inl 1)]) (st' := [.inl z50]) rfl ?_
    refine k_run 2 (pc' := 104) (l' := [(0, .inr (.inr 361)), (1, .inl a), (2, .inl b), (3, .inl 1), (5, .inl z50)]) (st' := [.inl z50]) rfl ?_
    refine h_zge (off := 9) (t := 113) rfl rfl (by omega) (fun c51 => ?_) (fun c51 => ?_)
    · refine k_run 0 (pc' := 113) (l' := [(0, .inr (.inr 361)), (1, .inl a), (2, .inl b), (3, .inl 1), (5, .inl z50)]) (st' := []) rfl ?_
      refine k_run 6 (pc' := 120) (l' := [(0, .inr (.inr 361)), (1, .inl a), (2, .inl b), (3, .inl 1), (5, .inl z50)]) (st' := [.inl 1, .inl b, .inl a, .inl z50, .inl 1, .inr (.inr 361)]) rfl ?_
      refine h_cv (i := 215) (j := 74) (b := 361) (M' := mt_74) (xs := [.inl 1, .inl b, .inl a, .inl z50, .inl 1]) (rest := []) rfl rfl rfl rfl (zs_K (x := kx_361) rfl (by decide)) rfl (Nat.le_of_ble_eq_true rfl) (Nat.le_of_ble_eq_true rfl) (by omega) (f_readApplied_a1 (by omega) hI (by omega) (by omega) (by omega) (by omega) (by omega)) ?_
      rintro _ H53 ⟨z56, rfl, g52, hI54, hq55⟩
      have hf57 : fq [(361, 3), (361, 4), (361, 5), (361, 9)] [362] true H H53 := fq_t (fq_rf _ _ _ _) hq55 rfl rfl rfl
      refine k_run 0 (pc' := 123) (l' := [(0, .inr (.inr 361)), (1, .inl a), (2, .inl b), (3, .inl 1), (5, .inl z50)]) (st' := [.inl z56]) rfl ?_
      refine h_retz (x := z56) rfl rfl (by omega) ?_
      have g58 : -2147483648 ≤ (H53.1 361 4) ∧ (H53.1 361 4) ≤ 2147483647 := kn (x := kx_361) hI54 rfl 4
      exact ⟨_, rfl, (by omega), hI54, hf57⟩
    · refine k_run 0 (pc' := 107) (l' := [(0, .inr (.inr 361)), (1, .inl a), (2, .inl b), (3, .inl 1), (5, .inl z50)]) (st' := []) rfl ?_
      refine k_run 2 (pc' := 109) (l' := [(0, .inr (.inr 361)), (1, .inl a), (2, .inl b), (3, .inl 1), (5, .inl z50)]) (st' := [.inl 3, .inr (.inr 361)]) rfl ?_
      refine h_cv (i := 128) (j := 86) (b := 361) (M' := mt_86) (xs := [.inl 3]) (rest := []) rfl rfl rfl rfl (zs_K (x := kx_361) rfl (by decide)) rfl (Nat.le_of_ble_eq_true rfl) (Nat.le_of_ble_eq_true rfl) (by omega) (f_Reader_fails (by omega) hI (by decide)) ?_
      rintro _ H60 ⟨z63, rfl, g59, hI61, hq62⟩
      have hf64 : fq [(361, 3), (361, 4), (361, 5), (361, 9)] [362] true H H60 := fq_t (fq_rf _ _ _ _) hq62 rfl rfl rfl
      refine k_run 0 (pc' := 112) (l' := [(0, .inr (.inr 361)), (1, .inl a), (2, .inl b), (3, .inl 1), (5, .inl z50)]) (st' := [.inl z63]) rfl ?_
      refine h_retz (x := z63) rfl rfl (by omega) ?_
      have g65 : -2147483648 ≤ (H60.1 361 4) ∧ (H60.1 361 4) ≤ 2147483647 := kn (x := kx_361) hI61 rfl 4
      exact ⟨_, rfl, (by omega), hI61, hf64⟩
  · refine k_lsw (t := 144) rfl (by omega) (by decide) (by rw [c6]) rfl ?_
    refine k_run 2 (pc' := 147) (l' := [(0, .inr (.inr 361)), (1, .inl a), (2, .inl b), (3, .inl 1)]) (st' := [.inl 10, .inl b]) rfl ?_
    refine h_ilt (off := 9) (t := 156) rfl rfl (by omega) (by decide) (fun c66 => ?_) (fun c66 => ?_)
    · refine k_run 0 (pc' := 156) (l' := [(0, .inr (.inr 361)), (1, .inl a), (2, .inl b), (3, .inl 1)]) (st' := []) rfl ?_
      refine k_run 3 (pc' := 161) (l' := [(0, .inr (.inr 361)), (1, .inl a), (2, .inl b), (3, .inl 1)]) (st' := [.inl (H.1 361 3), .inr (.inr 361)]) rfl ?_
      have g67 : -2147483648 ≤ (H.1 361 3) ∧ (H.1 361 3) ≤ 2147483647 := kn (x := kx_361) hI rfl 3
      refine k_run 2 (pc' := 163) (l' := [(0, .inr (.inr 361)), (1, .inl a), (2, .inl b), (3, .inl 1)]) (st' := [.inl ((H.1 361 3) + 1), .inr (.inr 361)]) rfl ?_
      refine k_putw (a := 361) (x := kx_361) rfl rfl rfl (by decide) (by decide) rfl rfl rfl rfl hI rfl (fun H68 hI69 hw70 => ?_)
      have hf72 : fq [(361, 3), (361, 4), (361, 5), (361, 9)] [362] true H H68 := fq_w (fq_rf _ _ _ _) hw70 (fpo (by decide) rfl)
      refine k_run 0 (pc' := 166) (l' := [(0, .inr (.inr 361)), (1, .inl a), (2, .inl b), (3, .inl 1)]) (st' := []) rfl ?_
      refine k_run 6 (pc' := 172) (l' := [(0, .inr (.inr 361)), (1, .inl a), (2, .inl b), (3, .inl 1)]) (st' := [.inl 0, .inl (b + 1), .inl a, .inr (.inr 361)]) rfl ?_
      refine h_cv (i := 109) (j := 73) (b := 361) (M' := mt_73) (xs := [.inl 0, .inl (b + 1), .inl a]) (rest := []) rfl rfl rfl rfl (zs_K (x := kx_361) rfl (by decide)) rfl (Nat.le_of_ble_eq_true rfl) (Nat.le_of_ble_eq_true rfl) (by omega) (hR (m - 1) (by omega) (by omega) hI69 (by omega) (by omega) (by decide) (by omega)) ?_
      rintro _ H74 ⟨z77, rfl, g73, hI75, hq76⟩
      have hf78 : fq [(361, 3), (361, 4), (361, 5), (361, 9)] [362] true H H74 := fq_t hf72 hq76 rfl rfl rfl
      refine k_run 0 (pc' := 175) (l' := [(0, .inr (.inr 361)), (1, .inl a), (2, .inl b), (3, .inl 1)]) (st' := [.inl z77]) rfl ?_
      refine h_zeq (off := 16) (t := 191) rfl rfl (by omega) (fun c79 => ?_) (fun c79 => ?_)
      · refine k_run 0 (pc' := 191) (l' := [(0, .inr (.inr 361)), (1, .inl a), (2, .inl b), (3, .inl 1)]) (st' := []) rfl ?_
        refine k_run 1 (pc' := 192) (l' := [(0, .inr (.inr 361)), (1, .inl a), (2, .inl b), (3, .inl 1)]) (st' := [.inl 0]) rfl ?_
        refine h_retz (x := 0) rfl rfl (by decide) ?_
        have g80 : -2147483648 ≤ (H74.1 361 4) ∧ (H74.1 361 4) ≤ 2147483647 := kn (x := kx_361) hI75 rfl 4
        exact ⟨_, rfl, (by omega), hI75, hf78⟩
      · refine k_run 0 (pc' := 178) (l' := [(0, .inr (.inr 361)), (1, .inl a), (2, .inl b), (3, .inl 1)]) (st' := []) rfl ?_
        refine k_run 2 (pc' := 181) (l' := [(0, .inr (.inr 361)), (1, .inl a), (2, .inl b), (3, .inl 1)]) (st' := [.inl 41, .inr (.inr 361)]) rfl ?_
        refine h_cv (i := 92) (j := 82) (b := 361) (M' := mt_82) (xs := [.inl 41]) (rest := []) rfl rfl rfl rfl (zs_K (x := kx_361) rfl (by decide)) rfl (Nat.le_of_ble_eq_true rfl) (Nat.le_of_ble_eq_true rfl) (by omega) (f_Reader_take (by omega) hI75 (by decide)) ?_
        rintro _ H82 ⟨z85, rfl, g81, hI83, hq84⟩
        have hf86 : fq [(361, 3), (361, 4), (361, 5), (361, 9)] [362] true H H82 := fq_t hf78 hq84 rfl rfl rfl
        refine k_run 0 (pc' := 184) (l' := [(0, .inr (.inr 361)), (1, .inl a), (2, .inl b), (3, .inl 1)]) (st' := [.inl z85]) rfl ?_
        refine h_zeq (off := 7) (t := 191) rfl rfl (by omega) (fun c87 => ?_) (fun c87 => ?_)
        · refine k_run 0 (pc' := 191) (l' := [(0, .inr (.inr 361)), (1, .inl a), (2, .inl b), (3, .inl 1)]) (st' := []) rfl ?_
          refine k_run 1 (pc' := 192) (l' := [(0, .inr (.inr 361)), (1, .inl a), (2, .inl b), (3, .inl 1)]) (st' := [.inl 0]) rfl ?_
          refine h_retz (x := 0) rfl rfl (by decide) ?_
          have g88 : -2147483648 ≤ (H82.1 361 4) ∧ (H82.1 361 4) ≤ 2147483647 := kn (x := kx_361) hI83 rfl 4
          exact ⟨_, rfl, (by omega), hI83, hf86⟩
        · refine k_run 0 (pc' := 187) (l' := [(0, .inr (.inr 361)), (1, .inl a), (2, .inl b), (3, .inl 1)]) (st' := []) rfl ?_
          refine k_run 2 (pc' := 192) (l' := [(0, .inr (.inr 361)), (1, .inl a), (2, .inl b), (3, .inl 1)]) (st' := [.inl 1]) rfl ?_
          refine h_retz (x := 1) rfl rfl (by decide) ?_
          have g89 : -2147483648 ≤ (H82.1 361 4) ∧ (H82.1 361 4) ≤ 2147483647 := kn (x := kx_361) hI83 rfl 4
          exact ⟨_, rfl, (by omega), hI83, hf86⟩
    · refine k_run 0 (pc' := 150) (l' := [(0, .inr (.inr 361)), (1, .inl a), (2, .inl b), (3, .inl 1)]) (st' := []) rfl ?_
      refine k_run 2 (pc' := 152) (l' := [(0, .inr (.inr 361)), (1, .inl a), (2, .inl b), (3, .inl 1)]) (st' := [.inl 5, .inr (.inr 361)]) rfl ?_
      refine h_cv (i := 128) (j := 86) (b := 361) (M' := mt_86) (xs := [.inl 5]) (rest := []) rfl rfl rfl rfl (zs_K (x := kx_361) rfl (by decide)) rfl (Nat.le_of_ble_eq_true rfl) (Nat.le_of_ble_eq_true rfl) (by omega) (f_Reader_fails (by omega) hI (by decide)) ?_
      rintro _ H91 ⟨z94, rfl, g90, hI92, hq93⟩
      have hf95 : fq [(361, 3), (361, 4), (361, 5), (361, 9)] [362] true H H91 := fq_t (fq_rf _ _ _ _) hq93 rfl rfl rfl
      refine k_run 0 (pc' := 155) (l' := [(0, .inr (.inr 361)), (1, .inl a), (2, .inl b), (3, .inl 1)]) (st' := [.inl z94]) rfl ?_
      refine h_retz (x := z94) rfl rfl (by omega) ?_
      have g96 : -2147483648 ≤ (H91.1 361 4) ∧ (H91.1 361 4) ≤ 2147483647 := kn (x := kx_361) hI92 rfl 4
      exact ⟨_, rfl, (by omega), hI92, hf95⟩
  · refine k_lsw (t := 124) rfl (by omega) (by decide) (by rw [c6]) rfl ?_
    refine k_run 2 (pc' := 127) (l' := [(0, .inr (.inr 361)), (1, .inl a), (2, .inl b), (3, .inl 1)]) (st' := [.inl (-2), .inl a]) rfl ?_
    refine h_ine (off := 11) (t := 138) rfl rfl (by omega) (by decide) (fun c97 => ?_) (fun c97 => ?_)
    · refine k_run 0 (pc' := 138) (l' := [(0, .inr (.inr 361)), (1, .inl a), (2, .inl b), (3, .inl 1)]) (st' := []) rfl ?_
      refine k_run 2 (pc' := 140) (l' := [(0, .inr (.inr 361)), (1, .inl a), (2, .inl b), (3, .inl 1)]) (st' := [.inl 0, .inr (.inr 361)]) rfl ?_
      refine h_cv (i := 157) (j := 77) (b := 361) (M' := mt_77) (xs := [.inl 0]) (rest := []) rfl rfl rfl rfl (zs_K (x := kx_361) rfl (by decide)) rfl (Nat.le_of_ble_eq_true rfl) (Nat.le_of_ble_eq_true rfl) (by omega) (f_Reader_addName (by omega) hI (by decide)) ?_
      rintro _ H99 ⟨z102, rfl, g98, hI100, hq101⟩
      have hf103 : fq [(361, 3), (361, 4), (361, 5), (361, 9)] [362] true H H99 := fq_t (fq_rf _ _ _ _) hq101 rfl rfl rfl
      refine k_run 0 (pc' := 143) (l' := [(0, .inr (.inr 361)), (1, .inl a), (2, .inl b), (3, .inl 1)]) (st' := [.inl z102]) rfl ?_
      refine h_retz (x := z102) rfl rfl (by omega) ?_
      have g104 : -2147483648 ≤ (H99.1 361 4) ∧ (H99.1 361 4) ≤ 2147483647 := kn (x := kx_361) hI100 rfl 4
      exact ⟨_, rfl, (by omega), hI100, hf103⟩
    · refine k_run 0 (pc' := 130) (l' := [(0, .inr (.inr 361)), (1, .inl a), (2, .inl b), (3, .inl 1)]) (st' := []) rfl ?_
      refine k_run 2 (pc' := 132) (l' := [(0, .inr (.inr 361)), (1, .inl a), (2, .inl b), (3, .inl 1)]) (st' := [.inl 2, .inr (.inr 361)]) rfl ?_
      refine h_cv (i := 128) (j := 86) (b := 361) (M' := mt_86) (xs := [.inl 2]) (rest := []) rfl rfl rfl rfl (zs_K (x := kx_361) rfl (by decide)) rfl (Nat.le_of_ble_eq_true rfl) (Nat.le_of_ble_eq_true rfl) (by omega) (f_Reader_fails (by omega) hI (by decide)) ?_
      rintro _ H106 ⟨z109, rfl, g105, hI107, hq108⟩
      have hf110 : fq [(361, 3), (361, 4), (361, 5), (361, 9)] [362] true H H106 := fq_t (fq_rf _ _ _ _) hq108 rfl rfl rfl
      refine k_run 0 (pc' := 135) (l' := [(0, .inr (.inr 361)), (1, .inl a), (2, .inl b), (3, .inl 1)]) (st' := [.inl z109]) rfl ?_
      refine k_run 1 (pc' := 143) (l' := [(0, .inr (.inr 361)), (1, .inl a), (2, .inl b), (3, .inl 1)]) (st' := [.inl z109]) rfl ?_
      refine h_retz (x := z109) rfl rfl (by omega) ?_
      have g111 : -2147483648 ≤ (H106.1 361 4) ∧ (H106.1 361 4) ≤ 2147483647 := kn (x := kx_361) hI107 rfl 4
      exact ⟨_, rfl, (by omega), hI107, hf110⟩

/-! Reader.readApplied -/
set_option maxRecDepth 100000 in
theorem f_readApplied_2_cut {m : Nat} {d : Nat} (hd : 3 * m + 9 ≤ d) {H : hp} (hI : Inv H) {x : Int} {a : Int} {b : Int} {c : Int} (hx : -2147483648 ≤ x ∧ x ≤ 2147483647) (ha : -2147483648 ≤ a ∧ a ≤ 2147483647) (hb : -2147483648 ≤ b ∧ b ≤ 2147483647) (hc : 0 ≤ c ∧ c ≤ 1) (hp0 : 0 ≤ x ∧ x < 16) (hp1 : -2 ≤ a ∧ a ≤ 100 ∧ 0 ≤ b ∧ b ≤ 10 ∧ 10 ≤ b + (m : Int)) (hR1 : RT1c9 m) : ∀ w : Nat, (∀ (H1 : hp), Inv H1 → fq [(361, 3), (361, 4), (361, 5), (361, 9)] [362] true H H1 → ∀ (x7 : Int) (x8 : Int) (x9 : Int) , (-2147483648 ≤ x7 ∧ x7 ≤ 2147483647) → (-2147483648 ≤ x8 ∧ x8 ≤ 2147483647) → (-2147483648 ≤ x9 ∧ x9 ≤ 2147483647) → (0 ≤ x9) → (x7 ≤ 4) → (0 ≤ x8 ∧ x8 ≤ 1) → ((x8 = 0 ∨ H1.1 361 4 = H.1 361 4)) → (((100 - x9).toNat) < w) → hG (zs zK) d mt_74 86 [(0, .inr (.inr 361)), (1, .inl 2), (2, .inl x), (3, .inl a), (4, .inl b), (5, .inl c), (6, .inr (.inr 18)), (7, .inl x7), (8, .inl x8), (9, .inl x9)] [] H1 (fun r9 H9 => ∃ z : Int, r9 = some (.inl z) ∧ ((0 ≤ z ∧ z ≤ 1) ∧ ((z = 0 ∨ H9.1 361 4 = H.1 361 4))) ∧ Inv H9 ∧ fq [(361, 3), (361, 4), (361, 5), (361, 9)] [362] true H H9)) := by
  intro w
  induction w with
  | zero => exact fun _ _ _ _ _ _ _ _ _ _ _ _ _ h => absurd h (Nat.not_lt_zero _)
  | succ w ih =>
    intro H1 hI1 hf1 x7 x8 x9 hx7 hx8 hx9 hi0 hi1 hi2 hi3 hw
    have g79 : -2147483648 ≤ (H1.1 361 4) ∧ (H1.1 361 4) ≤ 2147483647 := kn (x := kx_361) hI1 rfl 4
    refine k_run 1 (pc' := 88) (l' := [(0, .inr (.inr 361)), (1, .inl 2), (2, .inl x), (3, .inl a), (4, .inl b), (5, .inl c), (6, .inr (.inr 18)), (7, .inl x7), (8, .inl x8), (9, .inl x9)]) (st' := [.inl x8]) rfl ?_
    refine h_zeq (off := 33) (t := 121) rfl rfl (by omega) (fun c80 => ?_) (fun c80 => ?_)
    · refine k_run 0 (pc' := 121) (l' := [(0, .inr (.inr 361)), (1, .inl 2), (2, .inl x), (3, .inl a), (4, .inl b), (5, .inl c), (6, .inr (.inr 18)), (7, .inl x7), (8, .inl x8), (9, .inl x9)]) (st' := []) rfl ?_
      refine k_run 1 (pc' := 123) (l' := [(0, .inr (.inr 361)), (1, .inl 2), (2, .inl x), (3, .inl a), (4, .inl b), (5, .inl c), (6, .inr (.inr 18)), (7, .inl x7), (8, .inl x8), (9, .inl x9)]) (st' := [.inl x8]) rfl ?_
      refine h_retz (x := x8) rfl rfl (by omega) ?_
      exact ⟨_, rfl, (by omega), hI1, hf1⟩
    · refine k_run 0 (pc' := 91) (l' := [(0, .inr (.inr 361)), (1, .inl 2), (2, .inl x), (3, .inl a), (4, .inl b), (5, .inl c), (6, .inr (.inr 18)), (7, .inl x7), (8, .inl x8), (9, .inl x9)]) (st' := []) rfl ?_
      refine k_run 2 (pc' := 95) (l' := [(0, .inr (.inr 361)), (1, .inl 2), (2, .inl x), (3, .inl a), (4, .inl b), (5, .inl c), (6, .inr (.inr 18)), (7, .inl x7), (8, .inl x8), (9, .inl x9)]) (st' := [.inl x7, .inl x9]) rfl ?_
      refine h_ige (off := 26) (t := 121) rfl rfl (by omega) (by omega) (fun c81 => ?_) (fun c81 => ?_)
      · refine k_run 0 (pc' := 121) (l' := [(0, .inr (.inr 361)), (1, .inl 2), (2, .inl x), (3, .inl a), (4, .inl b), (5, .inl c), (6, .inr (.inr 18)), (7, .inl x7), (8, .inl x8), (9, .inl x9)]) (st' := []) rfl ?_
        refine k_run 1 (pc' := 123) (l' := [(0, .inr (.inr 361)), (1, .inl 2), (2, .inl x), (3, .inl a), (4, .inl b), (5, .inl c), (6, .inr (.inr 18)), (7, .inl x7), (8, .inl x8), (9, .inl x9)]) (st' := [.inl x8]) rfl ?_
        refine h_retz (x := x8) rfl rfl (by omega) ?_
        exact ⟨_, rfl, (by omega), hI1, hf1⟩
      · refine k_run 0 (pc' := 98) (l' := [(0, .inr (.inr 361)), (1, .inl 2), (2, .inl x), (3, .inl a), (4, .inl b), (5, .inl c), (6, .inr (.inr 18)), (7, .inl x7), (8, .inl x8), (9, .inl x9)]) (st' := []) rfl ?_
        refine k_run 4 (pc' := 104) (l' := [(0, .inr (.inr 361)), (1, .inl 2), (2, .inl x), (3, .inl a), (4, .inl b), (5, .inl c), (6, .inr (.inr 18)), (7, .inl x7), (8, .inl x8), (9, .inl x9)]) (st' := [.inl x9, .inl x, .inr (.inr 18), .inr (.inr 361)]) rfl ?_
        refine h_cv (i := 160) (j := 45) (b := 18) (M' := mt_45) (xs := [.inl x9, .inl x]) (rest := [.inr (.inr 361)]) rfl rfl rfl rfl (zs_K (x := kx_18) rfl (by decide)) rfl (Nat.le_of_ble_eq_true rfl) (Nat.le_of_ble_eq_true rfl) (by omega) (k_Symbols_argument_18 (by omega) hI1 (by omega) (by omega) (by omega)) ?_
        rintro _ _ ⟨z86, rfl, g82, rfl⟩
        refine k_run 0 (pc' := 107) (l' := [(0, .inr (.inr 361)), (1, .inl 2), (2, .inl x), (3, .inl a), (4, .inl b), (5, .inl c), (6, .inr (.inr 18)), (7, .inl x7), (8, .inl x8), (9, .inl x9)]) (st' := [.inl z86, .inr (.inr 361)]) rfl ?_
        refine k_run 2 (pc' := 110) (l' := [(0, .inr (.inr 361)), (1, .inl 2), (2, .inl x), (3, .inl a), (4, .inl b), (5, .inl c), (6, .inr (.inr 18)), (7, .inl x7), (8, .inl x8), (9, .inl x9)]) (st' := [.inl 1, .inl b, .inl z86, .inr (.inr 361)]) rfl ?_
        refine h_cv (i := 109) (j := 73) (b := 361) (M' := mt_73) (xs := [.inl 1, .inl b, .inl z86]) (rest := []) rfl rfl rfl rfl (zs_K (x := kx_361) rfl (by decide)) rfl (Nat.le_of_ble_eq_true rfl) (Nat.le_of_ble_eq_true rfl) (by omega) (hR1 (by omega) hI1 (by omega) (by omega) (by omega)) ?_
        rintro _ H88 ⟨z91, rfl, g87, hI89, hq90⟩
        have hf92 : fq [(361, 3), (361, 4), (361, 5), (361, 9)] [362] true H H88 := fq_t hf1 hq90 rfl rfl rfl
        refine k_run 0 (pc' := 113) (l' := [(0, .inr (.inr 361)), (1, .inl 2), (2, .inl x), (3, .inl a), (4, .inl b), (5, .inl c), (6, .inr (.inr 18)), (7, .inl x7), (8, .inl x8), (9, .inl x9)]) (st' := [.inl z91]) rfl ?_
        refine k_run 3 (pc' := 86) (l' := [(0, .inr (.inr 361)), (1, .inl 2), (2, .inl x), (3, .inl a), (4, .inl b), (5, .inl c), (6, .inr (.inr 18)), (7, .inl x7), (8, .inl z91), (9, .inl (x9 + 1))]) (st' := []) rfl ?_
        have g93 : -2147483648 ≤ (H88.1 361 4) ∧ (H88.1 361 4) ≤ 2147483647 := kn (x := kx_361) hI89 rfl 4
        exact ih H88 hI89 hf92 x7 z91 (x9 + 1) (by omega) (by omega) (by omega) (by omega) (by omega) (by omega) (by omega) (by omega)
set_option maxRecDepth 100000 in
theorem f_readApplied_2 {m : Nat} {d : Nat} (hd : 3 * m + 9 ≤ d) {H : hp} (hI : Inv H) {x : Int} {a : Int} {b : Int} {c : Int} (hx : -2147483648 ≤ x ∧ x ≤ 2147483647) (ha : -2147483648 ≤ a ∧ a ≤ 2147483647) (hb : -2147483648 ≤ b ∧ b ≤ 2147483647) (hc : 0 ≤ c ∧ c ≤ 1) (hp0 : 0 ≤ x ∧ x < 16) (hp1 : -2 ≤ a ∧ a ≤ 100 ∧ 0 ≤ b ∧ b ≤ 10 ∧ 10 ≤ b + (m : Int)) (hR1 : RT1c9 m) : hG (zs zK) d mt_74 0 (zargs 0 [.inr (.inr 361), .inl 2, .inl x, .inl a, .inl b, .inl c]) [] H (fun r9 H9 => ∃ z : Int, r9 = some (.inl z) ∧ ((0 ≤ z ∧ z ≤ 1) ∧ ((z = 0 ∨ H9.1 361 4 = H.1 361 4))) ∧ Inv H9 ∧ fq [(361, 3), (361, 4), (361, 5), (361, 9)] [362] true H H9) := by
  refine k_run 0 (pc' := 0) (l' := [(0, .inr (.inr 361)), (1, .inl 2), (2, .inl x), (3, .inl a), (4, .inl b), (5, .inl c)]) (st' := []) rfl ?_
  refine k_run 2 (pc' := 2) (l' := [(0, .inr (.inr 361)), (1, .inl 2), (2, .inl x), (3, .inl a), (4, .inl b), (5, .inl c)]) (st' := [.inl 2, .inl 2]) rfl ?_
  refine h_ine (off := 13) (t := 15) rfl rfl (by decide) (by decide) (fun c => absurd c (by decide)) (fun _ => ?_)
  refine k_run 0 (pc' := 5) (l' := [(0, .inr (.inr 361)), (1, .inl 2), (2, .inl x), (3, .inl a), (4, .inl b), (5, .inl c)]) (st' := []) rfl ?_
  refine k_run 8 (pc' := 30) (l' := [(0, .inr (.inr 361)), (1, .inl 2), (2, .inl x), (3, .inl a), (4, .inl b), (5, .inl c), (6, .inr (.inr 18))]) (st' := [.inl x, .inr (.inr 21)]) rfl ?_
  refine k_ild (c := 21) (j := (x).toNat) (i := x) (x := kx_21) rfl rfl (by decide) rfl (by decide) (by omega) (by omega) ?_
  have g1 : 0 ≤ (H.1 21 (x).toNat) ∧ (H.1 21 (x).toNat) ≤ 4 := kn (x := kx_21) hI rfl (x).toNat
  refine k_run 0 (pc' := 31) (l' := [(0, .inr (.inr 361)), (1, .inl 2), (2, .inl x), (3, .inl a), (4, .inl b), (5, .inl c), (6, .inr (.inr 18))]) (st' := [.inl (H.1 21 (x).toNat)]) rfl ?_
  refine k_run 2 (pc' := 35) (l' := [(0, .inr (.inr 361)), (1, .inl 2), (2, .inl x), (3, .inl a), (4, .inl b), (5, .inl c), (6, .inr (.inr 18)), (7, .inl (H.1 21 (x).toNat))]) (st' := [.inl c]) rfl ?_
  refine h_zeq (off := 14) (t := 49) rfl rfl (by omega) (fun c2 => ?_) (fun c2 => ?_)
  · refine k_run 0 (pc' := 49) (l' := [(0, .inr (.inr 361)), (1, .inl 2), (2, .inl x), (3, .inl a), (4, .inl b), (5, .inl c), (6, .inr (.inr 18)), (7, .inl (H.1 21 (x).toNat))]) (st' := []) rfl ?_
    refine k_run 1 (pc' := 50) (l' := [(0, .inr (.inr 361)), (1, .inl 2), (2, .inl x), (3, .inl a), (4, .inl b), (5, .inl c), (6, .inr (.inr 18)), (7, .inl (H.1 21 (x).toNat))]) (st' := [.inl a]) rfl ?_
    refine h_zlt (off := 20) (t := 70) rfl rfl (by omega) (fun c3 => ?_) (fun c3 => ?_)
    · refine k_run 0 (pc' := 70) (l' := [(0, .inr (.inr 361)), (1, .inl 2), (2, .inl x), (3, .inl a), (4, .inl b), (5, .inl c), (6, .inr (.inr 18)), (7, .inl (H.1 21 (x).toNat))]) (st' := []) rfl ?_
      refine k_run 4 (pc' := 75) (l' := [(0, .inr (.inr 361)), (1, .inl 2), (2, .inl x), (3, .inl a), (4, .inl b), (5, .inl c), (6, .inr (.inr 18)), (7, .inl (H.1 21 (x).toNat))]) (st' := [.inl (H.1 21 (x).toNat), .inl x, .inl 2, .inr (.inr 361)]) rfl ?_
      refine h_cs (i := 153) (j := 48) (M' := mt_48) (xs := [.inl (H.1 21 (x).toNat), .inl x, .inl 2]) (rest := [.inr (.inr 361)]) rfl rfl rfl rfl rfl (Nat.le_of_ble_eq_true rfl) (Nat.le_of_ble_eq_true rfl) (by omega) (k_Term_codeOf (by omega)  (by decide) (by omega) (by omega)) ?_
      rintro _ _ ⟨z8, rfl, g4, rfl⟩
      refine k_run 0 (pc' := 78) (l' := [(0, .inr (.inr 361)), (1, .inl 2), (2, .inl x), (3, .inl a), (4, .inl b), (5, .inl c), (6, .inr (.inr 18)), (7, .inl (H.1 21 (x).toNat))]) (st' := [.inl z8, .inr (.inr 361)]) rfl ?_
      refine h_cv (i := 157) (j := 77) (b := 361) (M' := mt_77) (xs := [.inl z8]) (rest := []) rfl rfl rfl rfl (zs_K (x := kx_361) rfl (by decide)) rfl (Nat.le_of_ble_eq_true rfl) (Nat.le_of_ble_eq_true rfl) (by omega) (f_Reader_addName (by omega) hI (by omega)) ?_
      rintro _ H10 ⟨z13, rfl, g9, hI11, hq12⟩
      have hf14 : fq [(361, 3), (361, 4), (361, 5), (361, 9)] [362] true H H10 := fq_t (fq_rf _ _ _ _) hq12 rfl rfl rfl
      refine k_run 0 (pc' := 81) (l' := [(0, .inr (.inr 361)), (1, .inl 2), (2, .inl x), (3, .inl a), (4, .inl b), (5, .inl c), (6, .inr (.inr 18)), (7, .inl (H.1 21 (x).toNat))]) (st' := [.inl z13]) rfl ?_
      refine k_run 3 (pc' := 86) (l' := [(0, .inr (.inr 361)), (1, .inl 2), (2, .inl x), (3, .inl a), (4, .inl b), (5, .inl c), (6, .inr (.inr 18)), (7, .inl (H.1 21 (x).toNat)), (8, .inl z13), (9, .inl 0)]) (st' := []) rfl ?_
      have g15 : -2147483648 ≤ (H10.1 361 4) ∧ (H10.1 361 4) ≤ 2147483647 := kn (x := kx_361) hI11 rfl 4
      exact (f_readApplied_2_cut hd hI hx ha hb hc hp0 hp1 hR1 _) H10 hI11 hf14 (H.1 21 (x).toNat) z13 (0 : Int) (by omega) (by omega) (by decide) (by omega) (by omega) (by omega) (by omega) (Nat.lt_succ_self _)
    · refine k_run 0 (pc' := 53) (l' := [(0, .inr (.inr 361)), (1, .inl 2), (2, .inl x), (3, .inl a), (4, .inl b), (5, .inl c), (6, .inr (.inr 18)), (7, .inl (H.1 21 (x).toNat))]) (st' := []) rfl ?_
      refine k_run 3 (pc' := 59) (l' := [(0, .inr (.inr 361)), (1, .inl 2), (2, .inl x), (3, .inl a), (4, .inl b), (5, .inl c), (6, .inr (.inr 18)), (7, .inl (H.1 21 (x).toNat))]) (st' := [.inl x, .inr (.inr 20)]) rfl ?_
      refine k_ild (c := 20) (j := (x).toNat) (i := x) (x := kx_20) rfl rfl (by decide) rfl (by decide) (by omega) (by omega) ?_
      have g16 : -2 ≤ (H.1 20 (x).toNat) ∧ (H.1 20 (x).toNat) ≤ 100 := kn (x := kx_20) hI rfl (x).toNat
      refine k_run 0 (pc' := 60) (l' := [(0, .inr (.inr 361)), (1, .inl 2), (2, .inl x), (3, .inl a), (4, .inl b), (5, .inl c), (6, .inr (.inr 18)), (7, .inl (H.1 21 (x).toNat))]) (st' := [.inl (H.1 20 (x).toNat)]) rfl ?_
      refine k_run 1 (pc' := 61) (l' := [(0, .inr (.inr 361)), (1, .inl 2), (2, .inl x), (3, .inl a), (4, .inl b), (5, .inl c), (6, .inr (.inr 18)), (7, .inl (H.1 21 (x).toNat))]) (st' := [.inl a, .inl (H.1 20 (x).toNat)]) rfl ?_
      refine h_ieq (off := 9) (t := 70) rfl rfl (by omega) (by omega) (fun c17 => ?_) (fun c17 => ?_)
      · refine k_run 0 (pc' := 70) (l' := [(0, .inr (.inr 361)), (1, .inl 2), (2, .inl x), (3, .inl a), (4, .inl b), (5, .inl c), (6, .inr (.inr 18)), (7, .inl (H.1 21 (x).toNat))]) (st' := []) rfl ?_
        refine k_run 4 (pc' := 75) (l' := [(0, .inr (.inr 361)), (1, .inl 2), (2, .inl x), (3, .inl a), (4, .inl b), (5, .inl c), (6, .inr (.inr 18)), (7, .inl (H.1 21 (x).toNat))]) (st' := [.inl (H.1 21 (x).toNat), .inl x, .inl 2, .inr (.inr 361)]) rfl ?_
        refine h_cs (i := 153) (j := 48) (M' := mt_48) (xs := [.inl (H.1 21 (x).toNat), .inl x, .inl 2]) (rest := [.inr (.inr 361)]) rfl rfl rfl rfl rfl (Nat.le_of_ble_eq_true rfl) (Nat.le_of_ble_eq_true rfl) (by omega) (k_Term_codeOf (by omega)  (by decide) (by omega) (by omega)) ?_
        rintro _ _ ⟨z22, rfl, g18, rfl⟩
        refine k_run 0 (pc' := 78) (l' := [(0, .inr (.inr 361)), (1, .inl 2), (2, .inl x), (3, .inl a), (4, .inl b), (5, .inl c), (6, .inr (.inr 18)), (7, .inl (H.1 21 (x).toNat))]) (st' := [.inl z22, .inr (.inr 361)]) rfl ?_
        refine h_cv (i := 157) (j := 77) (b := 361) (M' := mt_77) (xs := [.inl z22]) (rest := []) rfl rfl rfl rfl (zs_K (x := kx_361) rfl (by decide)) rfl (Nat.le_of_ble_eq_true rfl) (Nat.le_of_ble_eq_true rfl) (by omega) (f_Reader_addName (by omega) hI (by omega)) ?_
        rintro _ H24 ⟨z27, rfl, g23, hI25, hq26⟩
        have hf28 : fq [(361, 3), (361, 4), (361, 5), (361, 9)] [362] true H H24 := fq_t (fq_rf _ _ _ _) hq26 rfl rfl rfl
        refine k_run 0 (pc' := 81) (l' := [(0, .inr (.inr 361)), (1, .inl 2), (2, .inl x), (3, .inl a), (4, .inl b), (5, .inl c), (6, .inr (.inr 18)), (7, .inl (H.1 21 (x).toNat))]) (st' := [.inl z27]) rfl ?_
        refine k_run 3 (pc' := 86) (l' := [(0, .inr (.inr 361)), (1, .inl 2), (2, .inl x), (3, .inl a), (4, .inl b), (5, .inl c), (6, .inr (.inr 18)), (7, .inl (H.1 21 (x).toNat)), (8, .inl z27), (9, .inl 0)]) (st' := []) rfl ?_
        have g29 : -2147483648 ≤ (H24.1 361 4) ∧ (H24.1 361 4) ≤ 2147483647 := kn (x := kx_361) hI25 rfl 4
        exact (f_readApplied_2_cut hd hI hx ha hb hc hp0 hp1 hR1 _) H24 hI25 hf28 (H.1 21 (x).toNat) z27 (0 : Int) (by omega) (by omega) (by decide) (by omega) (by omega) (by omega) (by omega) (Nat.lt_succ_self _)
      · refine k_run 0 (pc' := 64) (l' := [(0, .inr (.inr 361)), (1, .inl 2), (2, .inl x), (3, .inl a), (4, .inl b), (5, .inl c), (6, .inr (.inr 18)), (7, .inl (H.1 21 (x).toNat))]) (st' := []) rfl ?_
        refine k_run 2 (pc' := 66) (l' := [(0, .inr (.inr 361)), (1, .inl 2), (2, .inl x), (3, .inl a), (4, .inl b), (5, .inl c), (6, .inr (.inr 18)), (7, .inl (H.1 21 (x).toNat))]) (st' := [.inl 4, .inr (.inr 361)]) rfl ?_
        refine h_cv (i := 128) (j := 86) (b := 361) (M' := mt_86) (xs := [.inl 4]) (rest := []) rfl rfl rfl rfl (zs_K (x := kx_361) rfl (by decide)) rfl (Nat.le_of_ble_eq_true rfl) (Nat.le_of_ble_eq_true rfl) (by omega) (f_Reader_fails (by omega) hI (by decide)) ?_
        rintro _ H31 ⟨z34, rfl, g30, hI32, hq33⟩
        have hf35 : fq [(361, 3), (361, 4), (361, 5), (361, 9)] [362] true H H31 := fq_t (fq_rf _ _ _ _) hq33 rfl rfl rfl
        refine k_run 0 (pc' := 69) (l' := [(0, .inr (.inr 361)), (1, .inl 2), (2, .inl x), (3, .inl a), (4, .inl b), (5, .inl c), (6, .inr (.inr 18)), (7, .inl (H.1 21 (x).toNat))]) (st' := [.inl z34]) rfl ?_
        refine h_retz (x := z34) rfl rfl (by omega) ?_
        have g36 : -2147483648 ≤ (H31.1 361 4) ∧ (H31.1 361 4) ≤ 2147483647 := kn (x := kx_361) hI32 rfl 4
        exact ⟨_, rfl, (by omega), hI32, hf35⟩
  · refine k_run 0 (pc' := 38) (l' := [(0, .inr (.inr 361)), (1, .inl 2), (2, .inl x), (3, .inl a), (4, .inl b), (5, .inl c), (6, .inr (.inr 18)), (7, .inl (H.1 21 (x).toNat))]) (st' := []) rfl ?_
    refine k_run 1 (pc' := 40) (l' := [(0, .inr (.inr 361)), (1, .inl 2), (2, .inl x), (3, .inl a), (4, .inl b), (5, .inl c), (6, .inr (.inr 18)), (7, .inl (H.1 21 (x).toNat))]) (st' := [.inl (H.1 21 (x).toNat)]) rfl ?_
    refine h_zle (off := 9) (t := 49) rfl rfl (by omega) (fun c37 => ?_) (fun c37 => ?_)
    · refine k_run 0 (pc' := 49) (l' := [(0, .inr (.inr 361)), (1, .inl 2), (2, .inl x), (3, .inl a), (4, .inl b), (5, .inl c), (6, .inr (.inr 18)), (7, .inl (H.1 21 (x).toNat))]) (st' := []) rfl ?_
      refine k_run 1 (pc' := 50) (l' := [(0, .inr (.inr 361)), (1, .inl 2), (2, .inl x), (3, .inl a), (4, .inl b), (5, .inl c), (6, .inr (.inr 18)), (7, .inl (H.1 21 (x).toNat))]) (st' := [.inl a]) rfl ?_
      refine h_zlt (off := 20) (t := 70) rfl rfl (by omega) (fun c38 => ?_) (fun c38 => ?_)
      · refine k_run 0 (pc' := 70) (l' := [(0, .inr (.inr 361)), (1, .inl 2), (2, .inl x), (3, .inl a), (4, .inl b), (5, .inl c), (6, .inr (.inr 18)), (7, .inl (H.1 21 (x).toNat))]) (st' := []) rfl ?_
        refine k_run 4 (pc' := 75) (l' := [(0, .inr (.inr 361)), (1, .inl 2), (2, .inl x), (3, .inl a), (4, .inl b), (5, .inl c), (6, .inr (.inr 18)), (7, .inl (H.1 21 (x).toNat))]) (st' := [.inl (H.1 21 (x).toNat), .inl x, .inl 2, .inr (.inr 361)]) rfl ?_
        refine h_cs (i := 153) (j := 48) (M' := mt_48) (xs := [.inl (H.1 21 (x).toNat), .inl x, .inl 2]) (rest := [.inr (.inr 361)]) rfl rfl rfl rfl rfl (Nat.le_of_ble_eq_true rfl) (Nat.le_of_ble_eq_true rfl) (by omega) (k_Term_codeOf (by omega)  (by decide) (by omega) (by omega)) ?_
        rintro _ _ ⟨z43, rfl, g39, rfl⟩
        refine k_run 0 (pc' := 78) (l' := [(0, .inr (.inr 361)), (1, .inl 2), (2, .inl x), (3, .inl a), (4, .inl b), (5, .inl c), (6, .inr (.inr 18)), (7, .inl (H.1 21 (x).toNat))]) (st' := [.inl z43, .inr (.inr 361)]) rfl ?_
        refine h_cv (i := 157) (j := 77) (b := 361) (M' := mt_77) (xs := [.inl z43]) (rest := []) rfl rfl rfl rfl (zs_K (x := kx_361) rfl (by decide)) rfl (Nat.le_of_ble_eq_true rfl) (Nat.le_of_ble_eq_true rfl) (by omega) (f_Reader_addName (by omega) hI (by omega)) ?_
        rintro _ H45 ⟨z48, rfl, g44, hI46, hq47⟩
        have hf49 : fq [(361, 3), (361, 4), (361, 5), (361, 9)] [362] true H H45 := fq_t (fq_rf _ _ _ _) hq47 rfl rfl rfl
        refine k_run 0 (pc' := 81) (l' := [(0, .inr (.inr 361)), (1, .inl 2), (2, .inl x), (3, .inl a), (4, .inl b), (5, .inl c), (6, .inr (.inr 18)), (7, .inl (H.1 21 (x).toNat))]) (st' := [.inl z48]) rfl ?_
        refine k_run 3 (pc' := 86) (l' := [(0, .inr (.inr 361)), (1, .inl 2), (2, .inl x), (3, .inl a), (4, .inl b), (5, .inl c), (6, .inr (.inr 18)), (7, .inl (H.1 21 (x).toNat)), (8, .inl z48), (9, .inl 0)]) (st' := []) rfl ?_
        have g50 : -2147483648 ≤ (H45.1 361 4) ∧ (H45.1 361 4) ≤ 2147483647 := kn (x := kx_361) hI46 rfl 4
        exact (f_readApplied_2_cut hd hI hx ha hb hc hp0 hp1 hR1 _) H45 hI46 hf49 (H.1 21 (x).toNat) z48 (0 : Int) (by omega) (by omega) (by decide) (by omega) (by omega) (by omega) (by omega) (Nat.lt_succ_self _)
      · refine k_run 0 (pc' := 53) (l' := [(0, .inr (.inr 361)), (1, .inl 2), (2, .inl x), (3, .inl a), (4, .inl b), (5, .inl c), (6, .inr (.inr 18)), (7, .inl (H.1 21 (x).toNat))]) (st' := []) rfl ?_
        refine k_run 3 (pc' := 59) (l' := [(0, .inr (.inr 361)), (1, .inl 2), (2, .inl x), (3, .inl a), (4, .inl b), (5, .inl c), (6, .inr (.inr 18)), (7, .inl (H.1 21 (x).toNat))]) (st' := [.inl x, .inr (.inr 20)]) rfl ?_
        refine k_ild (c := 20) (j := (x).toNat) (i := x) (x := kx_20) rfl rfl (by decide) rfl (by decide) (by omega) (by omega) ?_
        have g51 : -2 ≤ (H.1 20 (x).toNat) ∧ (H.1 20 (x).toNat) ≤ 100 := kn (x := kx_20) hI rfl (x).toNat
        refine k_run 0 (pc' := 60) (l' := [(0, .inr (.inr 361)), (1, .inl 2), (2, .inl x), (3, .inl a), (4, .inl b), (5, .inl c), (6, .inr (.inr 18)), (7, .inl (H.1 21 (x).toNat))]) (st' := [.inl (H.1 20 (x).toNat)]) rfl ?_
        refine k_run 1 (pc' := 61) (l' := [(0, .inr (.inr 361)), (1, .inl 2), (2, .inl x), (3, .inl a), (4, .inl b), (5, .inl c), (6, .inr (.inr 18)), (7, .inl (H.1 21 (x).toNat))]) (st' := [.inl a, .inl (H.1 20 (x).toNat)]) rfl ?_
        refine h_ieq (off := 9) (t := 70) rfl rfl (by omega) (by omega) (fun c52 => ?_) (fun c52 => ?_)
        · refine k_run 0 (pc' := 70) (l' := [(0, .inr (.inr 361)), (1, .inl 2), (2, .inl x), (3, .inl a), (4, .inl b), (5, .inl c), (6, .inr (.inr 18)), (7, .inl (H.1 21 (x).toNat))]) (st' := []) rfl ?_
          refine k_run 4 (pc' := 75) (l' := [(0, .inr (.inr 361)), (1, .inl 2), (2, .inl x), (3, .inl a), (4, .inl b), (5, .inl c), (6, .inr (.inr 18)), (7, .inl (H.1 21 (x).toNat))]) (st' := [.inl (H.1 21 (x).toNat), .inl x, .inl 2, .inr (.inr 361)]) rfl ?_
          refine h_cs (i := 153) (j := 48) (M' := mt_48) (xs := [.inl (H.1 21 (x).toNat), .inl x, .inl 2]) (rest := [.inr (.inr 361)]) rfl rfl rfl rfl rfl (Nat.le_of_ble_eq_true rfl) (Nat.le_of_ble_eq_true rfl) (by omega) (k_Term_codeOf (by omega)  (by decide) (by omega) (by omega)) ?_
          rintro _ _ ⟨z57, rfl, g53, rfl⟩
          refine k_run 0 (pc' := 78) (l' := [(0, .inr (.inr 361)), (1, .inl 2), (2, .inl x), (3, .inl a), (4, .inl b), (5, .inl c), (6, .inr (.inr 18)), (7, .inl (H.1 21 (x).toNat))]) (st' := [.inl z57, .inr (.inr 361)]) rfl ?_
          refine h_cv (i := 157) (j := 77) (b := 361) (M' := mt_77) (xs := [.inl z57]) (rest := []) rfl rfl rfl rfl (zs_K (x := kx_361) rfl (by decide)) rfl (Nat.le_of_ble_eq_true rfl) (Nat.le_of_ble_eq_true rfl) (by omega) (f_Reader_addName (by omega) hI (by omega)) ?_
          rintro _ H59 ⟨z62, rfl, g58, hI60, hq61⟩
          have hf63 : fq [(361, 3), (361, 4), (361, 5), (361, 9)] [362] true H H59 := fq_t (fq_rf _ _ _ _) hq61 rfl rfl rfl
          refine k_run 0 (pc' := 81) (l' := [(0, .inr (.inr 361)), (1, .inl 2), (2, .inl x), (3, .inl a), (4, .inl b), (5, .inl c), (6, .inr (.inr 18)), (7, .inl (H.1 21 (x).toNat))]) (st' := [.inl z62]) rfl ?_
          refine k_run 3 (pc' := 86) (l' := [(0, .inr (.inr 361)), (1, .inl 2), (2, .inl x), (3, .inl a), (4, .inl b), (5, .inl c), (6, .inr (.inr 18)), (7, .inl (H.1 21 (x).toNat)), (8, .inl z62), (9, .inl 0)]) (st' := []) rfl ?_
          have g64 : -2147483648 ≤ (H59.1 361 4) ∧ (H59.1 361 4) ≤ 2147483647 := kn (x := kx_361) hI60 rfl 4
          exact (f_readApplied_2_cut hd hI hx ha hb hc hp0 hp1 hR1 _) H59 hI60 hf63 (H.1 21 (x).toNat) z62 (0 : Int) (by omega) (by omega) (by decide) (by omega) (by omega) (by omega) (by omega) (Nat.lt_succ_self _)
        · refine k_run 0 (pc' := 64) (l' := [(0, .inr (.inr 361)), (1, .inl 2), (2, .inl x), (3, .inl a), (4, .inl b), (5, .inl c), (6, .inr (.inr 18)), (7, .inl (H.1 21 (x).toNat))]) (st' := []) rfl ?_
          refine k_run 2 (pc' := 66) (l' := [(0, .inr (.inr 361)), (1, .inl 2), (2, .inl x), (3, .inl a), (4, .inl b), (5, .inl c), (6, .inr (.inr 18)), (7, .inl (H.1 21 (x).toNat))]) (st' := [.inl 4, .inr (.inr 361)]) rfl ?_
          refine h_cv (i := 128) (j := 86) (b := 361) (M' := mt_86) (xs := [.inl 4]) (rest := []) rfl rfl rfl rfl (zs_K (x := kx_361) rfl (by decide)) rfl (Nat.le_of_ble_eq_true rfl) (Nat.le_of_ble_eq_true rfl) (by omega) (f_Reader_fails (by omega) hI (by decide)) ?_
          rintro _ H66 ⟨z69, rfl, g65, hI67, hq68⟩
          have hf70 : fq [(361, 3), (361, 4), (361, 5), (361, 9)] [362] true H H66 := fq_t (fq_rf _ _ _ _) hq68 rfl rfl rfl
          refine k_run 0 (pc' := 69) (l' := [(0, .inr (.inr 361)), (1, .inl 2), (2, .inl x), (3, .inl a), (4, .inl b), (5, .inl c), (6, .inr (.inr 18)), (7, .inl (H.1 21 (x).toNat))]) (st' := [.inl z69]) rfl ?_
          refine h_retz (x := z69) rfl rfl (by omega) ?_
          have g71 : -2147483648 ≤ (H66.1 361 4) ∧ (H66.1 361 4) ≤ 2147483647 := kn (x := kx_361) hI67 rfl 4
          exact ⟨_, rfl, (by omega), hI67, hf70⟩
    · refine k_run 0 (pc' := 43) (l' := [(0, .inr (.inr 361)), (1, .inl 2), (2, .inl x), (3, .inl a), (4, .inl b), (5, .inl c), (6, .inr (.inr 18)), (7, .inl (H.1 21 (x).toNat))]) (st' := []) rfl ?_
      refine k_run 2 (pc' := 45) (l' := [(0, .inr (.inr 361)), (1, .inl 2), (2, .inl x), (3, .inl a), (4, .inl b), (5, .inl c), (6, .inr (.inr 18)), (7, .inl (H.1 21 (x).toNat))]) (st' := [.inl 2, .inr (.inr 361)]) rfl ?_
      refine h_cv (i := 128) (j := 86) (b := 361) (M' := mt_86) (xs := [.inl 2]) (rest := []) rfl rfl rfl rfl (zs_K (x := kx_361) rfl (by decide)) rfl (Nat.le_of_ble_eq_true rfl) (Nat.le_of_ble_eq_true rfl) (by omega) (f_Reader_fails (by omega) hI (by decide)) ?_
      rintro _ H73 ⟨z76, rfl, g72, hI74, hq75⟩
      have hf77 : fq [(361, 3), (361, 4), (361, 5), (361, 9)] [362] true H H73 := fq_t (fq_rf _ _ _ _) hq75 rfl rfl rfl
      refine k_run 0 (pc' := 48) (l' := [(0, .inr (.inr 361)), (1, .inl 2), (2, .inl x), (3, .inl a), (4, .inl b), (5, .inl c), (6, .inr (.inr 18)), (7, .inl (H.1 21 (x).toNat))]) (st' := [.inl z76]) rfl ?_
      refine h_retz (x := z76) rfl rfl (by omega) ?_
      have g78 : -2147483648 ≤ (H73.1 361 4) ∧ (H73.1 361 4) ≤ 2147483647 := kn (x := kx_361) hI74 rfl 4
      exact ⟨_, rfl, (by omega), hI74, hf77⟩

/-! Reader.readApplied -/
set_option maxRecDepth 100000 in
theorem f_readApplied_1_cut {m : Nat} {d : Nat} (hd : 3 * m + 9 ≤ d) {H : hp} (hI : Inv H) {x : Int} {a : Int} {b : Int} {c : Int} (hx : -2147483648 ≤ x ∧ x ≤ 2147483647) (ha : -2147483648 ≤ a ∧ a ≤ 2147483647) (hb : -2147483648 ≤ b ∧ b ≤ 2147483647) (hc : 0 ≤ c ∧ c ≤ 1) (hp0 : 0 ≤ x ∧ x < 16) (hp1 : -2 ≤ a ∧ a ≤ 100 ∧ 0 ≤ b ∧ b ≤ 10 ∧ 10 ≤ b + (m : Int)) (hR1 : RT1c9 m) : ∀ w : Nat, (∀ (H1 : hp), Inv H1 → fq [(361, 3), (361, 4), (361, 5), (361, 9)] [362] true H H1 → ∀ (x7 : Int) (x8 : Int) (x9 : Int) , (-2147483648 ≤ x7 ∧ x7 ≤ 2147483647) → (-2147483648 ≤ x8 ∧ x8 ≤ 2147483647) → (-2147483648 ≤ x9 ∧ x9 ≤ 2147483647) → (0 ≤ x9) → (x7 ≤ 4) → (0 ≤ x8 ∧ x8 ≤ 1) → ((x8 = 0 ∨ H1.1 361 4 = H.1 361 4)) → (((100 - x9).toNat) < w) → hG (zs zK) d mt_74 86 [(0, .inr (.inr 361)), (1, .inl 1), (2, .inl x), (3, .inl a), (4, .inl b), (5, .inl c), (6, .inr (.inr 13)), (7, .inl x7), (8, .inl x8), (9, .inl x9)] [] H1 (fun r9 H9 => ∃ z : Int, r9 = some (.inl z) ∧ ((0 ≤ z ∧ z ≤ 1) ∧ ((z = 0 ∨ H9.1 361 4 = H.1 361 4))) ∧ Inv H9 ∧ fq [(361, 3), (361, 4), (361, 5), (361, 9)] [362] true H H9)) := by
  intro w
  induction w with
  | zero => exact fun _ _ _ _ _ _ _ _ _ _ _ _ _ h => absurd h (Nat.not_lt_zero _)
  | succ w ih =>
    intro H1 hI1 hf1 x7 x8 x9 hx7 hx8 hx9 hi0 hi1 hi2 hi3 hw
    have g79 : -2147483648 ≤ (H1.1 361 4) ∧ (H1.1 361 4) ≤ 2147483647 := kn (x := kx_361) hI1 rfl 4
    refine k_run 1 (pc' := 88) (l' := [(0, .inr (.inr 361)), (1, .inl 1), (2, .inl x), (3, .inl a), (4, .inl b), (5, .inl c), (6, .inr (.inr 13)), (7, .inl x7), (8, .inl x8), (9, .inl x9)]) (st' := [.inl x8]) rfl ?_
    refine h_zeq (off := 33) (t := 121) rfl rfl (by omega) (fun c80 => ?_) (fun c80 => ?_)
    · refine k_run 0 (pc' := 121) (l' := [(0, .inr (.inr 361)), (1, .inl 1), (2, .inl x), (3, .inl a), (4, .inl b), (5, .inl c), (6, .inr (.inr 13)), (7, .inl x7), (8, .inl x8), (9, .inl x9)]) (st' := []) rfl ?_
      refine k_run 1 (pc' := 123) (l' := [(0, .inr (.inr 361)), (1, .inl 1), (2, .inl x), (3, .inl a), (4, .inl b), (5, .inl c), (6, .inr (.inr 13)), (7, .inl x7), (8, .inl x8), (9, .inl x9)]) (st' := [.inl x8]) rfl ?_
      refine h_retz (x := x8) rfl rfl (by omega) ?_
      exact ⟨_, rfl, (by omega), hI1, hf1⟩
    · refine k_run 0 (pc' := 91) (l' := [(0, .inr (.inr 361)), (1, .inl 1), (2, .inl x), (3, .inl a), (4, .inl b), (5, .inl c), (6, .inr (.inr 13)), (7, .inl x7), (8, .inl x8), (9, .inl x9)]) (st' := []) rfl ?_
      refine k_run 2 (pc' := 95) (l' := [(0, .inr (.inr 361)), (1, .inl 1), (2, .inl x), (3, .inl a), (4, .inl b), (5, .inl c), (6, .inr (.inr 13)), (7, .inl x7), (8, .inl x8), (9, .inl x9)]) (st' := [.inl x7, .inl x9]) rfl ?_
      refine h_ige (off := 26) (t := 121) rfl rfl (by omega) (by omega) (fun c81 => ?_) (fun c81 => ?_)
      · refine k_run 0 (pc' := 121) (l' := [(0, .inr (.inr 361)), (1, .inl 1), (2, .inl x), (3, .inl a), (4, .inl b), (5, .inl c), (6, .inr (.inr 13)), (7, .inl x7), (8, .inl x8), (9, .inl x9)]) (st' := []) rfl ?_
        refine k_run 1 (pc' := 123) (l' := [(0, .inr (.inr 361)), (1, .inl 1), (2, .inl x), (3, .inl a), (4, .inl b), (5, .inl c), (6, .inr (.inr 13)), (7, .inl x7), (8, .inl x8), (9, .inl x9)]) (st' := [.inl x8]) rfl ?_
        refine h_retz (x := x8) rfl rfl (by omega) ?_
        exact ⟨_, rfl, (by omega), hI1, hf1⟩
      · refine k_run 0 (pc' := 98) (l' := [(0, .inr (.inr 361)), (1, .inl 1), (2, .inl x), (3, .inl a), (4, .inl b), (5, .inl c), (6, .inr (.inr 13)), (7, .inl x7), (8, .inl x8), (9, .inl x9)]) (st' := []) rfl ?_
        refine k_run 4 (pc' := 104) (l' := [(0, .inr (.inr 361)), (1, .inl 1), (2, .inl x), (3, .inl a), (4, .inl b), (5, .inl c), (6, .inr (.inr 13)), (7, .inl x7), (8, .inl x8), (9, .inl x9)]) (st' := [.inl x9, .inl x, .inr (.inr 13), .inr (.inr 361)]) rfl ?_
        refine h_cv (i := 160) (j := 45) (b := 13) (M' := mt_45) (xs := [.inl x9, .inl x]) (rest := [.inr (.inr 361)]) rfl rfl rfl rfl (zs_K (x := kx_13) rfl (by decide)) rfl (Nat.le_of_ble_eq_true rfl) (Nat.le_of_ble_eq_true rfl) (by omega) (k_Symbols_argument_13 (by omega) hI1 (by omega) (by omega) (by omega)) ?_
        rintro _ _ ⟨z86, rfl, g82, rfl⟩
        refine k_run 0 (pc' := 107) (l' := [(0, .inr (.inr 361)), (1, .inl 1), (2, .inl x), (3, .inl a), (4, .inl b), (5, .inl c), (6, .inr (.inr 13)), (7, .inl x7), (8, .inl x8), (9, .inl x9)]) (st' := [.inl z86, .inr (.inr 361)]) rfl ?_
        refine k_run 2 (pc' := 110) (l' := [(0, .inr (.inr 361)), (1, .inl 1), (2, .inl x), (3, .inl a), (4, .inl b), (5, .inl c), (6, .inr (.inr 13)), (7, .inl x7), (8, .inl x8), (9, .inl x9)]) (st' := [.inl 1, .inl b, .inl z86, .inr (.inr 361)]) rfl ?_
        refine h_cv (i := 109) (j := 73) (b := 361) (M' := mt_73) (xs := [.inl 1, .inl b, .inl z86]) (rest := []) rfl rfl rfl rfl (zs_K (x := kx_361) rfl (by decide)) rfl (Nat.le_of_ble_eq_true rfl) (Nat.le_of_ble_eq_true rfl) (by omega) (hR1 (by omega) hI1 (by omega) (by omega) (by omega)) ?_
        rintro _ H88 ⟨z91, rfl, g87, hI89, hq90⟩
        have hf92 : fq [(361, 3), (361, 4), (361, 5), (361, 9)] [362] true H H88 := fq_t hf1 hq90 rfl rfl rfl
        refine k_run 0 (pc' := 113) (l' := [(0, .inr (.inr 361)), (1, .inl 1), (2, .inl x), (3, .inl a), (4, .inl b), (5, .inl c), (6, .inr (.inr 13)), (7, .inl x7), (8, .inl x8), (9, .inl x9)]) (st' := [.inl z91]) rfl ?_
        refine k_run 3 (pc' := 86) (l' := [(0, .inr (.inr 361)), (1, .inl 1), (2, .inl x), (3, .inl a), (4, .inl b), (5, .inl c), (6, .inr (.inr 13)), (7, .inl x7), (8, .inl z91), (9, .inl (x9 + 1))]) (st' := []) rfl ?_
        have g93 : -2147483648 ≤ (H88.1 361 4) ∧ (H88.1 361 4) ≤ 2147483647 := kn (x := kx_361) hI89 rfl 4
        exact ih H88 hI89 hf92 x7 z91 (x9 + 1) (by omega) (by omega) (by omega) (by omega) (by omega) (by omega) (by omega) (by omega)
set_option maxRecDepth 100000 in
theorem f_readApplied_1 {m : Nat} {d : Nat} (hd : 3 * m + 9 ≤ d) {H : hp} (hI : Inv H) {x : Int} {a : Int} {b : Int} {c : Int} (hx : -2147483648 ≤ x ∧ x ≤ 2147483647) (ha : -2147483648 ≤ a ∧ a ≤ 2147483647) (hb : -2147483648 ≤ b ∧ b ≤ 2147483647) (hc : 0 ≤ c ∧ c ≤ 1) (hp0 : 0 ≤ x ∧ x < 16) (hp1 : -2 ≤ a ∧ a ≤ 100 ∧ 0 ≤ b ∧ b ≤ 10 ∧ 10 ≤ b + (m : Int)) (hR1 : RT1c9 m) : hG (zs zK) d mt_74 0 (zargs 0 [.inr (.inr 361), .inl 1, .inl x, .inl a, .inl b, .inl c]) [] H (fun r9 H9 => ∃ z : Int, r9 = some (.inl z) ∧ ((0 ≤ z ∧ z ≤ 1) ∧ ((z = 0 ∨ H9.1 361 4 = H.1 361 4))) ∧ Inv H9 ∧ fq [(361, 3), (361, 4), (361, 5), (361, 9)] [362] true H H9) := by
  refine k_run 0 (pc' := 0) (l' := [(0, .inr (.inr 361)), (1, .inl 1), (2, .inl x), (3, .inl a), (4, .inl b), (5, .inl c)]) (st' := []) rfl ?_
  refine k_run 2 (pc' := 2) (l' := [(0, .inr (.inr 361)), (1, .inl 1), (2, .inl x), (3, .inl a), (4, .inl b), (5, .inl c)]) (st' := [.inl 2, .inl 1]) rfl ?_
  refine h_ine (off := 13) (t := 15) rfl rfl (by decide) (by decide) (fun _ => ?_) (fun c => absurd c (by decide))
  refine k_run 0 (pc' := 15) (l' := [(0, .inr (.inr 361)), (1, .inl 1), (2, .inl x), (3, .inl a), (4, .inl b), (5, .inl c)]) (st' := []) rfl ?_
  refine k_run 7 (pc' := 30) (l' := [(0, .inr (.inr 361)), (1, .inl 1), (2, .inl x), (3, .inl a), (4, .inl b), (5, .inl c), (6, .inr (.inr 13))]) (st' := [.inl x, .inr (.inr 16)]) rfl ?_
  refine k_ild (c := 16) (j := (x).toNat) (i := x) (x := kx_16) rfl rfl (by decide) rfl (by decide) (by omega) (by omega) ?_
  have g1 : 0 ≤ (H.1 16 (x).toNat) ∧ (H.1 16 (x).toNat) ≤ 4 := kn (x := kx_16) hI rfl (x).toNat
  refine k_run 0 (pc' := 31) (l' := [(0, .inr (.inr 361)), (1, .inl 1), (2, .inl x), (3, .inl a), (4, .inl b), (5, .inl c), (6, .inr (.inr 13))]) (st' := [.inl (H.1 16 (x).toNat)]) rfl ?_
  refine k_run 2 (pc' := 35) (l' := [(0, .inr (.inr 361)), (1, .inl 1), (2, .inl x), (3, .inl a), (4, .inl b), (5, .inl c), (6, .inr (.inr 13)), (7, .inl (H.1 16 (x).toNat))]) (st' := [.inl c]) rfl ?_
  refine h_zeq (off := 14) (t := 49) rfl rfl (by omega) (fun c2 => ?_) (fun c2 => ?_)
  · refine k_run 0 (pc' := 49) (l' := [(0, .inr (.inr 361)), (1, .inl 1), (2, .inl x), (3, .inl a), (4, .inl b), (5, .inl c), (6, .inr (.inr 13)), (7, .inl (H.1 16 (x).toNat))]) (st' := []) rfl ?_
    refine k_run 1 (pc' := 50) (l' := [(0, .inr (.inr 361)), (1, .inl 1), (2, .inl x), (3, .inl a), (4, .inl b), (5, .inl c), (6, .inr (.inr 13)), (7, .inl (H.1 16 (x).toNat))]) (st' := [.inl a]) rfl ?_
    refine h_zlt (off := 20) (t := 70) rfl rfl (by omega) (fun c3 => ?_) (fun c3 => ?_)
    · refine k_run 0 (pc' := 70) (l' := [(0, .inr (.inr 361)), (1, .inl 1), (2, .inl x), (3, .inl a), (4, .inl b), (5, .inl c), (6, .inr (.inr 13)), (7, .inl (H.1 16 (x).toNat))]) (st' := []) rfl ?_
      refine k_run 4 (pc' := 75) (l' := [(0, .inr (.inr 361)), (1, .inl 1), (2, .inl x), (3, .inl a), (4, .inl b), (5, .inl c), (6, .inr (.inr 13)), (7, .inl (H.1 16 (x).toNat))]) (st' := [.inl (H.1 16 (x).toNat), .inl x, .inl 1, .inr (.inr 361)]) rfl ?_
      refine h_cs (i := 153) (j := 48) (M' := mt_48) (xs := [.inl (H.1 16 (x).toNat), .inl x, .inl 1]) (rest := [.inr (.inr 361)]) rfl rfl rfl rfl rfl (Nat.le_of_ble_eq_true rfl) (Nat.le_of_ble_eq_true rfl) (by omega) (k_Term_codeOf (by omega)  (by decide) (by omega) (by omega)) ?_
      rintro _ _ ⟨z8, rfl, g4, rfl⟩
      refine k_run 0 (pc' := 78) (l' := [(0, .inr (.inr 361)), (1, .inl 1), (2, .inl x), (3, .inl a), (4, .inl b), (5, .inl c), (6, .inr (.inr 13)), (7, .inl (H.1 16 (x).toNat))]) (st' := [.inl z8, .inr (.inr 361)]) rfl ?_
      refine h_cv (i := 157) (j := 77) (b := 361) (M' := mt_77) (xs := [.inl z8]) (rest := []) rfl rfl rfl rfl (zs_K (x := kx_361) rfl (by decide)) rfl (Nat.le_of_ble_eq_true rfl) (Nat.le_of_ble_eq_true rfl) (by omega) (f_Reader_addName (by omega) hI (by omega)) ?_
      rintro _ H10 ⟨z13, rfl, g9, hI11, hq12⟩
      have hf14 : fq [(361, 3), (361, 4), (361, 5), (361, 9)] [362] true H H10 := fq_t (fq_rf _ _ _ _) hq12 rfl rfl rfl
      refine k_run 0 (pc' := 81) (l' := [(0, .inr (.inr 361)), (1, .inl 1), (2, .inl x), (3, .inl a), (4, .inl b), (5, .inl c), (6, .inr (.inr 13)), (7, .inl (H.1 16 (x).toNat))]) (st' := [.inl z13]) rfl ?_
      refine k_run 3 (pc' := 86) (l' := [(0, .inr (.inr 361)), (1, .inl 1), (2, .inl x), (3, .inl a), (4, .inl b), (5, .inl c), (6, .inr (.inr 13)), (7, .inl (H.1 16 (x).toNat)), (8, .inl z13), (9, .inl 0)]) (st' := []) rfl ?_
      have g15 : -2147483648 ≤ (H10.1 361 4) ∧ (H10.1 361 4) ≤ 2147483647 := kn (x := kx_361) hI11 rfl 4
      exact (f_readApplied_1_cut hd hI hx ha hb hc hp0 hp1 hR1 _) H10 hI11 hf14 (H.1 16 (x).toNat) z13 (0 : Int) (by omega) (by omega) (by decide) (by omega) (by omega) (by omega) (by omega) (Nat.lt_succ_self _)
    · refine k_run 0 (pc' := 53) (l' := [(0, .inr (.inr 361)), (1, .inl 1), (2, .inl x), (3, .inl a), (4, .inl b), (5, .inl c), (6, .inr (.inr 13)), (7, .inl (H.1 16 (x).toNat))]) (st' := []) rfl ?_
      refine k_run 3 (pc' := 59) (l' := [(0, .inr (.inr 361)), (1, .inl 1), (2, .inl x), (3, .inl a), (4, .inl b), (5, .inl c), (6, .inr (.inr 13)), (7, .inl (H.1 16 (x).toNat))]) (st' := [.inl x, .inr (.inr 15)]) rfl ?_
      refine k_ild (c := 15) (j := (x).toNat) (i := x) (x := kx_15) rfl rfl (by decide) rfl (by decide) (by omega) (by omega) ?_
      have g16 : -2 ≤ (H.1 15 (x).toNat) ∧ (H.1 15 (x).toNat) ≤ 100 := kn (x := kx_15) hI rfl (x).toNat
      refine k_run 0 (pc' := 60) (l' := [(0, .inr (.inr 361)), (1, .inl 1), (2, .inl x), (3, .inl a), (4, .inl b), (5, .inl c), (6, .inr (.inr 13)), (7, .inl (H.1 16 (x).toNat))]) (st' := [.inl (H.1 15 (x).toNat)]) rfl ?_
      refine k_run 1 (pc' := 61) (l' := [(0, .inr (.inr 361)), (1, .inl 1), (2, .inl x), (3, .inl a), (4, .inl b), (5, .inl c), (6, .inr (.inr 13)), (7, .inl (H.1 16 (x).toNat))]) (st' := [.inl a, .inl (H.1 15 (x).toNat)]) rfl ?_
      refine h_ieq (off := 9) (t := 70) rfl rfl (by omega) (by omega) (fun c17 => ?_) (fun c17 => ?_)
      · refine k_run 0 (pc' := 70) (l' := [(0, .inr (.inr 361)), (1, .inl 1), (2, .inl x), (3, .inl a), (4, .inl b), (5, .inl c), (6, .inr (.inr 13)), (7, .inl (H.1 16 (x).toNat))]) (st' := []) rfl ?_
        refine k_run 4 (pc' := 75) (l' := [(0, .inr (.inr 361)), (1, .inl 1), (2, .inl x), (3, .inl a), (4, .inl b), (5, .inl c), (6, .inr (.inr 13)), (7, .inl (H.1 16 (x).toNat))]) (st' := [.inl (H.1 16 (x).toNat), .inl x, .inl 1, .inr (.inr 361)]) rfl ?_
        refine h_cs (i := 153) (j := 48) (M' := mt_48) (xs := [.inl (H.1 16 (x).toNat), .inl x, .inl 1]) (rest := [.inr (.inr 361)]) rfl rfl rfl rfl rfl (Nat.le_of_ble_eq_true rfl) (Nat.le_of_ble_eq_true rfl) (by omega) (k_Term_codeOf (by omega)  (by decide) (by omega) (by omega)) ?_
        rintro _ _ ⟨z22, rfl, g18, rfl⟩
        refine k_run 0 (pc' := 78) (l' := [(0, .inr (.inr 361)), (1, .inl 1), (2, .inl x), (3, .inl a), (4, .inl b), (5, .inl c), (6, .inr (.inr 13)), (7, .inl (H.1 16 (x).toNat))]) (st' := [.inl z22, .inr (.inr 361)]) rfl ?_
        refine h_cv (i := 157) (j := 77) (b := 361) (M' := mt_77) (xs := [.inl z22]) (rest := []) rfl rfl rfl rfl (zs_K (x := kx_361) rfl (by decide)) rfl (Nat.le_of_ble_eq_true rfl) (Nat.le_of_ble_eq_true rfl) (by omega) (f_Reader_addName (by omega) hI (by omega)) ?_
        rintro _ H24 ⟨z27, rfl, g23, hI25, hq26⟩
        have hf28 : fq [(361, 3), (361, 4), (361, 5), (361, 9)] [362] true H H24 := fq_t (fq_rf _ _ _ _) hq26 rfl rfl rfl
        refine k_run 0 (pc' := 81) (l' := [(0, .inr (.inr 361)), (1, .inl 1), (2, .inl x), (3, .inl a), (4, .inl b), (5, .inl c), (6, .inr (.inr 13)), (7, .inl (H.1 16 (x).toNat))]) (st' := [.inl z27]) rfl ?_
        refine k_run 3 (pc' := 86) (l' := [(0, .inr (.inr 361)), (1, .inl 1), (2, .inl x), (3, .inl a), (4, .inl b), (5, .inl c), (6, .inr (.inr 13)), (7, .inl (H.1 16 (x).toNat)), (8, .inl z27), (9, .inl 0)]) (st' := []) rfl ?_
        have g29 : -2147483648 ≤ (H24.1 361 4) ∧ (H24.1 361 4) ≤ 2147483647 := kn (x := kx_361) hI25 rfl 4
        exact (f_readApplied_1_cut hd hI hx ha hb hc hp0 hp1 hR1 _) H24 hI25 hf28 (H.1 16 (x).toNat) z27 (0 : Int) (by omega) (by omega) (by decide) (by omega) (by omega) (by omega) (by omega) (Nat.lt_succ_self _)
      · refine k_run 0 (pc' := 64) (l' := [(0, .inr (.inr 361)), (1, .inl 1), (2, .inl x), (3, .inl a), (4, .inl b), (5, .inl c), (6, .inr (.inr 13)), (7, .inl (H.1 16 (x).toNat))]) (st' := []) rfl ?_
        refine k_run 2 (pc' := 66) (l' := [(0, .inr (.inr 361)), (1, .inl 1), (2, .inl x), (3, .inl a), (4, .inl b), (5, .inl c), (6, .inr (.inr 13)), (7, .inl (H.1 16 (x).toNat))]) (st' := [.inl 4, .inr (.inr 361)]) rfl ?_
        refine h_cv (i := 128) (j := 86) (b := 361) (M' := mt_86) (xs := [.inl 4]) (rest := []) rfl rfl rfl rfl (zs_K (x := kx_361) rfl (by decide)) rfl (Nat.le_of_ble_eq_true rfl) (Nat.le_of_ble_eq_true rfl) (by omega) (f_Reader_fails (by omega) hI (by decide)) ?_
        rintro _ H31 ⟨z34, rfl, g30, hI32, hq33⟩
        have hf35 : fq [(361, 3), (361, 4), (361, 5), (361, 9)] [362] true H H31 := fq_t (fq_rf _ _ _ _) hq33 rfl rfl rfl
        refine k_run 0 (pc' := 69) (l' := [(0, .inr (.inr 361)), (1, .inl 1), (2, .inl x), (3, .inl a), (4, .inl b), (5, .inl c), (6, .inr (.inr 13)), (7, .inl (H.1 16 (x).toNat))]) (st' := [.inl z34]) rfl ?_
        refine h_retz (x := z34) rfl rfl (by omega) ?_
        have g36 : -2147483648 ≤ (H31.1 361 4) ∧ (H31.1 361 4) ≤ 2147483647 := kn (x := kx_361) hI32 rfl 4
        exact ⟨_, rfl, (by omega), hI32, hf35⟩
  · refine k_run 0 (pc' := 38) (l' := [(0, .inr (.inr 361)), (1, .inl 1), (2, .inl x), (3, .inl a), (4, .inl b), (5, .inl c), (6, .inr (.inr 13)), (7, .inl (H.1 16 (x).toNat))]) (st' := []) rfl ?_
    refine k_run 1 (pc' := 40) (l' := [(0, .inr (.inr 361)), (1, .inl 1), (2, .inl x), (3, .inl a), (4, .inl b), (5, .inl c), (6, .inr (.inr 13)), (7, .inl (H.1 16 (x).toNat))]) (st' := [.inl (H.1 16 (x).toNat)]) rfl ?_
    refine h_zle (off := 9) (t := 49) rfl rfl (by omega) (fun c37 => ?_) (fun c37 => ?_)
    · refine k_run 0 (pc' := 49) (l' := [(0, .inr (.inr 361)), (1, .inl 1), (2, .inl x), (3, .inl a), (4, .inl b), (5, .inl c), (6, .inr (.inr 13)), (7, .inl (H.1 16 (x).toNat))]) (st' := []) rfl ?_
      refine k_run 1 (pc' := 50) (l' := [(0, .inr (.inr 361)), (1, .inl 1), (2, .inl x), (3, .inl a), (4, .inl b), (5, .inl c), (6, .inr (.inr 13)), (7, .inl (H.1 16 (x).toNat))]) (st' := [.inl a]) rfl ?_
      refine h_zlt (off := 20) (t := 70) rfl rfl (by omega) (fun c38 => ?_) (fun c38 => ?_)
      · refine k_run 0 (pc' := 70) (l' := [(0, .inr (.inr 361)), (1, .inl 1), (2, .inl x), (3, .inl a), (4, .inl b), (5, .inl c), (6, .inr (.inr 13)), (7, .inl (H.1 16 (x).toNat))]) (st' := []) rfl ?_
        refine k_run 4 (pc' := 75) (l' := [(0, .inr (.inr 361)), (1, .inl 1), (2, .inl x), (3, .inl a), (4, .inl b), (5, .inl c), (6, .inr (.inr 13)), (7, .inl (H.1 16 (x).toNat))]) (st' := [.inl (H.1 16 (x).toNat), .inl x, .inl 1, .inr (.inr 361)]) rfl ?_
        refine h_cs (i := 153) (j := 48) (M' := mt_48) (xs := [.inl (H.1 16 (x).toNat), .inl x, .inl 1]) (rest := [.inr (.inr 361)]) rfl rfl rfl rfl rfl (Nat.le_of_ble_eq_true rfl) (Nat.le_of_ble_eq_true rfl) (by omega) (k_Term_codeOf (by omega)  (by decide) (by omega) (by omega)) ?_
        rintro _ _ ⟨z43, rfl, g39, rfl⟩
        refine k_run 0 (pc' := 78) (l' := [(0, .inr (.inr 361)), (1, .inl 1), (2, .inl x), (3, .inl a), (4, .inl b), (5, .inl c), (6, .inr (.inr 13)), (7, .inl (H.1 16 (x).toNat))]) (st' := [.inl z43, .inr (.inr 361)]) rfl ?_
        refine h_cv (i := 157) (j := 77) (b := 361) (M' := mt_77) (xs := [.inl z43]) (rest := []) rfl rfl rfl rfl (zs_K (x := kx_361) rfl (by decide)) rfl (Nat.le_of_ble_eq_true rfl) (Nat.le_of_ble_eq_true rfl) (by omega) (f_Reader_addName (by omega) hI (by omega)) ?_
        rintro _ H45 ⟨z48, rfl, g44, hI46, hq47⟩
        have hf49 : fq [(361, 3), (361, 4), (361, 5), (361, 9)] [362] true H H45 := fq_t (fq_rf _ _ _ _) hq47 rfl rfl rfl
        refine k_run 0 (pc' := 81) (l' := [(0, .inr (.inr 361)), (1, .inl 1), (2, .inl x), (3, .inl a), (4, .inl b), (5, .inl c), (6, .inr (.inr 13)), (7, .inl (H.1 16 (x).toNat))]) (st' := [.inl z48]) rfl ?_
        refine k_run 3 (pc' := 86) (l' := [(0, .inr (.inr 361)), (1, .inl 1), (2, .inl x), (3, .inl a), (4, .inl b), (5, .inl c), (6, .inr (.inr 13)), (7, .inl (H.1 16 (x).toNat)), (8, .inl z48), (9, .inl 0)]) (st' := []) rfl ?_
        have g50 : -2147483648 ≤ (H45.1 361 4) ∧ (H45.1 361 4) ≤ 2147483647 := kn (x := kx_361) hI46 rfl 4
        exact (f_readApplied_1_cut hd hI hx ha hb hc hp0 hp1 hR1 _) H45 hI46 hf49 (H.1 16 (x).toNat) z48 (0 : Int) (by omega) (by omega) (by decide) (by omega) (by omega) (by omega) (by omega) (Nat.lt_succ_self _)
      · refine k_run 0 (pc' := 53) (l' := [(0, .inr (.inr 361)), (1, .inl 1), (2, .inl x), (3, .inl a), (4, .inl b), (5, .inl c), (6, .inr (.inr 13)), (7, .inl (H.1 16 (x).toNat))]) (st' := []) rfl ?_
        refine k_run 3 (pc' := 59) (l' := [(0, .inr (.inr 361)), (1, .inl 1), (2, .inl x), (3, .inl a), (4, .inl b), (5, .inl c), (6, .inr (.inr 13)), (7, .inl (H.1 16 (x).toNat))]) (st' := [.inl x, .inr (.inr 15)]) rfl ?_
        refine k_ild (c := 15) (j := (x).toNat) (i := x) (x := kx_15) rfl rfl (by decide) rfl (by decide) (by omega) (by omega) ?_
        have g51 : -2 ≤ (H.1 15 (x).toNat) ∧ (H.1 15 (x).toNat) ≤ 100 := kn (x := kx_15) hI rfl (x).toNat
        refine k_run 0 (pc' := 60) (l' := [(0, .inr (.inr 361)), (1, .inl 1), (2, .inl x), (3, .inl a), (4, .inl b), (5, .inl c), (6, .inr (.inr 13)), (7, .inl (H.1 16 (x).toNat))]) (st' := [.inl (H.1 15 (x).toNat)]) rfl ?_
        refine k_run 1 (pc' := 61) (l' := [(0, .inr (.inr 361)), (1, .inl 1), (2, .inl x), (3, .inl a), (4, .inl b), (5, .inl c), (6, .inr (.inr 13)), (7, .inl (H.1 16 (x).toNat))]) (st' := [.inl a, .inl (H.1 15 (x).toNat)]) rfl ?_
        refine h_ieq (off := 9) (t := 70) rfl rfl (by omega) (by omega) (fun c52 => ?_) (fun c52 => ?_)
        · refine k_run 0 (pc' := 70) (l' := [(0, .inr (.inr 361)), (1, .inl 1), (2, .inl x), (3, .inl a), (4, .inl b), (5, .inl c), (6, .inr (.inr 13)), (7, .inl (H.1 16 (x).toNat))]) (st' := []) rfl ?_
          refine k_run 4 (pc' := 75) (l' := [(0, .inr (.inr 361)), (1, .inl 1), (2, .inl x), (3, .inl a), (4, .inl b), (5, .inl c), (6, .inr (.inr 13)), (7, .inl (H.1 16 (x).toNat))]) (st' := [.inl (H.1 16 (x).toNat), .inl x, .inl 1, .inr (.inr 361)]) rfl ?_
          refine h_cs (i := 153) (j := 48) (M' := mt_48) (xs := [.inl (H.1 16 (x).toNat), .inl x, .inl 1]) (rest := [.inr (.inr 361)]) rfl rfl rfl rfl rfl (Nat.le_of_ble_eq_true rfl) (Nat.le_of_ble_eq_true rfl) (by omega) (k_Term_codeOf (by omega)  (by decide) (by omega) (by omega)) ?_
          rintro _ _ ⟨z57, rfl, g53, rfl⟩
          refine k_run 0 (pc' := 78) (l' := [(0, .inr (.inr 361)), (1, .inl 1), (2, .inl x), (3, .inl a), (4, .inl b), (5, .inl c), (6, .inr (.inr 13)), (7, .inl (H.1 16 (x).toNat))]) (st' := [.inl z57, .inr (.inr 361)]) rfl ?_
          refine h_cv (i := 157) (j := 77) (b := 361) (M' := mt_77) (xs := [.inl z57]) (rest := []) rfl rfl rfl rfl (zs_K (x := kx_361) rfl (by decide)) rfl (Nat.le_of_ble_eq_true rfl) (Nat.le_of_ble_eq_true rfl) (by omega) (f_Reader_addName (by omega) hI (by omega)) ?_
          rintro _ H59 ⟨z62, rfl, g58, hI60, hq61⟩
          have hf63 : fq [(361, 3), (361, 4), (361, 5), (361, 9)] [362] true H H59 := fq_t (fq_rf _ _ _ _) hq61 rfl rfl rfl
          refine k_run 0 (pc' := 81) (l' := [(0, .inr (.inr 361)), (1, .inl 1), (2, .inl x), (3, .inl a), (4, .inl b), (5, .inl c), (6, .inr (.inr 13)), (7, .inl (H.1 16 (x).toNat))]) (st' := [.inl z62]) rfl ?_
          refine k_run 3 (pc' := 86) (l' := [(0, .inr (.inr 361)), (1, .inl 1), (2, .inl x), (3, .inl a), (4, .inl b), (5, .inl c), (6, .inr (.inr 13)), (7, .inl (H.1 16 (x).toNat)), (8, .inl z62), (9, .inl 0)]) (st' := []) rfl ?_
          have g64 : -2147483648 ≤ (H59.1 361 4) ∧ (H59.1 361 4) ≤ 2147483647 := kn (x := kx_361) hI60 rfl 4
          exact (f_readApplied_1_cut hd hI hx ha hb hc hp0 hp1 hR1 _) H59 hI60 hf63 (H.1 16 (x).toNat) z62 (0 : Int) (by omega) (by omega) (by decide) (by omega) (by omega) (by omega) (by omega) (Nat.lt_succ_self _)
        · refine k_run 0 (pc' := 64) (l' := [(0, .inr (.inr 361)), (1, .inl 1), (2, .inl x), (3, .inl a), (4, .inl b), (5, .inl c), (6, .inr (.inr 13)), (7, .inl (H.1 16 (x).toNat))]) (st' := []) rfl ?_
          refine k_run 2 (pc' := 66) (l' := [(0, .inr (.inr 361)), (1, .inl 1), (2, .inl x), (3, .inl a), (4, .inl b), (5, .inl c), (6, .inr (.inr 13)), (7, .inl (H.1 16 (x).toNat))]) (st' := [.inl 4, .inr (.inr 361)]) rfl ?_
          refine h_cv (i := 128) (j := 86) (b := 361) (M' := mt_86) (xs := [.inl 4]) (rest := []) rfl rfl rfl rfl (zs_K (x := kx_361) rfl (by decide)) rfl (Nat.le_of_ble_eq_true rfl) (Nat.le_of_ble_eq_true rfl) (by omega) (f_Reader_fails (by omega) hI (by decide)) ?_
          rintro _ H66 ⟨z69, rfl, g65, hI67, hq68⟩
          have hf70 : fq [(361, 3), (361, 4), (361, 5), (361, 9)] [362] true H H66 := fq_t (fq_rf _ _ _ _) hq68 rfl rfl rfl
          refine k_run 0 (pc' := 69) (l' := [(0, .inr (.inr 361)), (1, .inl 1), (2, .inl x), (3, .inl a), (4, .inl b), (5, .inl c), (6, .inr (.inr 13)), (7, .inl (H.1 16 (x).toNat))]) (st' := [.inl z69]) rfl ?_
          refine h_retz (x := z69) rfl rfl (by omega) ?_
          have g71 : -2147483648 ≤ (H66.1 361 4) ∧ (H66.1 361 4) ≤ 2147483647 := kn (x := kx_361) hI67 rfl 4
          exact ⟨_, rfl, (by omega), hI67, hf70⟩
    · refine k_run 0 (pc' := 43) (l' := [(0, .inr (.inr 361)), (1, .inl 1), (2, .inl x), (3, .inl a), (4, .inl b), (5, .inl c), (6, .inr (.inr 13)), (7, .inl (H.1 16 (x).toNat))]) (st' := []) rfl ?_
      refine k_run 2 (pc' := 45) (l' := [(0, .inr (.inr 361)), (1, .inl 1), (2, .inl x), (3, .inl a), (4, .inl b), (5, .inl c), (6, .inr (.inr 13)), (7, .inl (H.1 16 (x).toNat))]) (st' := [.inl 2, .inr (.inr 361)]) rfl ?_
      refine h_cv (i := 128) (j := 86) (b := 361) (M' := mt_86) (xs := [.inl 2]) (rest := []) rfl rfl rfl rfl (zs_K (x := kx_361) rfl (by decide)) rfl (Nat.le_of_ble_eq_true rfl) (Nat.le_of_ble_eq_true rfl) (by omega) (f_Reader_fails (by omega) hI (by decide)) ?_
      rintro _ H73 ⟨z76, rfl, g72, hI74, hq75⟩
      have hf77 : fq [(361, 3), (361, 4), (361, 5), (361, 9)] [362] true H H73 := fq_t (fq_rf _ _ _ _) hq75 rfl rfl rfl
      refine k_run 0 (pc' := 48) (l' := [(0, .inr (.inr 361)), (1, .inl 1), (2, .inl x), (3, .inl a), (4, .inl b), (5, .inl c), (6, .inr (.inr 13)), (7, .inl (H.1 16 (x).toNat))]) (st' := [.inl z76]) rfl ?_
      refine h_retz (x := z76) rfl rfl (by omega) ?_
      have g78 : -2147483648 ≤ (H73.1 361 4) ∧ (H73.1 361 4) ≤ 2147483647 := kn (x := kx_361) hI74 rfl 4
      exact ⟨_, rfl, (by omega), hI74, hf77⟩

/-! Reader.readTerm -/
set_option maxRecDepth 100000 in
theorem f_readTerm_0 {m : Nat} {d : Nat} (hd : 3 * m + 10 ≤ d) {H : hp} (hI : Inv H) {a : Int} {b : Int} {c : Int} (ha : -2147483648 ≤ a ∧ a ≤ 2147483647) (hb : -2147483648 ≤ b ∧ b ≤ 2147483647) (hc : 0 ≤ c ∧ c ≤ 1) (hp0 : -2 ≤ a ∧ a ≤ 100 ∧ 0 ≤ b ∧ b ≤ 10 ∧ 10 ≤ b + (m : Int)) (hR : ∀ m1, m1 < m → RTc9 m1) (hA1 : RA1c9 m) (hA2 : RA2c9 m) : hG (zs zK) d mt_73 0 (zargs 0 [.inr (.inr 361), .inl a, .inl b, .inl c]) [] H (fun r9 H9 => ∃ z : Int, r9 = some (.inl z) ∧ ((0 ≤ z ∧ z ≤ 1) ∧ ((z = 0 ∨ H9.1 361 4 = H.1 361 4))) ∧ Inv H9 ∧ fq [(361, 3), (361, 4), (361, 5), (361, 9)] [362] true H H9) := by
  refine k_run 0 (pc' := 0) (l' := [(0, .inr (.inr 361)), (1, .inl a), (2, .inl b), (3, .inl c)]) (st' := []) rfl ?_
  refine k_run 1 (pc' := 1) (l' := [(0, .inr (.inr 361)), (1, .inl a), (2, .inl b), (3, .inl c)]) (st' := [.inr (.inr 361)]) rfl ?_
  refine h_cv (i := 72) (j := 83) (b := 361) (M' := mt_83) (xs := []) (rest := []) rfl rfl rfl rfl (zs_K (x := kx_361) rfl (by decide)) rfl (Nat.le_of_ble_eq_true rfl) (Nat.le_of_ble_eq_true rfl) (by omega) (f_Reader_token (by omega) hI ) ?_
  rintro _ _ ⟨z5, rfl, g1, rfl⟩
  refine k_run 0 (pc' := 4) (l' := [(0, .inr (.inr 361)), (1, .inl a), (2, .inl b), (3, .inl c)]) (st' := [.inl z5]) rfl ?_
  rcases (show (z5 ≠ 2 ∧ z5 ≠ 3 ∧ z5 ≠ 40 ∧ z5 ≠ 95) ∨ z5 = 2 ∨ z5 = 3 ∨ z5 = 40 ∨ z5 = 95 by omega) with c6 | c6 | c6 | c6 | c6
  · refine k_lsw (t := 193) rfl (by omega) (by decide) (lsw_no (by intro q9 hq9; simp only [List.mem_cons, List.not_mem_nil, or_false] at hq9; rcases hq9 with rfl | rfl | rfl | rfl <;> (dsimp only; omega))) rfl ?_
    refine k_run 1 (pc' := 194) (l' := [(0, .inr (.inr 361)), (1, .inl a), (2, .inl b), (3, .inl c)]) (st' := [.inr (.inr 361)]) rfl ?_
    refine h_cv (i := 89) (j := 85) (b := 361) (M' := mt_85) (xs := []) (rest := []) rfl rfl rfl rfl (zs_K (x := kx_361) rfl (by decide)) rfl (Nat.le_of_ble_eq_true rfl) (Nat.le_of_ble_eq_true rfl) (by omega) (f_Reader_misplaced (by omega) hI ) ?_
    rintro _ H8 ⟨z11, rfl, g7, hI9, hq10⟩
    have hf12 : fq [(361, 3), (361, 4), (361, 5), (361, 9)] [362] true H H8 := fq_t (fq_rf _ _ _ _) hq10 rfl rfl rfl
    refine k_run 0 (pc' := 197) (l' := [(0, .inr (.inr 361)), (1, .inl a), (2, .inl b), (3, .inl c)]) (st' := [.inl z11]) rfl ?_
    refine h_retz (x := z11) rfl rfl (by omega) ?_
    have g13 : -2147483648 ≤ (H8.1 361 4) ∧ (H8.1 361 4) ≤ 2147483647 := kn (x := kx_361) hI9 rfl 4
    exact ⟨_, rfl, (by omega), hI9, hf12⟩
  · refine k_lsw (t := 48) rfl (by omega) (by decide) (by rw [c6]) rfl ?_
    refine k_run 4 (pc' := 56) (l' := [(0, .inr (.inr 361)), (1, .inl a), (2, .inl b), (3, .inl c)]) (st' := [.inr (.inr 361), .inr (.inr 18)]) rfl ?_
    refine h_cv (i := 120) (j := 84) (b := 361) (M' := mt_84) (xs := []) (rest := [.inr (.inr 18)]) rfl rfl rfl rfl (zs_K (x := kx_361) rfl (by decide)) rfl (Nat.le_of_ble_eq_true rfl) (Nat.le_of_ble_eq_true rfl) (by omega) (f_Reader_name (by omega) hI ) ?_
    rintro _ _ ⟨z18, rfl, g14, rfl⟩
    refine k_run 0 (pc' := 59) (l' := [(0, .inr (.inr 361)), (1, .inl a), (2, .inl b), (3, .inl c)]) (st' := [.inr (.inl z18), .inr (.inr 18)]) rfl ?_
    have g19 : 0 ≤ (H.1 18 4) ∧ (H.1 18 4) ≤ 16 := kn (x := kx_18) hI rfl 4
    refine h_cv (i := 124) (j := 41) (b := 18) (M' := mt_41) (xs := [.inr (.inl z18)]) (rest := []) rfl rfl rfl rfl (zs_K (x := kx_18) rfl (by decide)) rfl (Nat.le_of_ble_eq_true rfl) (Nat.le_of_ble_eq_true rfl) (by omega) (k_Symbols_find_18 (by omega) hI ) ?_
    rintro _ _ ⟨z24, rfl, g20, rfl⟩
    refine k_run 0 (pc' := 62) (l' := [(0, .inr (.inr 361)), (1, .inl a), (2, .inl b), (3, .inl c)]) (st' := [.inl z24]) rfl ?_
    refine k_run 2 (pc' := 66) (l' := [(0, .inr (.inr 361)), (1, .inl a), (2, .inl b), (3, .inl c), (4, .inl z24)]) (st' := [.inl z24]) rfl ?_
    refine h_zge (off := 9) (t := 75) rfl rfl (by omega) (fun c25 => ?_) (fun c25 => ?_)
    · refine k_run 0 (pc' := 75) (l' := [(0, .inr (.inr 361)), (1, .inl a), (2, .inl b), (3, .inl c), (4, .inl z24)]) (st' := []) rfl ?_
      refine k_run 6 (pc' := 82) (l' := [(0, .inr (.inr 361)), (1, .inl a), (2, .inl b), (3, .inl c), (4, .inl z24)]) (st' := [.inl c, .inl b, .inl a, .inl z24, .inl 2, .inr (.inr 361)]) rfl ?_
      refine h_cv (i := 215) (j := 74) (b := 361) (M' := mt_74) (xs := [.inl c, .inl b, .inl a, .inl z24, .inl 2]) (rest := []) rfl rfl rfl rfl (zs_K (x := kx_361) rfl (by decide)) rfl (Nat.le_of_ble_eq_true rfl) (Nat.le_of_ble_eq_true rfl) (by omega) (hA2 (by omega) hI (by omega) (by omega) (by omega) (by omega) (by omega) (by omega)) ?_
      rintro _ H27 ⟨z30, rfl, g26, hI28, hq29⟩
      have hf31 : fq [(361, 3), (361, 4), (361, 5), (361, 9)] [362] true H H27 := fq_t (fq_rf _ _ _ _) hq29 rfl rfl rfl
      refine k_run 0 (pc' := 85) (l' := [(0, .inr (.inr 361)), (1, .inl a), (2, .inl b), (3, .inl c), (4, .inl z24)]) (st' := [.inl z30]) rfl ?_
      refine h_retz (x := z30) rfl rfl (by omega) ?_
      have g32 : -2147483648 ≤ (H27.1 361 4) ∧ (H27.1 361 4) ≤ 2147483647 := kn (x := kx_361) hI28 rfl 4
      exact ⟨_, rfl, (by omega), hI28, hf31⟩
    · refine k_run 0 (pc' := 69) (l' := [(0, .inr (.inr 361)), (1, .inl a), (2, .inl b), (3, .inl c), (4, .inl z24)]) (st' := []) rfl ?_
      refine k_run 2 (pc' := 71) (l' := [(0, .inr (.inr 361)), (1, .inl a), (2, .inl b), (3, .inl c), (4, .inl z24)]) (st' := [.inl a, .inr (.inr 361)]) rfl ?_
      refine h_cv (i := 212) (j := 75) (b := 361) (M' := mt_75) (xs := [.inl a]) (rest := []) rfl rfl rfl rfl (zs_K (x := kx_361) rfl (by decide)) rfl (Nat.le_of_ble_eq_true rfl) (Nat.le_of_ble_eq_true rfl) (by omega) (f_Reader_readVariable (by omega) hI (by omega) (by omega)) ?_
      rintro _ H34 ⟨z37, rfl, g33, hI35, hq36⟩
      have hf38 : fq [(361, 3), (361, 4), (361, 5), (361, 9)] [362] true H H34 := fq_t (fq_rf _ _ _ _) hq36 rfl rfl rfl
      refine k_run 0 (pc' := 74) (l' := [(0, .inr (.inr 361)), (1, .inl a), (2, .inl b), (3, .inl c), (4, .inl z24)]) (st' := [.inl z37]) rfl ?_
      refine h_retz (x := z37) rfl rfl (by omega) ?_
      have g39 : -2147483648 ≤ (H34.1 361 4) ∧ (H34.1 361 4) ≤ 2147483647 := kn (x := kx_361) hI35 rfl 4
      exact ⟨_, rfl, (by omega), hI35, hf38⟩
  · refine k_lsw (t := 86) rfl (by omega) (by decide) (by rw [c6]) rfl ?_
    refine k_run 4 (pc' := 94) (l' := [(0, .inr (.inr 361)), (1, .inl a), (2, .inl b), (3, .inl c)]) (st' := [.inr (.inr 361), .inr (.inr 13)]) rfl ?_
    refine h_cv (i := 120) (j := 84) (b := 361) (M' := mt_84) (xs := []) (rest := [.inr (.inr 13)]) rfl rfl rfl rfl (zs_K (x := kx_361) rfl (by decide)) rfl (Nat.le_of_ble_eq_true rfl) (Nat.le_of_ble_eq_true rfl) (by omega) (f_Reader_name (by omega) hI ) ?_
    rintro _ _ ⟨z44, rfl, g40, rfl⟩
    refine k_run 0 (pc' := 97) (l' := [(0, .inr (.inr 361)), (1, .inl a), (2, .inl b), (3, .inl c)]) (st' := [.inr (.inl z44), .inr (.inr 13)]) rfl ?_
    have g45 : 0 ≤ (H.1 13 4) ∧ (H.1 13 4) ≤ 16 := kn (x := kx_13) hI rfl 4
    refine h_cv (i := 124) (j := 41) (b := 13) (M' := mt_41) (xs := [.inr (.inl z44)]) (rest := []) rfl rfl rfl rfl (zs_K (x := kx_13) rfl (by decide)) rfl (Nat.le_of_ble_eq_true rfl) (Nat.le_of_ble_eq_true rfl) (by omega) (k_Symbols_find_13 (by omega) hI ) ?_
    rintro _ _ ⟨z50, rfl, g46, rfl⟩
    refine k_run 0 (pc' := 100) (l' := [(0, .inr (.inr 361)), (1, .inl a), (2, .inl b), (3, .inl c)]) (st' := [.inl z50]) rfl ?_
    refine k_run 2 (pc' := 104) (l' := [(0, .inr (.inr 361)), (1, .inl a), (2, .inl b), (3, .inl c), (5, .inl z50)]) (st' := [.inl z50]) rfl ?_
    refine h_zge (off := 9) (t := 113) rfl rfl (by omega) (fun c51 => ?_) (fun c51 => ?_)
    · refine k_run 0 (pc' := 113) (l' := [(0, .inr (.inr 361)), (1, .inl a), (2, .inl b), (3, .inl c), (5, .inl z50)]) (st' := []) rfl ?_
      refine k_run 6 (pc' := 120) (l' := [(0, .inr (.inr 361)), (1, .inl a), (2, .inl b), (3, .inl c), (5, .inl z50)]) (st' := [.inl c, .inl b, .inl a, .inl z50, .inl 1, .inr (.inr 361)]) rfl ?_
      refine h_cv (i := 215) (j := 74) (b := 361) (M' := mt_74) (xs := [.inl c, .inl b, .inl a, .inl z50, .inl 1]) (rest := []) rfl rfl rfl rfl (zs_K (x := kx_361) rfl (by decide)) rfl (Nat.le_of_ble_eq_true rfl) (Nat.le_of_ble_eq_true rfl) (by omega) (hA1 (by omega) hI (by omega) (by omega) (by omega) (by omega) (by omega) (by omega)) ?_
      rintro _ H53 ⟨z56, rfl, g52, hI54, hq55⟩
      have hf57 : fq [(361, 3), (361, 4), (361, 5), (361, 9)] [362] true H H53 := fq_t (fq_rf _ _ _ _) hq55 rfl rfl rfl
      refine k_run 0 (pc' := 123) (l' := [(0, .inr (.inr 361)), (1, .inl a), (2, .inl b), (3, .inl c), (5, .inl z50)]) (st' := [.inl z56]) rfl ?_
      refine h_retz (x := z56) rfl rfl (by omega) ?_
      have g58 : -2147483648 ≤ (H53.1 361 4) ∧ (H53.1 361 4) ≤ 2147483647 := kn (x := kx_361) hI54 rfl 4
      exact ⟨_, rfl, (by omega), hI54, hf57⟩
    · refine k_run 0 (pc' := 107) (l' := [(0, .inr (.inr 361)), (1, .inl a), (2, .inl b), (3, .inl c), (5, .inl z50)]) (st' := []) rfl ?_
      refine k_run 2 (pc' := 109) (l' := [(0, .inr (.inr 361)), (1, .inl a), (2, .inl b), (3, .inl c), (5, .inl z50)]) (st' := [.inl 3, .inr (.inr 361)]) rfl ?_
      refine h_cv (i := 128) (j := 86) (b := 361) (M' := mt_86) (xs := [.inl 3]) (rest := []) rfl rfl rfl rfl (zs_K (x := kx_361) rfl (by decide)) rfl (Nat.le_of_ble_eq_true rfl) (Nat.le_of_ble_eq_true rfl) (by omega) (f_Reader_fails (by omega) hI (by decide)) ?_
      rintro _ H60 ⟨z63, rfl, g59, hI61, hq62⟩
      have hf64 : fq [(361, 3), (361, 4), (361, 5), (361, 9)] [362] true H H60 := fq_t (fq_rf _ _ _ _) hq62 rfl rfl rfl
      refine k_run 0 (pc' := 112) (l' := [(0, .inr (.inr 361)), (1, .inl a), (2, .inl b), (3, .inl c), (5, .inl z50)]) (st' := [.inl z63]) rfl ?_
      refine h_retz (x := z63) rfl rfl (by omega) ?_
      have g65 : -2147483648 ≤ (H60.1 361 4) ∧ (H60.1 361 4) ≤ 2147483647 := kn (x := kx_361) hI61 rfl 4
      exact ⟨_, rfl, (by omega), hI61, hf64⟩
  · refine k_lsw (t := 144) rfl (by omega) (by decide) (by rw [c6]) rfl ?_
    refine k_run 2 (pc' := 147) (l' := [(0, .inr (.inr 361)), (1, .inl a), (2, .inl b), (3, .inl c)]) (st' := [.inl 10, .inl b]) rfl ?_
    refine h_ilt (off := 9) (t := 156) rfl rfl (by omega) (by decide) (fun c66 => ?_) (fun c66 => ?_)
    · refine k_run 0 (pc' := 156) (l' := [(0, .inr (.inr 361)), (1, .inl a), (2, .inl b), (3, .inl c)]) (st' := []) rfl ?_
      refine k_run 3 (pc' := 161) (l' := [(0, .inr (.inr 361)), (1, .inl a), (2, .inl b), (3, .inl c)]) (st' := [.inl (H.1 361 3), .inr (.inr 361)]) rfl ?_
      have g67 : -2147483648 ≤ (H.1 361 3) ∧ (H.1 361 3) ≤ 2147483647 := kn (x := kx_361) hI rfl 3
      refine k_run 2 (pc' := 163) (l' := [(0, .inr (.inr 361)), (1, .inl a), (2, .inl b), (3, .inl c)]) (st' := [.inl ((H.1 361 3) + 1), .inr (.inr 361)]) rfl ?_
      refine k_putw (a := 361) (x := kx_361) rfl rfl rfl (by decide) (by decide) rfl rfl rfl rfl hI rfl (fun H68 hI69 hw70 => ?_)
      have hf72 : fq [(361, 3), (361, 4), (361, 5), (361, 9)] [362] true H H68 := fq_w (fq_rf _ _ _ _) hw70 (fpo (by decide) rfl)
      refine k_run 0 (pc' := 166) (l' := [(0, .inr (.inr 361)), (1, .inl a), (2, .inl b), (3, .inl c)]) (st' := []) rfl ?_
      refine k_run 6 (pc' := 172) (l' := [(0, .inr (.inr 361)), (1, .inl a), (2, .inl b), (3, .inl c)]) (st' := [.inl 0, .inl (b + 1), .inl a, .inr (.inr 361)]) rfl ?_
      refine h_cv (i := 109) (j := 73) (b := 361) (M' := mt_73) (xs := [.inl 0, .inl (b + 1), .inl a]) (rest := []) rfl rfl rfl rfl (zs_K (x := kx_361) rfl (by decide)) rfl (Nat.le_of_ble_eq_true rfl) (Nat.le_of_ble_eq_true rfl) (by omega) (hR (m - 1) (by omega) (by omega) hI69 (by omega) (by omega) (by decide) (by omega)) ?_
      rintro _ H74 ⟨z77, rfl, g73, hI75, hq76⟩
      have hf78 : fq [(361, 3), (361, 4), (361, 5), (361, 9)] [362] true H H74 := fq_t hf72 hq76 rfl rfl rfl
      refine k_run 0 (pc' := 175) (l' := [(0, .inr (.inr 361)), (1, .inl a), (2, .inl b), (3, .inl c)]) (st' := [.inl z77]) rfl ?_
      refine h_zeq (off := 16) (t := 191) rfl rfl (by omega) (fun c79 => ?_) (fun c79 => ?_)
      · refine k_run 0 (pc' := 191) (l' := [(0, .inr (.inr 361)), (1, .inl a), (2, .inl b), (3, .inl c)]) (st' := []) rfl ?_
        refine k_run 1 (pc' := 192) (l' := [(0, .inr (.inr 361)), (1, .inl a), (2, .inl b), (3, .inl c)]) (st' := [.inl 0]) rfl ?_
        refine h_retz (x := 0) rfl rfl (by decide) ?_
        have g80 : -2147483648 ≤ (H74.1 361 4) ∧ (H74.1 361 4) ≤ 2147483647 := kn (x := kx_361) hI75 rfl 4
        exact ⟨_, rfl, (by omega), hI75, hf78⟩
      · refine k_run 0 (pc' := 178) (l' := [(0, .inr (.inr 361)), (1, .inl a), (2, .inl b), (3, .inl c)]) (st' := []) rfl ?_
        refine k_run 2 (pc' := 181) (l' := [(0, .inr (.inr 361)), (1, .inl a), (2, .inl b), (3, .inl c)]) (st' := [.inl 41, .inr (.inr 361)]) rfl ?_
        refine h_cv (i := 92) (j := 82) (b := 361) (M' := mt_82) (xs := [.inl 41]) (rest := []) rfl rfl rfl rfl (zs_K (x := kx_361) rfl (by decide)) rfl (Nat.le_of_ble_eq_true rfl) (Nat.le_of_ble_eq_true rfl) (by omega) (f_Reader_take (by omega) hI75 (by decide)) ?_
        rintro _ H82 ⟨z85, rfl, g81, hI83, hq84⟩
        have hf86 : fq [(361, 3), (361, 4), (361, 5), (361, 9)] [362] true H H82 := fq_t hf78 hq84 rfl rfl rfl
        refine k_run 0 (pc' := 184) (l' := [(0, .inr (.inr 361)), (1, .inl a), (2, .inl b), (3, .inl c)]) (st' := [.inl z85]) rfl ?_
        refine h_zeq (off := 7) (t := 191) rfl rfl (by omega) (fun c87 => ?_) (fun c87 => ?_)
        · refine k_run 0 (pc' := 191) (l' := [(0, .inr (.inr 361)), (1, .inl a), (2, .inl b), (3, .inl c)]) (st' := []) rfl ?_
          refine k_run 1 (pc' := 192) (l' := [(0, .inr (.inr 361)), (1, .inl a), (2, .inl b), (3, .inl c)]) (st' := [.inl 0]) rfl ?_
          refine h_retz (x := 0) rfl rfl (by decide) ?_
          have g88 : -2147483648 ≤ (H82.1 361 4) ∧ (H82.1 361 4) ≤ 2147483647 := kn (x := kx_361) hI83 rfl 4
          exact ⟨_, rfl, (by omega), hI83, hf86⟩
        · refine k_run 0 (pc' := 187) (l' := [(0, .inr (.inr 361)), (1, .inl a), (2, .inl b), (3, .inl c)]) (st' := []) rfl ?_
          refine k_run 2 (pc' := 192) (l' := [(0, .inr (.inr 361)), (1, .inl a), (2, .inl b), (3, .inl c)]) (st' := [.inl 1]) rfl ?_
          refine h_retz (x := 1) rfl rfl (by decide) ?_
          have g89 : -2147483648 ≤ (H82.1 361 4) ∧ (H82.1 361 4) ≤ 2147483647 := kn (x := kx_361) hI83 rfl 4
          exact ⟨_, rfl, (by omega), hI83, hf86⟩
    · refine k_run 0 (pc' := 150) (l' := [(0, .inr (.inr 361)), (1, .inl a), (2, .inl b), (3, .inl c)]) (st' := []) rfl ?_
      refine k_run 2 (pc' := 152) (l' := [(0, .inr (.inr 361)), (1, .inl a), (2, .inl b), (3, .inl c)]) (st' := [.inl 5, .inr (.inr 361)]) rfl ?_
      refine h_cv (i := 128) (j := 86) (b := 361) (M' := mt_86) (xs := [.inl 5]) (rest := []) rfl rfl rfl rfl (zs_K (x := kx_361) rfl (by decide)) rfl (Nat.le_of_ble_eq_true rfl) (Nat.le_of_ble_eq_true rfl) (by omega) (f_Reader_fails (by omega) hI (by decide)) ?_
      rintro _ H91 ⟨z94, rfl, g90, hI92, hq93⟩
      have hf95 : fq [(361, 3), (361, 4), (361, 5), (361, 9)] [362] true H H91 := fq_t (fq_rf _ _ _ _) hq93 rfl rfl rfl
      refine k_run 0 (pc' := 155) (l' := [(0, .inr (.inr 361)), (1, .inl a), (2, .inl b), (3, .inl c)]) (st' := [.inl z94]) rfl ?_
      refine h_retz (x := z94) rfl rfl (by omega) ?_
      have g96 : -2147483648 ≤ (H91.1 361 4) ∧ (H91.1 361 4) ≤ 2147483647 := kn (x := kx_361) hI92 rfl 4
      exact ⟨_, rfl, (by omega), hI92, hf95⟩
  · refine k_lsw (t := 124) rfl (by omega) (by decide) (by rw [c6]) rfl ?_
    refine k_run 2 (pc' := 127) (l' := [(0, .inr (.inr 361)), (1, .inl a), (2, .inl b), (3, .inl c)]) (st' := [.inl (-2), .inl a]) rfl ?_
    refine h_ine (off := 11) (t := 138) rfl rfl (by omega) (by decide) (fun c97 => ?_) (fun c97 => ?_)
    · refine k_run 0 (pc' := 138) (l' := [(0, .inr (.inr 361)), (1, .inl a), (2, .inl b), (3, .inl c)]) (st' := []) rfl ?_
      refine k_run 2 (pc' := 140) (l' := [(0, .inr (.inr 361)), (1, .inl a), (2, .inl b), (3, .inl c)]) (st' := [.inl 0, .inr (.inr 361)]) rfl ?_
      refine h_cv (i := 157) (j := 77) (b := 361) (M' := mt_77) (xs := [.inl 0]) (rest := []) rfl rfl rfl rfl (zs_K (x := kx_361) rfl (by decide)) rfl (Nat.le_of_ble_eq_true rfl) (Nat.le_of_ble_eq_true rfl) (by omega) (f_Reader_addName (by omega) hI (by decide)) ?_
      rintro _ H99 ⟨z102, rfl, g98, hI100, hq101⟩
      have hf103 : fq [(361, 3), (361, 4), (361, 5), (361, 9)] [362] true H H99 := fq_t (fq_rf _ _ _ _) hq101 rfl rfl rfl
      refine k_run 0 (pc' := 143) (l' := [(0, .inr (.inr 361)), (1, .inl a), (2, .inl b), (3, .inl c)]) (st' := [.inl z102]) rfl ?_
      refine h_retz (x := z102) rfl rfl (by omega) ?_
      have g104 : -2147483648 ≤ (H99.1 361 4) ∧ (H99.1 361 4) ≤ 2147483647 := kn (x := kx_361) hI100 rfl 4
      exact ⟨_, rfl, (by omega), hI100, hf103⟩
    · refine k_run 0 (pc' := 130) (l' := [(0, .inr (.inr 361)), (1, .inl a), (2, .inl b), (3, .inl c)]) (st' := []) rfl ?_
      refine k_run 2 (pc' := 132) (l' := [(0, .inr (.inr 361)), (1, .inl a), (2, .inl b), (3, .inl c)]) (st' := [.inl 2, .inr (.inr 361)]) rfl ?_
      refine h_cv (i := 128) (j := 86) (b := 361) (M' := mt_86) (xs := [.inl 2]) (rest := []) rfl rfl rfl rfl (zs_K (x := kx_361) rfl (by decide)) rfl (Nat.le_of_ble_eq_true rfl) (Nat.le_of_ble_eq_true rfl) (by omega) (f_Reader_fails (by omega) hI (by decide)) ?_
      rintro _ H106 ⟨z109, rfl, g105, hI107, hq108⟩
      have hf110 : fq [(361, 3), (361, 4), (361, 5), (361, 9)] [362] true H H106 := fq_t (fq_rf _ _ _ _) hq108 rfl rfl rfl
      refine k_run 0 (pc' := 135) (l' := [(0, .inr (.inr 361)), (1, .inl a), (2, .inl b), (3, .inl c)]) (st' := [.inl z109]) rfl ?_
      refine k_run 1 (pc' := 143) (l' := [(0, .inr (.inr 361)), (1, .inl a), (2, .inl b), (3, .inl c)]) (st' := [.inl z109]) rfl ?_
      refine h_retz (x := z109) rfl rfl (by omega) ?_
      have g111 : -2147483648 ≤ (H106.1 361 4) ∧ (H106.1 361 4) ≤ 2147483647 := kn (x := kx_361) hI107 rfl 4
      exact ⟨_, rfl, (by omega), hI107, hf110⟩

theorem f_RT : ∀ m, RTc9 m := by
  intro m
  induction m using Nat.strongRecOn with
  | ind m hR =>
    have h1 : RT1c9 m := fun hd _ hI _ _ ha hb hp => f_readTerm_1 hd hI ha hb hp hR
    have h2 : RA1c9 m := fun hd _ hI _ _ _ _ hx ha hb hc hp hq => f_readApplied_1 hd hI hx ha hb hc hp hq h1
    have h3 : RA2c9 m := fun hd _ hI _ _ _ _ hx ha hb hc hp hq => f_readApplied_2 hd hI hx ha hb hc hp hq h1
    have h4 : RTc9 m := fun hd _ hI _ _ _ ha hb hc hp => f_readTerm_0 hd hI ha hb hc hp hR h2 h3
    exact @h4
theorem f_Reader_readTerm {d : Nat} (hd : 40 ≤ d) {H : hp} (hI : Inv H) {a b c : Int} (ha : -2147483648 ≤ a ∧ a ≤ 2147483647) (hb : -2147483648 ≤ b ∧ b ≤ 2147483647) (hc : 0 ≤ c ∧ c ≤ 1) (hp0 : -2 ≤ a ∧ a ≤ 100 ∧ 0 ≤ b ∧ b ≤ 10) : hG (zs zK) d mt_73 0 (zargs 0 [.inr (.inr 361), .inl a, .inl b, .inl c]) [] H (fun r9 H9 => ∃ z : Int, r9 = some (.inl z) ∧ ((0 ≤ z ∧ z ≤ 1) ∧ (z = 0 ∨ H9.1 361 4 = H.1 361 4)) ∧ Inv H9 ∧ fq [(361, 3), (361, 4), (361, 5), (361, 9)] [362] true H H9) := f_RT 10 (by omega) hI ha hb hc (by omega)

def RPc9 (m : Nat) : Prop := ∀ {d : Nat} (_ : 2 * m + 10 ≤ d) {H : hp} (_ : Inv H) {a b : Int} (_ : -2147483648 ≤ a ∧ a ≤ 2147483647) (_ : -2147483648 ≤ b ∧ b ≤ 2147483647) (_ : -2 ≤ a ∧ a ≤ 100 ∧ 0 ≤ b ∧ b ≤ 10 ∧ 10 ≤ b + (m : Int)), hG (zs zK) d mt_70 0 (zargs 0 [.inr (.inr 361), .inl a, .inl b]) [] H (fun r9 H9 => ∃ z : Int, r9 = some (.inl z) ∧ ((0 ≤ z ∧ z ≤ 1) ∧ (z = 0 ∨ H9.1 361 4 = H.1 361 4)) ∧ Inv H9 ∧ fq [(361, 3), (361, 4), (361, 5), (361, 9)] [362] true H H9)

/-! Reader.readPatternConstructor -/
set_option maxRecDepth 100000 in
theorem f_readPC_0_cut {d : Nat} (hd : 3 ≤ d) {H : hp} (hI : Inv H) {a : Int} {b : Int} (ha : -2147483648 ≤ a ∧ a ≤ 2147483647) (hb : -2147483648 ≤ b ∧ b ≤ 2147483647) (hp0 : -2 ≤ a ∧ a ≤ 100 ∧ 0 ≤ b ∧ b ≤ 10) : ∀ w : Nat, (∀ (H1 : hp), Inv H1 → fq [(361, 3), (361, 4), (361, 5), (361, 9)] [362] true H H1 → ∀ (x4 : Int) (x5 : Int) (x6 : Int) (x7 : Int) , (-2147483648 ≤ x4 ∧ x4 ≤ 2147483647) → (-2147483648 ≤ x5 ∧ x5 ≤ 2147483647) → (-2147483648 ≤ x6 ∧ x6 ≤ 2147483647) → (-2147483648 ≤ x7 ∧ x7 ≤ 2147483647) → (0 ≤ x7) → (x5 ≤ 0) → (0 ≤ x6 ∧ x6 ≤ 1) → ((x6 = 0 ∨ H1.1 361 4 = H.1 361 4)) → (((100 - x7).toNat) < w) → hG (zs zK) d mt_72 98 [(0, .inr (.inr 361)), (1, .inl a), (2, .inl b), (3, .inl 0), (4, .inl x4), (5, .inl x5), (6, .inl x6), (7, .inl x7)] [] H1 (fun r9 H9 => ∃ z : Int, r9 = some (.inl z) ∧ ((0 ≤ z ∧ z ≤ 1) ∧ ((z = 0 ∨ H9.1 361 4 = H.1 361 4))) ∧ Inv H9 ∧ fq [(361, 3), (361, 4), (361, 5), (361, 9)] [362] true H H9)) := by
  intro w
  induction w with
  | zero => exact fun _ _ _ _ _ _ _ _ _ _ _ _ _ _ _ h => absurd h (Nat.not_lt_zero _)
  | succ w ih =>
    intro H1 hI1 hf1 x4 x5 x6 x7 hx4 hx5 hx6 hx7 hi0 hi1 hi2 hi3 hw
    have g50 : -2147483648 ≤ (H1.1 361 4) ∧ (H1.1 361 4) ≤ 2147483647 := kn (x := kx_361) hI1 rfl 4
    refine k_run 1 (pc' := 100) (l' := [(0, .inr (.inr 361)), (1, .inl a), (2, .inl b), (3, .inl 0), (4, .inl x4), (5, .inl x5), (6, .inl x6), (7, .inl x7)]) (st' := [.inl x6]) rfl ?_
    refine h_zeq (off := 37) (t := 137) rfl rfl (by omega) (fun c51 => ?_) (fun c51 => ?_)
    · refine k_run 0 (pc' := 137) (l' := [(0, .inr (.inr 361)), (1, .inl a), (2, .inl b), (3, .inl 0), (4, .inl x4), (5, .inl x5), (6, .inl x6), (7, .inl x7)]) (st' := []) rfl ?_
      refine k_run 1 (pc' := 139) (l' := [(0, .inr (.inr 361)), (1, .inl a), (2, .inl b), (3, .inl 0), (4, .inl x4), (5, .inl x5), (6, .inl x6), (7, .inl x7)]) (st' := [.inl x6]) rfl ?_
      refine h_retz (x := x6) rfl rfl (by omega) ?_
      exact ⟨_, rfl, (by omega), hI1, hf1⟩
    · refine k_run 0 (pc' := 103) (l' := [(0, .inr (.inr 361)), (1, .inl a), (2, .inl b), (3, .inl 0), (4, .inl x4), (5, .inl x5), (6, .inl x6), (7, .inl x7)]) (st' := []) rfl ?_
      refine k_run 2 (pc' := 107) (l' := [(0, .inr (.inr 361)), (1, .inl a), (2, .inl b), (3, .inl 0), (4, .inl x4), (5, .inl x5), (6, .inl x6), (7, .inl x7)]) (st' := [.inl x5, .inl x7]) rfl ?_
      refine h_ige (off := 30) (t := 137) rfl rfl (by omega) (by omega) (fun c52 => ?_) (fun c52 => ?_)
      · refine k_run 0 (pc' := 137) (l' := [(0, .inr (.inr 361)), (1, .inl a), (2, .inl b), (3, .inl 0), (4, .inl x4), (5, .inl x5), (6, .inl x6), (7, .inl x7)]) (st' := []) rfl ?_
        refine k_run 1 (pc' := 139) (l' := [(0, .inr (.inr 361)), (1, .inl a), (2, .inl b), (3, .inl 0), (4, .inl x4), (5, .inl x5), (6, .inl x6), (7, .inl x7)]) (st' := [.inl x6]) rfl ?_
        refine h_retz (x := x6) rfl rfl (by omega) ?_
        exact ⟨_, rfl, (by omega), hI1, hf1⟩
      · refine k_run 0 (pc' := 110) (l' := [(0, .inr (.inr 361)), (1, .inl a), (2, .inl b), (3, .inl 0), (4, .inl x4), (5, .inl x5), (6, .inl x6), (7, .inl x7)]) (st' := []) rfl ?_
        exfalso
        omega
set_option maxRecDepth 100000 in
theorem f_readPC_0 {d : Nat} (hd : 3 ≤ d) {H : hp} (hI : Inv H) {a : Int} {b : Int} (ha : -2147483648 ≤ a ∧ a ≤ 2147483647) (hb : -2147483648 ≤ b ∧ b ≤ 2147483647) (hp0 : -2 ≤ a ∧ a ≤ 100 ∧ 0 ≤ b ∧ b ≤ 10) : hG (zs zK) d mt_72 0 (zargs 0 [.inr (.inr 361), .inl a, .inl b, .inl 0]) [] H (fun r9 H9 => ∃ z : Int, r9 = some (.inl z) ∧ ((0 ≤ z ∧ z ≤ 1) ∧ ((z = 0 ∨ H9.1 361 4 = H.1 361 4))) ∧ Inv H9 ∧ fq [(361, 3), (361, 4), (361, 5), (361, 9)] [362] true H H9) := by
  refine k_run 0 (pc' := 0) (l' := [(0, .inr (.inr 361)), (1, .inl a), (2, .inl b), (3, .inl 0)]) (st' := []) rfl ?_
  refine k_run 4 (pc' := 8) (l' := [(0, .inr (.inr 361)), (1, .inl a), (2, .inl b), (3, .inl 0)]) (st' := [.inr (.inr 361), .inr (.inr 13)]) rfl ?_
  refine h_cv (i := 120) (j := 84) (b := 361) (M' := mt_84) (xs := []) (rest := [.inr (.inr 13)]) rfl rfl rfl rfl (zs_K (x := kx_361) rfl (by decide)) rfl (Nat.le_of_ble_eq_true rfl) (Nat.le_of_ble_eq_true rfl) (by omega) (f_Reader_name (by omega) hI ) ?_
  rintro _ _ ⟨z5, rfl, g1, rfl⟩
  refine k_run 0 (pc' := 11) (l' := [(0, .inr (.inr 361)), (1, .inl a), (2, .inl b), (3, .inl 0)]) (st' := [.inr (.inl z5), .inr (.inr 13)]) rfl ?_
  have g6 : 0 ≤ (H.1 13 4) ∧ (H.1 13 4) ≤ 16 := kn (x := kx_13) hI rfl 4
  refine h_cv (i := 124) (j := 41) (b := 13) (M' := mt_41) (xs := [.inr (.inl z5)]) (rest := []) rfl rfl rfl rfl (zs_K (x := kx_13) rfl (by decide)) rfl (Nat.le_of_ble_eq_true rfl) (Nat.le_of_ble_eq_true rfl) (by omega) (k_Symbols_find_13 (by omega) hI ) ?_
  rintro _ _ ⟨z11, rfl, g7, rfl⟩
  refine k_run 0 (pc' := 14) (l' := [(0, .inr (.inr 361)), (1, .inl a), (2, .inl b), (3, .inl 0)]) (st' := [.inl z11]) rfl ?_
  refine k_run 2 (pc' := 18) (l' := [(0, .inr (.inr 361)), (1, .inl a), (2, .inl b), (3, .inl 0), (4, .inl z11)]) (st' := [.inl z11]) rfl ?_
  refine h_zge (off := 9) (t := 27) rfl rfl (by omega) (fun c12 => ?_) (fun c12 => ?_)
  · refine k_run 0 (pc' := 27) (l' := [(0, .inr (.inr 361)), (1, .inl a), (2, .inl b), (3, .inl 0), (4, .inl z11)]) (st' := []) rfl ?_
    refine k_run 5 (pc' := 39) (l' := [(0, .inr (.inr 361)), (1, .inl a), (2, .inl b), (3, .inl 0), (4, .inl z11)]) (st' := [.inl z11, .inr (.inr 16)]) rfl ?_
    refine k_ild (c := 16) (j := (z11).toNat) (i := z11) (x := kx_16) rfl rfl (by decide) rfl (by decide) (by omega) (by omega) ?_
    have g13 : 0 ≤ (H.1 16 (z11).toNat) ∧ (H.1 16 (z11).toNat) ≤ 4 := kn (x := kx_16) hI rfl (z11).toNat
    refine k_run 0 (pc' := 40) (l' := [(0, .inr (.inr 361)), (1, .inl a), (2, .inl b), (3, .inl 0), (4, .inl z11)]) (st' := [.inl (H.1 16 (z11).toNat)]) rfl ?_
    refine k_run 2 (pc' := 44) (l' := [(0, .inr (.inr 361)), (1, .inl a), (2, .inl b), (3, .inl 0), (4, .inl z11), (5, .inl (H.1 16 (z11).toNat))]) (st' := [.inl (H.1 16 (z11).toNat)]) rfl ?_
    refine h_zle (off := 13) (t := 57) rfl rfl (by omega) (fun c14 => ?_) (fun c14 => ?_)
    · refine k_run 0 (pc' := 57) (l' := [(0, .inr (.inr 361)), (1, .inl a), (2, .inl b), (3, .inl 0), (4, .inl z11), (5, .inl (H.1 16 (z11).toNat))]) (st' := []) rfl ?_
      refine k_run 5 (pc' := 69) (l' := [(0, .inr (.inr 361)), (1, .inl a), (2, .inl b), (3, .inl 0), (4, .inl z11), (5, .inl (H.1 16 (z11).toNat))]) (st' := [.inl z11, .inr (.inr 15)]) rfl ?_
      refine k_ild (c := 15) (j := (z11).toNat) (i := z11) (x := kx_15) rfl rfl (by decide) rfl (by decide) (by omega) (by omega) ?_
      have g15 : -2 ≤ (H.1 15 (z11).toNat) ∧ (H.1 15 (z11).toNat) ≤ 100 := kn (x := kx_15) hI rfl (z11).toNat
      refine k_run 0 (pc' := 70) (l' := [(0, .inr (.inr 361)), (1, .inl a), (2, .inl b), (3, .inl 0), (4, .inl z11), (5, .inl (H.1 16 (z11).toNat))]) (st' := [.inl (H.1 15 (z11).toNat)]) rfl ?_
      refine k_run 1 (pc' := 71) (l' := [(0, .inr (.inr 361)), (1, .inl a), (2, .inl b), (3, .inl 0), (4, .inl z11), (5, .inl (H.1 16 (z11).toNat))]) (st' := [.inl a, .inl (H.1 15 (z11).toNat)]) rfl ?_
      refine h_ieq (off := 9) (t := 80) rfl rfl (by omega) (by omega) (fun c16 => ?_) (fun c16 => ?_)
      · refine k_run 0 (pc' := 80) (l' := [(0, .inr (.inr 361)), (1, .inl a), (2, .inl b), (3, .inl 0), (4, .inl z11), (5, .inl (H.1 16 (z11).toNat))]) (st' := []) rfl ?_
        refine k_run 4 (pc' := 87) (l' := [(0, .inr (.inr 361)), (1, .inl a), (2, .inl b), (3, .inl 0), (4, .inl z11), (5, .inl (H.1 16 (z11).toNat))]) (st' := [.inl z11, .inr (.inr 7), .inr (.inr 361)]) rfl ?_
        refine h_cv (i := 209) (j := 38) (b := 7) (M' := mt_38) (xs := [.inl z11]) (rest := [.inr (.inr 361)]) rfl rfl rfl rfl (zs_K (x := kx_7) rfl (by decide)) rfl (Nat.le_of_ble_eq_true rfl) (Nat.le_of_ble_eq_true rfl) (by omega) (k_Program_codeOfConstructor (by omega) hI (by omega)) ?_
        rintro _ _ ⟨z21, rfl, g17, rfl⟩
        refine k_run 0 (pc' := 90) (l' := [(0, .inr (.inr 361)), (1, .inl a), (2, .inl b), (3, .inl 0), (4, .inl z11), (5, .inl (H.1 16 (z11).toNat))]) (st' := [.inl z21, .inr (.inr 361)]) rfl ?_
        refine h_cv (i := 157) (j := 77) (b := 361) (M' := mt_77) (xs := [.inl z21]) (rest := []) rfl rfl rfl rfl (zs_K (x := kx_361) rfl (by decide)) rfl (Nat.le_of_ble_eq_true rfl) (Nat.le_of_ble_eq_true rfl) (by omega) (f_Reader_addName (by omega) hI (by omega)) ?_
        rintro _ H23 ⟨z26, rfl, g22, hI24, hq25⟩
        have hf27 : fq [(361, 3), (361, 4), (361, 5), (361, 9)] [362] true H H23 := fq_t (fq_rf _ _ _ _) hq25 rfl rfl rfl
        refine k_run 0 (pc' := 93) (l' := [(0, .inr (.inr 361)), (1, .inl a), (2, .inl b), (3, .inl 0), (4, .inl z11), (5, .inl (H.1 16 (z11).toNat))]) (st' := [.inl z26]) rfl ?_
        refine k_run 3 (pc' := 98) (l' := [(0, .inr (.inr 361)), (1, .inl a), (2, .inl b), (3, .inl 0), (4, .inl z11), (5, .inl (H.1 16 (z11).toNat)), (6, .inl z26), (7, .inl 0)]) (st' := []) rfl ?_
        have g28 : -2147483648 ≤ (H23.1 361 4) ∧ (H23.1 361 4) ≤ 2147483647 := kn (x := kx_361) hI24 rfl 4
        exact (f_readPC_0_cut hd hI ha hb hp0 _) H23 hI24 hf27 z11 (H.1 16 (z11).toNat) z26 (0 : Int) (by omega) (by omega) (by omega) (by decide) (by omega) (by omega) (by omega) (by omega) (Nat.lt_succ_self _)
      · refine k_run 0 (pc' := 74) (l' := [(0, .inr (.inr 361)), (1, .inl a), (2, .inl b), (3, .inl 0), (4, .inl z11), (5, .inl (H.1 16 (z11).toNat))]) (st' := []) rfl ?_
        refine k_run 2 (pc' := 76) (l' := [(0, .inr (.inr 361)), (1, .inl a), (2, .inl b), (3, .inl 0), (4, .inl z11), (5, .inl (H.1 16 (z11).toNat))]) (st' := [.inl 4, .inr (.inr 361)]) rfl ?_
        refine h_cv (i := 128) (j := 86) (b := 361) (M' := mt_86) (xs := [.inl 4]) (rest := []) rfl rfl rfl rfl (zs_K (x := kx_361) rfl (by decide)) rfl (Nat.le_of_ble_eq_true rfl) (Nat.le_of_ble_eq_true rfl) (by omega) (f_Reader_fails (by omega) hI (by decide)) ?_
        rintro _ H30 ⟨z33, rfl, g29, hI31, hq32⟩
        have hf34 : fq [(361, 3), (361, 4), (361, 5), (361, 9)] [362] true H H30 := fq_t (fq_rf _ _ _ _) hq32 rfl rfl rfl
        refine k_run 0 (pc' := 79) (l' := [(0, .inr (.inr 361)), (1, .inl a), (2, .inl b), (3, .inl 0), (4, .inl z11), (5, .inl (H.1 16 (z11).toNat))]) (st' := [.inl z33]) rfl ?_
        refine h_retz (x := z33) rfl rfl (by omega) ?_
        have g35 : -2147483648 ≤ (H30.1 361 4) ∧ (H30.1 361 4) ≤ 2147483647 := kn (x := kx_361) hI31 rfl 4
        exact ⟨_, rfl, (by omega), hI31, hf34⟩
    · refine k_run 0 (pc' := 47) (l' := [(0, .inr (.inr 361)), (1, .inl a), (2, .inl b), (3, .inl 0), (4, .inl z11), (5, .inl (H.1 16 (z11).toNat))]) (st' := []) rfl ?_
      refine k_run 1 (pc' := 48) (l' := [(0, .inr (.inr 361)), (1, .inl a), (2, .inl b), (3, .inl 0), (4, .inl z11), (5, .inl (H.1 16 (z11).toNat))]) (st' := [.inl 0]) rfl ?_
      refine h_zne (off := 9) (t := 57) rfl rfl (by decide) (fun c => absurd c (by decide)) (fun _ => ?_)
      refine k_run 0 (pc' := 51) (l' := [(0, .inr (.inr 361)), (1, .inl a), (2, .inl b), (3, .inl 0), (4, .inl z11), (5, .inl (H.1 16 (z11).toNat))]) (st' := []) rfl ?_
      refine k_run 2 (pc' := 53) (l' := [(0, .inr (.inr 361)), (1, .inl a), (2, .inl b), (3, .inl 0), (4, .inl z11), (5, .inl (H.1 16 (z11).toNat))]) (st' := [.inl 2, .inr (.inr 361)]) rfl ?_
      refine h_cv (i := 128) (j := 86) (b := 361) (M' := mt_86) (xs := [.inl 2]) (rest := []) rfl rfl rfl rfl (zs_K (x := kx_361) rfl (by decide)) rfl (Nat.le_of_ble_eq_true rfl) (Nat.le_of_ble_eq_true rfl) (by omega) (f_Reader_fails (by omega) hI (by decide)) ?_
      rintro _ H37 ⟨z40, rfl, g36, hI38, hq39⟩
      have hf41 : fq [(361, 3), (361, 4), (361, 5), (361, 9)] [362] true H H37 := fq_t (fq_rf _ _ _ _) hq39 rfl rfl rfl
      refine k_run 0 (pc' := 56) (l' := [(0, .inr (.inr 361)), (1, .inl a), (2, .inl b), (3, .inl 0), (4, .inl z11), (5, .inl (H.1 16 (z11).toNat))]) (st' := [.inl z40]) rfl ?_
      refine h_retz (x := z40) rfl rfl (by omega) ?_
      have g42 : -2147483648 ≤ (H37.1 361 4) ∧ (H37.1 361 4) ≤ 2147483647 := kn (x := kx_361) hI38 rfl 4
      exact ⟨_, rfl, (by omega), hI38, hf41⟩
  · refine k_run 0 (pc' := 21) (l' := [(0, .inr (.inr 361)), (1, .inl a), (2, .inl b), (3, .inl 0), (4, .inl z11)]) (st' := []) rfl ?_
    refine k_run 2 (pc' := 23) (l' := [(0, .inr (.inr 361)), (1, .inl a), (2, .inl b), (3, .inl 0), (4, .inl z11)]) (st' := [.inl 3, .inr (.inr 361)]) rfl ?_
    refine h_cv (i := 128) (j := 86) (b := 361) (M' := mt_86) (xs := [.inl 3]) (rest := []) rfl rfl rfl rfl (zs_K (x := kx_361) rfl (by decide)) rfl (Nat.le_of_ble_eq_true rfl) (Nat.le_of_ble_eq_true rfl) (by omega) (f_Reader_fails (by omega) hI (by decide)) ?_
    rintro _ H44 ⟨z47, rfl, g43, hI45, hq46⟩
    have hf48 : fq [(361, 3), (361, 4), (361, 5), (361, 9)] [362] true H H44 := fq_t (fq_rf _ _ _ _) hq46 rfl rfl rfl
    refine k_run 0 (pc' := 26) (l' := [(0, .inr (.inr 361)), (1, .inl a), (2, .inl b), (3, .inl 0), (4, .inl z11)]) (st' := [.inl z47]) rfl ?_
    refine h_retz (x := z47) rfl rfl (by omega) ?_
    have g49 : -2147483648 ≤ (H44.1 361 4) ∧ (H44.1 361 4) ≤ 2147483647 := kn (x := kx_361) hI45 rfl 4
    exact ⟨_, rfl, (by omega), hI45, hf48⟩

/-! Reader.readPatternConstructor -/
set_option maxRecDepth 100000 in
theorem f_readPC_1_cut {m : Nat} {d : Nat} (hd : 2 * m + 11 ≤ d) {H : hp} (hI : Inv H) {a : Int} {b : Int} (ha : -2147483648 ≤ a ∧ a ≤ 2147483647) (hb : -2147483648 ≤ b ∧ b ≤ 2147483647) (hp0 : -2 ≤ a ∧ a ≤ 100 ∧ 0 ≤ b ∧ b ≤ 10 ∧ 10 ≤ b + (m : Int)) (hR : ∀ m1, m1 ≤ m → RPc9 m1) : ∀ w : Nat, (∀ (H1 : hp), Inv H1 → fq [(361, 3), (361, 4), (361, 5), (361, 9)] [362] true H H1 → ∀ (x4 : Int) (x5 : Int) (x6 : Int) (x7 : Int) , (-2147483648 ≤ x4 ∧ x4 ≤ 2147483647) → (-2147483648 ≤ x5 ∧ x5 ≤ 2147483647) → (-2147483648 ≤ x6 ∧ x6 ≤ 2147483647) → (-2147483648 ≤ x7 ∧ x7 ≤ 2147483647) → (0 ≤ x7) → (x5 ≤ 4) → (0 ≤ x4 ∧ x4 < 16) → (0 ≤ x6 ∧ x6 ≤ 1) → ((x6 = 0 ∨ H1.1 361 4 = H.1 361 4)) → (((100 - x7).toNat) < w) → hG (zs zK) d mt_72 98 [(0, .inr (.inr 361)), (1, .inl a), (2, .inl b), (3, .inl 1), (4, .inl x4), (5, .inl x5), (6, .inl x6), (7, .inl x7)] [] H1 (fun r9 H9 => ∃ z : Int, r9 = some (.inl z) ∧ ((0 ≤ z ∧ z ≤ 1) ∧ ((z = 0 ∨ H9.1 361 4 = H.1 361 4))) ∧ Inv H9 ∧ fq [(361, 3), (361, 4), (361, 5), (361, 9)] [362] true H H9)) := by
  intro w
  induction w with
  | zero => exact fun _ _ _ _ _ _ _ _ _ _ _ _ _ _ _ _ h => absurd h (Nat.not_lt_zero _)
  | succ w ih =>
    intro H1 hI1 hf1 x4 x5 x6 x7 hx4 hx5 hx6 hx7 hi0 hi1 hi2 hi3 hi4 hw
    have g64 : -2147483648 ≤ (H1.1 361 4) ∧ (H1.1 361 4) ≤ 2147483647 := kn (x := kx_361) hI1 rfl 4
    refine k_run 1 (pc' := 100) (l' := [(0, .inr (.inr 361)), (1, .inl a), (2, .inl b), (3, .inl 1), (4, .inl x4), (5, .inl x5), (6, .inl x6), (7, .inl x7)]) (st' := [.inl x6]) rfl ?_
    refine h_zeq (off := 37) (t := 137) rfl rfl (by omega) (fun c65 => ?_) (fun c65 => ?_)
    · refine k_run 0 (pc' := 137) (l' := [(0, .inr (.inr 361)), (1, .inl a), (2, .inl b), (3, .inl 1), (4, .inl x4), (5, .inl x5), (6, .inl x6), (7, .inl x7)]) (st' := []) rfl ?_
      refine k_run 1 (pc' := 139) (l' := [(0, .inr (.inr 361)), (1, .inl a), (2, .inl b), (3, .inl 1), (4, .inl x4), (5, .inl x5), (6, .inl x6), (7, .inl x7)]) (st' := [.inl x6]) rfl ?_
      refine h_retz (x := x6) rfl rfl (by omega) ?_
      exact ⟨_, rfl, (by omega), hI1, hf1⟩
    · refine k_run 0 (pc' := 103) (l' := [(0, .inr (.inr 361)), (1, .inl a), (2, .inl b), (3, .inl 1), (4, .inl x4), (5, .inl x5), (6, .inl x6), (7, .inl x7)]) (st' := []) rfl ?_
      refine k_run 2 (pc' := 107) (l' := [(0, .inr (.inr 361)), (1, .inl a), (2, .inl b), (3, .inl 1), (4, .inl x4), (5, .inl x5), (6, .inl x6), (7, .inl x7)]) (st' := [.inl x5, .inl x7]) rfl ?_
      refine h_ige (off := 30) (t := 137) rfl rfl (by omega) (by omega) (fun c66 => ?_) (fun c66 => ?_)
      · refine k_run 0 (pc' := 137) (l' := [(0, .inr (.inr 361)), (1, .inl a), (2, .inl b), (3, .inl 1), (4, .inl x4), (5, .inl x5), (6, .inl x6), (7, .inl x7)]) (st' := []) rfl ?_
        refine k_run 1 (pc' := 139) (l' := [(0, .inr (.inr 361)), (1, .inl a), (2, .inl b), (3, .inl 1), (4, .inl x4), (5, .inl x5), (6, .inl x6), (7, .inl x7)]) (st' := [.inl x6]) rfl ?_
        refine h_retz (x := x6) rfl rfl (by omega) ?_
        exact ⟨_, rfl, (by omega), hI1, hf1⟩
      · refine k_run 0 (pc' := 110) (l' := [(0, .inr (.inr 361)), (1, .inl a), (2, .inl b), (3, .inl 1), (4, .inl x4), (5, .inl x5), (6, .inl x6), (7, .inl x7)]) (st' := []) rfl ?_
        refine k_run 6 (pc' := 122) (l' := [(0, .inr (.inr 361)), (1, .inl a), (2, .inl b), (3, .inl 1), (4, .inl x4), (5, .inl x5), (6, .inl x6), (7, .inl x7)]) (st' := [.inl x7, .inl x4, .inr (.inr 13), .inr (.inr 361)]) rfl ?_
        refine h_cv (i := 160) (j := 45) (b := 13) (M' := mt_45) (xs := [.inl x7, .inl x4]) (rest := [.inr (.inr 361)]) rfl rfl rfl rfl (zs_K (x := kx_13) rfl (by decide)) rfl (Nat.le_of_ble_eq_true rfl) (Nat.le_of_ble_eq_true rfl) (by omega) (k_Symbols_argument_13 (by omega) hI1 (by omega) (by omega) (by omega)) ?_
        rintro _ _ ⟨z71, rfl, g67, rfl⟩
        refine k_run 0 (pc' := 125) (l' := [(0, .inr (.inr 361)), (1, .inl a), (2, .inl b), (3, .inl 1), (4, .inl x4), (5, .inl x5), (6, .inl x6), (7, .inl x7)]) (st' := [.inl z71, .inr (.inr 361)]) rfl ?_
        refine k_run 1 (pc' := 126) (l' := [(0, .inr (.inr 361)), (1, .inl a), (2, .inl b), (3, .inl 1), (4, .inl x4), (5, .inl x5), (6, .inl x6), (7, .inl x7)]) (st' := [.inl b, .inl z71, .inr (.inr 361)]) rfl ?_
        refine h_cv (i := 164) (j := 70) (b := 361) (M' := mt_70) (xs := [.inl b, .inl z71]) (rest := []) rfl rfl rfl rfl (zs_K (x := kx_361) rfl (by decide)) rfl (Nat.le_of_ble_eq_true rfl) (Nat.le_of_ble_eq_true rfl) (by omega) (hR m (by omega) (by omega) hI1 (by omega) (by omega) (by omega)) ?_
        rintro _ H73 ⟨z76, rfl, g72, hI74, hq75⟩
        have hf77 : fq [(361, 3), (361, 4), (361, 5), (361, 9)] [362] true H H73 := fq_t hf1 hq75 rfl rfl rfl
        refine k_run 0 (pc' := 129) (l' := [(0, .inr (.inr 361)), (1, .inl a), (2, .inl b), (3, .inl 1), (4, .inl x4), (5, .inl x5), (6, .inl x6), (7, .inl x7)]) (st' := [.inl z76]) rfl ?_
        refine k_run 3 (pc' := 98) (l' := [(0, .inr (.inr 361)), (1, .inl a), (2, .inl b), (3, .inl 1), (4, .inl x4), (5, .inl x5), (6, .inl z76), (7, .inl (x7 + 1))]) (st' := []) rfl ?_
        have g78 : -2147483648 ≤ (H73.1 361 4) ∧ (H73.1 361 4) ≤ 2147483647 := kn (x := kx_361) hI74 rfl 4
        exact ih H73 hI74 hf77 x4 x5 z76 (x7 + 1) (by omega) (by omega) (by omega) (by omega) (by omega) (by omega) (by omega) (by omega) (by omega) (by omega)
set_option maxRecDepth 100000 in
theorem f_readPC_1 {m : Nat} {d : Nat} (hd : 2 * m + 11 ≤ d) {H : hp} (hI : Inv H) {a : Int} {b : Int} (ha : -2147483648 ≤ a ∧ a ≤ 2147483647) (hb : -2147483648 ≤ b ∧ b ≤ 2147483647) (hp0 : -2 ≤ a ∧ a ≤ 100 ∧ 0 ≤ b ∧ b ≤ 10 ∧ 10 ≤ b + (m : Int)) (hR : ∀ m1, m1 ≤ m → RPc9 m1) : hG (zs zK) d mt_72 0 (zargs 0 [.inr (.inr 361), .inl a, .inl b, .inl 1]) [] H (fun r9 H9 => ∃ z : Int, r9 = some (.inl z) ∧ ((0 ≤ z ∧ z ≤ 1) ∧ ((z = 0 ∨ H9.1 361 4 = H.1 361 4))) ∧ Inv H9 ∧ fq [(361, 3), (361, 4), (361, 5), (361, 9)] [362] true H H9) := by
  refine k_run 0 (pc' := 0) (l' := [(0, .inr (.inr 361)), (1, .inl a), (2, .inl b), (3, .inl 1)]) (st' := []) rfl ?_
  refine k_run 4 (pc' := 8) (l' := [(0, .inr (.inr 361)), (1, .inl a), (2, .inl b), (3, .inl 1)]) (st' := [.inr (.inr 361), .inr (.inr 13)]) rfl ?_
  refine h_cv (i := 120) (j := 84) (b := 361) (M' := mt_84) (xs := []) (rest := [.inr (.inr 13)]) rfl rfl rfl rfl (zs_K (x := kx_361) rfl (by decide)) rfl (Nat.le_of_ble_eq_true rfl) (Nat.le_of_ble_eq_true rfl) (by omega) (f_Reader_name (by omega) hI ) ?_
  rintro _ _ ⟨z5, rfl, g1, rfl⟩
  refine k_run 0 (pc' := 11) (l' := [(0, .inr (.inr 361)), (1, .inl a), (2, .inl b), (3, .inl 1)]) (st' := [.inr (.inl z5), .inr (.inr 13)]) rfl ?_
  have g6 : 0 ≤ (H.1 13 4) ∧ (H.1 13 4) ≤ 16 := kn (x := kx_13) hI rfl 4
  refine h_cv (i := 124) (j := 41) (b := 13) (M' := mt_41) (xs := [.inr (.inl z5)]) (rest := []) rfl rfl rfl rfl (zs_K (x := kx_13) rfl (by decide)) rfl (Nat.le_of_ble_eq_true rfl) (Nat.le_of_ble_eq_true rfl) (by omega) (k_Symbols_find_13 (by omega) hI ) ?_
  rintro _ _ ⟨z11, rfl, g7, rfl⟩
  refine k_run 0 (pc' := 14) (l' := [(0, .inr (.inr 361)), (1, .inl a), (2, .inl b), (3, .inl 1)]) (st' := [.inl z11]) rfl ?_
  refine k_run 2 (pc' := 18) (l' := [(0, .inr (.inr 361)), (1, .inl a), (2, .inl b), (3, .inl 1), (4, .inl z11)]) (st' := [.inl z11]) rfl ?_
  refine h_zge (off := 9) (t := 27) rfl rfl (by omega) (fun c12 => ?_) (fun c12 => ?_)
  · refine k_run 0 (pc' := 27) (l' := [(0, .inr (.inr 361)), (1, .inl a), (2, .inl b), (3, .inl 1), (4, .inl z11)]) (st' := []) rfl ?_
    refine k_run 5 (pc' := 39) (l' := [(0, .inr (.inr 361)), (1, .inl a), (2, .inl b), (3, .inl 1), (4, .inl z11)]) (st' := [.inl z11, .inr (.inr 16)]) rfl ?_
    refine k_ild (c := 16) (j := (z11).toNat) (i := z11) (x := kx_16) rfl rfl (by decide) rfl (by decide) (by omega) (by omega) ?_
    have g13 : 0 ≤ (H.1 16 (z11).toNat) ∧ (H.1 16 (z11).toNat) ≤ 4 := kn (x := kx_16) hI rfl (z11).toNat
    refine k_run 0 (pc' := 40) (l' := [(0, .inr (.inr 361)), (1, .inl a), (2, .inl b), (3, .inl 1), (4, .inl z11)]) (st' := [.inl (H.1 16 (z11).toNat)]) rfl ?_
    refine k_run 2 (pc' := 44) (l' := [(0, .inr (.inr 361)), (1, .inl a), (2, .inl b), (3, .inl 1), (4, .inl z11), (5, .inl (H.1 16 (z11).toNat))]) (st' := [.inl (H.1 16 (z11).toNat)]) rfl ?_
    refine h_zle (off := 13) (t := 57) rfl rfl (by omega) (fun c14 => ?_) (fun c14 => ?_)
    · refine k_run 0 (pc' := 57) (l' := [(0, .inr (.inr 361)), (1, .inl a), (2, .inl b), (3, .inl 1), (4, .inl z11), (5, .inl (H.1 16 (z11).toNat))]) (st' := []) rfl ?_
      refine k_run 5 (pc' := 69) (l' := [(0, .inr (.inr 361)), (1, .inl a), (2, .inl b), (3, .inl 1), (4, .inl z11), (5, .inl (H.1 16 (z11).toNat))]) (st' := [.inl z11, .inr (.inr 15)]) rfl ?_
      refine k_ild (c := 15) (j := (z11).toNat) (i := z11) (x := kx_15) rfl rfl (by decide) rfl (by decide) (by omega) (by omega) ?_
      have g15 : -2 ≤ (H.1 15 (z11).toNat) ∧ (H.1 15 (z11).toNat) ≤ 100 := kn (x := kx_15) hI rfl (z11).toNat
      refine k_run 0 (pc' := 70) (l' := [(0, .inr (.inr 361)), (1, .inl a), (2, .inl b), (3, .inl 1), (4, .inl z11), (5, .inl (H.1 16 (z11).toNat))]) (st' := [.inl (H.1 15 (z11).toNat)]) rfl ?_
      refine k_run 1 (pc' := 71) (l' := [(0, .inr (.inr 361)), (1, .inl a), (2, .inl b), (3, .inl 1), (4, .inl z11), (5, .inl (H.1 16 (z11).toNat))]) (st' := [.inl a, .inl (H.1 15 (z11).toNat)]) rfl ?_
      refine h_ieq (off := 9) (t := 80) rfl rfl (by omega) (by omega) (fun c16 => ?_) (fun c16 => ?_)
      · refine k_run 0 (pc' := 80) (l' := [(0, .inr (.inr 361)), (1, .inl a), (2, .inl b), (3, .inl 1), (4, .inl z11), (5, .inl (H.1 16 (z11).toNat))]) (st' := []) rfl ?_
        refine k_run 4 (pc' := 87) (l' := [(0, .inr (.inr 361)), (1, .inl a), (2, .inl b), (3, .inl 1), (4, .inl z11), (5, .inl (H.1 16 (z11).toNat))]) (st' := [.inl z11, .inr (.inr 7), .inr (.inr 361)]) rfl ?_
        refine h_cv (i := 209) (j := 38) (b := 7) (M' := mt_38) (xs := [.inl z11]) (rest := [.inr (.inr 361)]) rfl rfl rfl rfl (zs_K (x := kx_7) rfl (by decide)) rfl (Nat.le_of_ble_eq_true rfl) (Nat.le_of_ble_eq_true rfl) (by omega) (k_Program_codeOfConstructor (by omega) hI (by omega)) ?_
        rintro _ _ ⟨z21, rfl, g17, rfl⟩
        refine k_run 0 (pc' := 90) (l' := [(0, .inr (.inr 361)), (1, .inl a), (2, .inl b), (3, .inl 1), (4, .inl z11), (5, .inl (H.1 16 (z11).toNat))]) (st' := [.inl z21, .inr (.inr 361)]) rfl ?_
        refine h_cv (i := 157) (j := 77) (b := 361) (M' := mt_77) (xs := [.inl z21]) (rest := []) rfl rfl rfl rfl (zs_K (x := kx_361) rfl (by decide)) rfl (Nat.le_of_ble_eq_true rfl) (Nat.le_of_ble_eq_true rfl) (by omega) (f_Reader_addName (by omega) hI (by omega)) ?_
        rintro _ H23 ⟨z26, rfl, g22, hI24, hq25⟩
        have hf27 : fq [(361, 3), (361, 4), (361, 5), (361, 9)] [362] true H H23 := fq_t (fq_rf _ _ _ _) hq25 rfl rfl rfl
        refine k_run 0 (pc' := 93) (l' := [(0, .inr (.inr 361)), (1, .inl a), (2, .inl b), (3, .inl 1), (4, .inl z11), (5, .inl (H.1 16 (z11).toNat))]) (st' := [.inl z26]) rfl ?_
        refine k_run 3 (pc' := 98) (l' := [(0, .inr (.inr 361)), (1, .inl a), (2, .inl b), (3, .inl 1), (4, .inl z11), (5, .inl (H.1 16 (z11).toNat)), (6, .inl z26), (7, .inl 0)]) (st' := []) rfl ?_
        have g28 : -2147483648 ≤ (H23.1 361 4) ∧ (H23.1 361 4) ≤ 2147483647 := kn (x := kx_361) hI24 rfl 4
        exact (f_readPC_1_cut hd hI ha hb hp0 hR _) H23 hI24 hf27 z11 (H.1 16 (z11).toNat) z26 (0 : Int) (by omega) (by omega) (by omega) (by decide) (by omega) (by omega) (by omega) (by omega) (by omega) (Nat.lt_succ_self _)
      · refine k_run 0 (pc' := 74) (l' := [(0, .inr (.inr 361)), (1, .inl a), (2, .inl b), (3, .inl 1), (4, .inl z11), (5, .inl (H.1 16 (z11).toNat))]) (st' := []) rfl ?_
        refine k_run 2 (pc' := 76) (l' := [(0, .inr (.inr 361)), (1, .inl a), (2, .inl b), (3, .inl 1), (4, .inl z11), (5, .inl (H.1 16 (z11).toNat))]) (st' := [.inl 4, .inr (.inr 361)]) rfl ?_
        refine h_cv (i := 128) (j := 86) (b := 361) (M' := mt_86) (xs := [.inl 4]) (rest := []) rfl rfl rfl rfl (zs_K (x := kx_361) rfl (by decide)) rfl (Nat.le_of_ble_eq_true rfl) (Nat.le_of_ble_eq_true rfl) (by omega) (f_Reader_fails (by omega) hI (by decide)) ?_
        rintro _ H30 ⟨z33, rfl, g29, hI31, hq32⟩
        have hf34 : fq [(361, 3), (361, 4), (361, 5), (361, 9)] [362] true H H30 := fq_t (fq_rf _ _ _ _) hq32 rfl rfl rfl
        refine k_run 0 (pc' := 79) (l' := [(0, .inr (.inr 361)), (1, .inl a), (2, .inl b), (3, .inl 1), (4, .inl z11), (5, .inl (H.1 16 (z11).toNat))]) (st' := [.inl z33]) rfl ?_
        refine h_retz (x := z33) rfl rfl (by omega) ?_
        have g35 : -2147483648 ≤ (H30.1 361 4) ∧ (H30.1 361 4) ≤ 2147483647 := kn (x := kx_361) hI31 rfl 4
        exact ⟨_, rfl, (by omega), hI31, hf34⟩
    · refine k_run 0 (pc' := 47) (l' := [(0, .inr (.inr 361)), (1, .inl a), (2, .inl b), (3, .inl 1), (4, .inl z11), (5, .inl (H.1 16 (z11).toNat))]) (st' := []) rfl ?_
      refine k_run 1 (pc' := 48) (l' := [(0, .inr (.inr 361)), (1, .inl a), (2, .inl b), (3, .inl 1), (4, .inl z11), (5, .inl (H.1 16 (z11).toNat))]) (st' := [.inl 1]) rfl ?_
      refine h_zne (off := 9) (t := 57) rfl rfl (by decide) (fun _ => ?_) (fun c => absurd c (by decide))
      refine k_run 0 (pc' := 57) (l' := [(0, .inr (.inr 361)), (1, .inl a), (2, .inl b), (3, .inl 1), (4, .inl z11), (5, .inl (H.1 16 (z11).toNat))]) (st' := []) rfl ?_
      refine k_run 5 (pc' := 69) (l' := [(0, .inr (.inr 361)), (1, .inl a), (2, .inl b), (3, .inl 1), (4, .inl z11), (5, .inl (H.1 16 (z11).toNat))]) (st' := [.inl z11, .inr (.inr 15)]) rfl ?_
      refine k_ild (c := 15) (j := (z11).toNat) (i := z11) (x := kx_15) rfl rfl (by decide) rfl (by decide) (by omega) (by omega) ?_
      have g36 : -2 ≤ (H.1 15 (z11).toNat) ∧ (H.1 15 (z11).toNat) ≤ 100 := kn (x := kx_15) hI rfl (z11).toNat
      refine k_run 0 (pc' := 70) (l' := [(0, .inr (.inr 361)), (1, .inl a), (2, .inl b), (3, .inl 1), (4, .inl z11), (5, .inl (H.1 16 (z11).toNat))]) (st' := [.inl (H.1 15 (z11).toNat)]) rfl ?_
      refine k_run 1 (pc' := 71) (l' := [(0, .inr (.inr 361)), (1, .inl a), (2, .inl b), (3, .inl 1), (4, .inl z11), (5, .inl (H.1 16 (z11).toNat))]) (st' := [.inl a, .inl (H.1 15 (z11).toNat)]) rfl ?_
      refine h_ieq (off := 9) (t := 80) rfl rfl (by omega) (by omega) (fun c37 => ?_) (fun c37 => ?_)
      · refine k_run 0 (pc' := 80) (l' := [(0, .inr (.inr 361)), (1, .inl a), (2, .inl b), (3, .inl 1), (4, .inl z11), (5, .inl (H.1 16 (z11).toNat))]) (st' := []) rfl ?_
        refine k_run 4 (pc' := 87) (l' := [(0, .inr (.inr 361)), (1, .inl a), (2, .inl b), (3, .inl 1), (4, .inl z11), (5, .inl (H.1 16 (z11).toNat))]) (st' := [.inl z11, .inr (.inr 7), .inr (.inr 361)]) rfl ?_
        refine h_cv (i := 209) (j := 38) (b := 7) (M' := mt_38) (xs := [.inl z11]) (rest := [.inr (.inr 361)]) rfl rfl rfl rfl (zs_K (x := kx_7) rfl (by decide)) rfl (Nat.le_of_ble_eq_true rfl) (Nat.le_of_ble_eq_true rfl) (by omega) (k_Program_codeOfConstructor (by omega) hI (by omega)) ?_
        rintro _ _ ⟨z42, rfl, g38, rfl⟩
        refine k_run 0 (pc' := 90) (l' := [(0, .inr (.inr 361)), (1, .inl a), (2, .inl b), (3, .inl 1), (4, .inl z11), (5, .inl (H.1 16 (z11).toNat))]) (st' := [.inl z42, .inr (.inr 361)]) rfl ?_
        refine h_cv (i := 157) (j := 77) (b := 361) (M' := mt_77) (xs := [.inl z42]) (rest := []) rfl rfl rfl rfl (zs_K (x := kx_361) rfl (by decide)) rfl (Nat.le_of_ble_eq_true rfl) (Nat.le_of_ble_eq_true rfl) (by omega) (f_Reader_addName (by omega) hI (by omega)) ?_
        rintro _ H44 ⟨z47, rfl, g43, hI45, hq46⟩
        have hf48 : fq [(361, 3), (361, 4), (361, 5), (361, 9)] [362] true H H44 := fq_t (fq_rf _ _ _ _) hq46 rfl rfl rfl
        refine k_run 0 (pc' := 93) (l' := [(0, .inr (.inr 361)), (1, .inl a), (2, .inl b), (3, .inl 1), (4, .inl z11), (5, .inl (H.1 16 (z11).toNat))]) (st' := [.inl z47]) rfl ?_
        refine k_run 3 (pc' := 98) (l' := [(0, .inr (.inr 361)), (1, .inl a), (2, .inl b), (3, .inl 1), (4, .inl z11), (5, .inl (H.1 16 (z11).toNat)), (6, .inl z47), (7, .inl 0)]) (st' := []) rfl ?_
        have g49 : -2147483648 ≤ (H44.1 361 4) ∧ (H44.1 361 4) ≤ 2147483647 := kn (x := kx_361) hI45 rfl 4
        exact (f_readPC_1_cut hd hI ha hb hp0 hR _) H44 hI45 hf48 z11 (H.1 16 (z11).toNat) z47 (0 : Int) (by omega) (by omega) (by omega) (by decide) (by omega) (by omega) (by omega) (by omega) (by omega) (Nat.lt_succ_self _)
      · refine k_run 0 (pc' := 74) (l' := [(0, .inr (.inr 361)), (1, .inl a), (2, .inl b), (3, .inl 1), (4, .inl z11), (5, .inl (H.1 16 (z11).toNat))]) (st' := []) rfl ?_
        refine k_run 2 (pc' := 76) (l' := [(0, .inr (.inr 361)), (1, .inl a), (2, .inl b), (3, .inl 1), (4, .inl z11), (5, .inl (H.1 16 (z11).toNat))]) (st' := [.inl 4, .inr (.inr 361)]) rfl ?_
        refine h_cv (i := 128) (j := 86) (b := 361) (M' := mt_86) (xs := [.inl 4]) (rest := []) rfl rfl rfl rfl (zs_K (x := kx_361) rfl (by decide)) rfl (Nat.le_of_ble_eq_true rfl) (Nat.le_of_ble_eq_true rfl) (by omega) (f_Reader_fails (by omega) hI (by decide)) ?_
        rintro _ H51 ⟨z54, rfl, g50, hI52, hq53⟩
        have hf55 : fq [(361, 3), (361, 4), (361, 5), (361, 9)] [362] true H H51 := fq_t (fq_rf _ _ _ _) hq53 rfl rfl rfl
        refine k_run 0 (pc' := 79) (l' := [(0, .inr (.inr 361)), (1, .inl a), (2, .inl b), (3, .inl 1), (4, .inl z11), (5, .inl (H.1 16 (z11).toNat))]) (st' := [.inl z54]) rfl ?_
        refine h_retz (x := z54) rfl rfl (by omega) ?_
        have g56 : -2147483648 ≤ (H51.1 361 4) ∧ (H51.1 361 4) ≤ 2147483647 := kn (x := kx_361) hI52 rfl 4
        exact ⟨_, rfl, (by omega), hI52, hf55⟩
  · refine k_run 0 (pc' := 21) (l' := [(0, .inr (.inr 361)), (1, .inl a), (2, .inl b), (3, .inl 1), (4, .inl z11)]) (st' := []) rfl ?_
    refine k_run 2 (pc' := 23) (l' := [(0, .inr (.inr 361)), (1, .inl a), (2, .inl b), (3, .inl 1), (4, .inl z11)]) (st' := [.inl 3, .inr (.inr 361)]) rfl ?_
    refine h_cv (i := 128) (j := 86) (b := 361) (M' := mt_86) (xs := [.inl 3]) (rest := []) rfl rfl rfl rfl (zs_K (x := kx_361) rfl (by decide)) rfl (Nat.le_of_ble_eq_true rfl) (Nat.le_of_ble_eq_true rfl) (by omega) (f_Reader_fails (by omega) hI (by decide)) ?_
    rintro _ H58 ⟨z61, rfl, g57, hI59, hq60⟩
    have hf62 : fq [(361, 3), (361, 4), (361, 5), (361, 9)] [362] true H H58 := fq_t (fq_rf _ _ _ _) hq60 rfl rfl rfl
    refine k_run 0 (pc' := 26) (l' := [(0, .inr (.inr 361)), (1, .inl a), (2, .inl b), (3, .inl 1), (4, .inl z11)]) (st' := [.inl z61]) rfl ?_
    refine h_retz (x := z61) rfl rfl (by omega) ?_
    have g63 : -2147483648 ≤ (H58.1 361 4) ∧ (H58.1 361 4) ≤ 2147483647 := kn (x := kx_361) hI59 rfl 4
    exact ⟨_, rfl, (by omega), hI59, hf62⟩

/-! Reader.readPattern -/
set_option maxRecDepth 100000 in
theorem f_readP {m : Nat} {d : Nat} (hd : 2 * m + 10 ≤ d) {H : hp} (hI : Inv H) {a : Int} {b : Int} (ha : -2147483648 ≤ a ∧ a ≤ 2147483647) (hb : -2147483648 ≤ b ∧ b ≤ 2147483647) (hp0 : -2 ≤ a ∧ a ≤ 100 ∧ 0 ≤ b ∧ b ≤ 10 ∧ 10 ≤ b + (m : Int)) (hR : ∀ m1, m1 < m → RPc9 m1) : hG (zs zK) d mt_70 0 (zargs 0 [.inr (.inr 361), .inl a, .inl b]) [] H (fun r9 H9 => ∃ z : Int, r9 = some (.inl z) ∧ ((0 ≤ z ∧ z ≤ 1) ∧ ((z = 0 ∨ H9.1 361 4 = H.1 361 4))) ∧ Inv H9 ∧ fq [(361, 3), (361, 4), (361, 5), (361, 9)] [362] true H H9) := by
  refine k_run 0 (pc' := 0) (l' := [(0, .inr (.inr 361)), (1, .inl a), (2, .inl b)]) (st' := []) rfl ?_
  refine k_run 1 (pc' := 1) (l' := [(0, .inr (.inr 361)), (1, .inl a), (2, .inl b)]) (st' := [.inr (.inr 361)]) rfl ?_
  refine h_cv (i := 72) (j := 83) (b := 361) (M' := mt_83) (xs := []) (rest := []) rfl rfl rfl rfl (zs_K (x := kx_361) rfl (by decide)) rfl (Nat.le_of_ble_eq_true rfl) (Nat.le_of_ble_eq_true rfl) (by omega) (f_Reader_token (by omega) hI ) ?_
  rintro _ _ ⟨z5, rfl, g1, rfl⟩
  refine k_run 0 (pc' := 4) (l' := [(0, .inr (.inr 361)), (1, .inl a), (2, .inl b)]) (st' := [.inl z5]) rfl ?_
  rcases (show (z5 ≠ 2 ∧ z5 ≠ 3 ∧ z5 ≠ 40) ∨ z5 = 2 ∨ z5 = 3 ∨ z5 = 40 by omega) with c6 | c6 | c6 | c6
  · refine k_lsw (t := 116) rfl (by omega) (by decide) (lsw_no (by intro q9 hq9; simp only [List.mem_cons, List.not_mem_nil, or_false] at hq9; rcases hq9 with rfl | rfl | rfl <;> (dsimp only; omega))) rfl ?_
    refine k_run 1 (pc' := 117) (l' := [(0, .inr (.inr 361)), (1, .inl a), (2, .inl b)]) (st' := [.inr (.inr 361)]) rfl ?_
    refine h_cv (i := 89) (j := 85) (b := 361) (M' := mt_85) (xs := []) (rest := []) rfl rfl rfl rfl (zs_K (x := kx_361) rfl (by decide)) rfl (Nat.le_of_ble_eq_true rfl) (Nat.le_of_ble_eq_true rfl) (by omega) (f_Reader_misplaced (by omega) hI ) ?_
    rintro _ H8 ⟨z11, rfl, g7, hI9, hq10⟩
    have hf12 : fq [(361, 3), (361, 4), (361, 5), (361, 9)] [362] true H H8 := fq_t (fq_rf _ _ _ _) hq10 rfl rfl rfl
    refine k_run 0 (pc' := 120) (l' := [(0, .inr (.inr 361)), (1, .inl a), (2, .inl b)]) (st' := [.inl z11]) rfl ?_
    refine h_retz (x := z11) rfl rfl (by omega) ?_
    have g13 : -2147483648 ≤ (H8.1 361 4) ∧ (H8.1 361 4) ≤ 2147483647 := kn (x := kx_361) hI9 rfl 4
    exact ⟨_, rfl, (by omega), hI9, hf12⟩
  · refine k_lsw (t := 40) rfl (by omega) (by decide) (by rw [c6]) rfl ?_
    refine k_run 2 (pc' := 42) (l' := [(0, .inr (.inr 361)), (1, .inl a), (2, .inl b)]) (st' := [.inl a, .inr (.inr 361)]) rfl ?_
    refine h_cv (i := 197) (j := 71) (b := 361) (M' := mt_71) (xs := [.inl a]) (rest := []) rfl rfl rfl rfl (zs_K (x := kx_361) rfl (by decide)) rfl (Nat.le_of_ble_eq_true rfl) (Nat.le_of_ble_eq_true rfl) (by omega) (f_Reader_readPatternVariable (by omega) hI (by omega) (by omega)) ?_
    rintro _ H15 ⟨z18, rfl, g14, hI16, hq17⟩
    have hf19 : fq [(361, 3), (361, 4), (361, 5), (361, 9)] [362] true H H15 := fq_t (fq_rf _ _ _ _) hq17 rfl rfl rfl
    refine k_run 0 (pc' := 45) (l' := [(0, .inr (.inr 361)), (1, .inl a), (2, .inl b)]) (st' := [.inl z18]) rfl ?_
    refine h_retz (x := z18) rfl rfl (by omega) ?_
    have g20 : -2147483648 ≤ (H15.1 361 4) ∧ (H15.1 361 4) ≤ 2147483647 := kn (x := kx_361) hI16 rfl 4
    exact ⟨_, rfl, (by omega), hI16, hf19⟩
  · refine k_lsw (t := 46) rfl (by omega) (by decide) (by rw [c6]) rfl ?_
    refine k_run 4 (pc' := 50) (l' := [(0, .inr (.inr 361)), (1, .inl a), (2, .inl b)]) (st' := [.inl 0, .inl b, .inl a, .inr (.inr 361)]) rfl ?_
    refine h_cv (i := 200) (j := 72) (b := 361) (M' := mt_72) (xs := [.inl 0, .inl b, .inl a]) (rest := []) rfl rfl rfl rfl (zs_K (x := kx_361) rfl (by decide)) rfl (Nat.le_of_ble_eq_true rfl) (Nat.le_of_ble_eq_true rfl) (by omega) (f_readPC_0 (by omega) hI (by omega) (by omega) (by omega)) ?_
    rintro _ H22 ⟨z25, rfl, g21, hI23, hq24⟩
    have hf26 : fq [(361, 3), (361, 4), (361, 5), (361, 9)] [362] true H H22 := fq_t (fq_rf _ _ _ _) hq24 rfl rfl rfl
    refine k_run 0 (pc' := 53) (l' := [(0, .inr (.inr 361)), (1, .inl a), (2, .inl b)]) (st' := [.inl z25]) rfl ?_
    refine h_retz (x := z25) rfl rfl (by omega) ?_
    have g27 : -2147483648 ≤ (H22.1 361 4) ∧ (H22.1 361 4) ≤ 2147483647 := kn (x := kx_361) hI23 rfl 4
    exact ⟨_, rfl, (by omega), hI23, hf26⟩
  · refine k_lsw (t := 54) rfl (by omega) (by decide) (by rw [c6]) rfl ?_
    refine k_run 2 (pc' := 57) (l' := [(0, .inr (.inr 361)), (1, .inl a), (2, .inl b)]) (st' := [.inl 10, .inl b]) rfl ?_
    refine h_ilt (off := 9) (t := 66) rfl rfl (by omega) (by decide) (fun c28 => ?_) (fun c28 => ?_)
    · refine k_run 0 (pc' := 66) (l' := [(0, .inr (.inr 361)), (1, .inl a), (2, .inl b)]) (st' := []) rfl ?_
      refine k_run 3 (pc' := 71) (l' := [(0, .inr (.inr 361)), (1, .inl a), (2, .inl b)]) (st' := [.inl (H.1 361 3), .inr (.inr 361)]) rfl ?_
      have g29 : -2147483648 ≤ (H.1 361 3) ∧ (H.1 361 3) ≤ 2147483647 := kn (x := kx_361) hI rfl 3
      refine k_run 2 (pc' := 73) (l' := [(0, .inr (.inr 361)), (1, .inl a), (2, .inl b)]) (st' := [.inl ((H.1 361 3) + 1), .inr (.inr 361)]) rfl ?_
      refine k_putw (a := 361) (x := kx_361) rfl rfl rfl (by decide) (by decide) rfl rfl rfl rfl hI rfl (fun H30 hI31 hw32 => ?_)
      have hf34 : fq [(361, 3), (361, 4), (361, 5), (361, 9)] [362] true H H30 := fq_w (fq_rf _ _ _ _) hw32 (fpo (by decide) rfl)
      refine k_run 0 (pc' := 76) (l' := [(0, .inr (.inr 361)), (1, .inl a), (2, .inl b)]) (st' := []) rfl ?_
      refine k_run 1 (pc' := 77) (l' := [(0, .inr (.inr 361)), (1, .inl a), (2, .inl b)]) (st' := [.inr (.inr 361)]) rfl ?_
      refine h_cv (i := 72) (j := 83) (b := 361) (M' := mt_83) (xs := []) (rest := []) rfl rfl rfl rfl (zs_K (x := kx_361) rfl (by decide)) rfl (Nat.le_of_ble_eq_true rfl) (Nat.le_of_ble_eq_true rfl) (by omega) (f_Reader_token (by omega) hI31 ) ?_
      rintro _ _ ⟨z39, rfl, g35, rfl⟩
      refine k_run 0 (pc' := 80) (l' := [(0, .inr (.inr 361)), (1, .inl a), (2, .inl b)]) (st' := [.inl z39]) rfl ?_
      refine k_run 1 (pc' := 81) (l' := [(0, .inr (.inr 361)), (1, .inl a), (2, .inl b)]) (st' := [.inl 3, .inl z39]) rfl ?_
      refine h_ieq (off := 8) (t := 89) rfl rfl (by omega) (by decide) (fun c40 => ?_) (fun c40 => ?_)
      · refine k_run 0 (pc' := 89) (l' := [(0, .inr (.inr 361)), (1, .inl a), (2, .inl b)]) (st' := []) rfl ?_
        refine k_run 6 (pc' := 95) (l' := [(0, .inr (.inr 361)), (1, .inl a), (2, .inl b)]) (st' := [.inl 1, .inl (b + 1), .inl a, .inr (.inr 361)]) rfl ?_
        refine h_cv (i := 200) (j := 72) (b := 361) (M' := mt_72) (xs := [.inl 1, .inl (b + 1), .inl a]) (rest := []) rfl rfl rfl rfl (zs_K (x := kx_361) rfl (by decide)) rfl (Nat.le_of_ble_eq_true rfl) (Nat.le_of_ble_eq_true rfl) (by omega) (f_readPC_1 (by omega) hI31 (by omega) (by omega) (by omega) (m := m - 1) (fun m1 h1 => hR m1 (by omega))) ?_
        rintro _ H42 ⟨z45, rfl, g41, hI43, hq44⟩
        have hf46 : fq [(361, 3), (361, 4), (361, 5), (361, 9)] [362] true H H42 := fq_t hf34 hq44 rfl rfl rfl
        refine k_run 0 (pc' := 98) (l' := [(0, .inr (.inr 361)), (1, .inl a), (2, .inl b)]) (st' := [.inl z45]) rfl ?_
        refine h_zeq (off := 16) (t := 114) rfl rfl (by omega) (fun c47 => ?_) (fun c47 => ?_)
        · refine k_run 0 (pc' := 114) (l' := [(0, .inr (.inr 361)), (1, .inl a), (2, .inl b)]) (st' := []) rfl ?_
          refine k_run 1 (pc' := 115) (l' := [(0, .inr (.inr 361)), (1, .inl a), (2, .inl b)]) (st' := [.inl 0]) rfl ?_
          refine h_retz (x := 0) rfl rfl (by decide) ?_
          have g48 : -2147483648 ≤ (H42.1 361 4) ∧ (H42.1 361 4) ≤ 2147483647 := kn (x := kx_361) hI43 rfl 4
          exact ⟨_, rfl, (by omega), hI43, hf46⟩
        · refine k_run 0 (pc' := 101) (l' := [(0, .inr (.inr 361)), (1, .inl a), (2, .inl b)]) (st' := []) rfl ?_
          refine k_run 2 (pc' := 104) (l' := [(0, .inr (.inr 361)), (1, .inl a), (2, .inl b)]) (st' := [.inl 41, .inr (.inr 361)]) rfl ?_
          refine h_cv (i := 92) (j := 82) (b := 361) (M' := mt_82) (xs := [.inl 41]) (rest := []) rfl rfl rfl rfl (zs_K (x := kx_361) rfl (by decide)) rfl (Nat.le_of_ble_eq_true rfl) (Nat.le_of_ble_eq_true rfl) (by omega) (f_Reader_take (by omega) hI43 (by decide)) ?_
          rintro _ H50 ⟨z53, rfl, g49, hI51, hq52⟩
          have hf54 : fq [(361, 3), (361, 4), (361, 5), (361, 9)] [362] true H H50 := fq_t hf46 hq52 rfl rfl rfl
          refine k_run 0 (pc' := 107) (l' := [(0, .inr (.inr 361)), (1, .inl a), (2, .inl b)]) (st' := [.inl z53]) rfl ?_
          refine h_zeq (off := 7) (t := 114) rfl rfl (by omega) (fun c55 => ?_) (fun c55 => ?_)
          · refine k_run 0 (pc' := 114) (l' := [(0, .inr (.inr 361)), (1, .inl a), (2, .inl b)]) (st' := []) rfl ?_
            refine k_run 1 (pc' := 115) (l' := [(0, .inr (.inr 361)), (1, .inl a), (2, .inl b)]) (st' := [.inl 0]) rfl ?_
            refine h_retz (x := 0) rfl rfl (by decide) ?_
            have g56 : -2147483648 ≤ (H50.1 361 4) ∧ (H50.1 361 4) ≤ 2147483647 := kn (x := kx_361) hI51 rfl 4
            exact ⟨_, rfl, (by omega), hI51, hf54⟩
          · refine k_run 0 (pc' := 110) (l' := [(0, .inr (.inr 361)), (1, .inl a), (2, .inl b)]) (st' := []) rfl ?_
            refine k_run 2 (pc' := 115) (l' := [(0, .inr (.inr 361)), (1, .inl a), (2, .inl b)]) (st' := [.inl 1]) rfl ?_
            refine h_retz (x := 1) rfl rfl (by decide) ?_
            have g57 : -2147483648 ≤ (H50.1 361 4) ∧ (H50.1 361 4) ≤ 2147483647 := kn (x := kx_361) hI51 rfl 4
            exact ⟨_, rfl, (by omega), hI51, hf54⟩
      · refine k_run 0 (pc' := 84) (l' := [(0, .inr (.inr 361)), (1, .inl a), (2, .inl b)]) (st' := []) rfl ?_
        refine k_run 1 (pc' := 85) (l' := [(0, .inr (.inr 361)), (1, .inl a), (2, .inl b)]) (st' := [.inr (.inr 361)]) rfl ?_
        refine h_cv (i := 89) (j := 85) (b := 361) (M' := mt_85) (xs := []) (rest := []) rfl rfl rfl rfl (zs_K (x := kx_361) rfl (by decide)) rfl (Nat.le_of_ble_eq_true rfl) (Nat.le_of_ble_eq_true rfl) (by omega) (f_Reader_misplaced (by omega) hI31 ) ?_
        rintro _ H59 ⟨z62, rfl, g58, hI60, hq61⟩
        have hf63 : fq [(361, 3), (361, 4), (361, 5), (361, 9)] [362] true H H59 := fq_t hf34 hq61 rfl rfl rfl
        refine k_run 0 (pc' := 88) (l' := [(0, .inr (.inr 361)), (1, .inl a), (2, .inl b)]) (st' := [.inl z62]) rfl ?_
        refine h_retz (x := z62) rfl rfl (by omega) ?_
        have g64 : -2147483648 ≤ (H59.1 361 4) ∧ (H59.1 361 4) ≤ 2147483647 := kn (x := kx_361) hI60 rfl 4
        exact ⟨_, rfl, (by omega), hI60, hf63⟩
    · refine k_run 0 (pc' := 60) (l' := [(0, .inr (.inr 361)), (1, .inl a), (2, .inl b)]) (st' := []) rfl ?_
      refine k_run 2 (pc' := 62) (l' := [(0, .inr (.inr 361)), (1, .inl a), (2, .inl b)]) (st' := [.inl 5, .inr (.inr 361)]) rfl ?_
      refine h_cv (i := 128) (j := 86) (b := 361) (M' := mt_86) (xs := [.inl 5]) (rest := []) rfl rfl rfl rfl (zs_K (x := kx_361) rfl (by decide)) rfl (Nat.le_of_ble_eq_true rfl) (Nat.le_of_ble_eq_true rfl) (by omega) (f_Reader_fails (by omega) hI (by decide)) ?_
      rintro _ H66 ⟨z69, rfl, g65, hI67, hq68⟩
      have hf70 : fq [(361, 3), (361, 4), (361, 5), (361, 9)] [362] true H H66 := fq_t (fq_rf _ _ _ _) hq68 rfl rfl rfl
      refine k_run 0 (pc' := 65) (l' := [(0, .inr (.inr 361)), (1, .inl a), (2, .inl b)]) (st' := [.inl z69]) rfl ?_
      refine h_retz (x := z69) rfl rfl (by omega) ?_
      have g71 : -2147483648 ≤ (H66.1 361 4) ∧ (H66.1 361 4) ≤ 2147483647 := kn (x := kx_361) hI67 rfl 4
      exact ⟨_, rfl, (by omega), hI67, hf70⟩

theorem f_RP : ∀ m, RPc9 m := by
  intro m
  induction m using Nat.strongRecOn with
  | ind m hR =>
    have h4 : RPc9 m := fun hd _ hI _ _ ha hb hp => f_readP hd hI ha hb hp hR
    exact @h4
theorem f_Reader_readPattern {d : Nat} (hd : 30 ≤ d) {H : hp} (hI : Inv H) {a b : Int} (ha : -2147483648 ≤ a ∧ a ≤ 2147483647) (hb : -2147483648 ≤ b ∧ b ≤ 2147483647) (hp0 : -2 ≤ a ∧ a ≤ 100 ∧ 0 ≤ b ∧ b ≤ 10) : hG (zs zK) d mt_70 0 (zargs 0 [.inr (.inr 361), .inl a, .inl b]) [] H (fun r9 H9 => ∃ z : Int, r9 = some (.inl z) ∧ ((0 ≤ z ∧ z ≤ 1) ∧ (z = 0 ∨ H9.1 361 4 = H.1 361 4)) ∧ Inv H9 ∧ fq [(361, 3), (361, 4), (361, 5), (361, 9)] [362] true H H9) := f_RP 10 (by omega) hI ha hb (by omega)

/-! the class: texts are read -/
/-! Reader.readRule -/
set_option maxRecDepth 100000 in
theorem f_Reader_readRule_cut {d : Nat} (hd : 41 ≤ d) {H : hp} (hI : Inv H)   : ∀ w : Nat, (∀ (H1 : hp), Inv H1 → fq [(7, 5), (361, 3), (361, 4), (361, 5), (361, 6), (361, 7), (361, 8), (361, 9)] [362] true H H1 → ∀ (x1 : Int) (x2 : Int) (x3 : Int) (x4 : Int) , (-2147483648 ≤ x1 ∧ x1 ≤ 2147483647) → (-2147483648 ≤ x2 ∧ x2 ≤ 2147483647) → (-2147483648 ≤ x3 ∧ x3 ≤ 2147483647) → (-2147483648 ≤ x4 ∧ x4 ≤ 2147483647) → (0 ≤ x1 ∧ x1 < 16) → (x2 ≤ 4) → (0 ≤ x3 ∧ x3 ≤ 1) → (0 ≤ x4) → (H1.1 7 5 < 40) → ((x3 = 0 ∨ H1.1 361 4 = H.1 361 4)) → (((100 - x4).toNat) < w) → hG (zs zK) d mt_68 121 [(0, .inr (.inr 361)), (1, .inl x1), (2, .inl x2), (3, .inl x3), (4, .inl x4)] [] H1 (fun r9 H9 => ∃ z : Int, r9 = some (.inl z) ∧ ((0 ≤ z ∧ z ≤ 1) ∧ ((z = 0 ∨ H9.1 361 4 = H.1 361 4))) ∧ Inv H9 ∧ fq [(7, 5), (361, 3), (361, 4), (361, 5), (361, 6), (361, 7), (361, 8), (361, 9)] [362] true H H9)) := by
  intro w
  induction w with
  | zero => exact fun _ _ _ _ _ _ _ _ _ _ _ _ _ _ _ _ _ h => absurd h (Nat.not_lt_zero _)
  | succ w ih =>
    intro H1 hI1 hf1 x1 x2 x3 x4 hx1 hx2 hx3 hx4 hi0 hi1 hi2 hi3 hi4 hi5 hw
    have g89 : 0 ≤ (H1.1 7 5) ∧ (H1.1 7 5) ≤ 40 := kn (x := kx_7) hI1 rfl 5
    have g90 : -2147483648 ≤ (H1.1 361 4) ∧ (H1.1 361 4) ≤ 2147483647 := kn (x := kx_361) hI1 rfl 4
    refine k_run 1 (pc' := 122) (l' := [(0, .inr (.inr 361)), (1, .inl x1), (2, .inl x2), (3, .inl x3), (4, .inl x4)]) (st' := [.inl x3]) rfl ?_
    refine h_zeq (off := 34) (t := 156) rfl rfl (by omega) (fun c91 => ?_) (fun c91 => ?_)
    · refine k_run 0 (pc' := 156) (l' := [(0, .inr (.inr 361)), (1, .inl x1), (2, .inl x2), (3, .inl x3), (4, .inl x4)]) (st' := []) rfl ?_
      refine k_run 1 (pc' := 157) (l' := [(0, .inr (.inr 361)), (1, .inl x1), (2, .inl x2), (3, .inl x3), (4, .inl x4)]) (st' := [.inl x3]) rfl ?_
      refine h_zeq (off := 12) (t := 169) rfl rfl (by omega) (fun c92 => ?_) (fun c92 => ?_)
      · refine k_run 0 (pc' := 169) (l' := [(0, .inr (.inr 361)), (1, .inl x1), (2, .inl x2), (3, .inl x3), (4, .inl x4)]) (st' := []) rfl ?_
        refine k_run 1 (pc' := 170) (l' := [(0, .inr (.inr 361)), (1, .inl x1), (2, .inl x2), (3, .inl x3), (4, .inl x4)]) (st' := [.inl 0]) rfl ?_
        refine h_retz (x := 0) rfl rfl (by decide) ?_
        exact ⟨_, rfl, (by omega), hI1, hf1⟩
      · exfalso
        omega
    · refine k_run 0 (pc' := 125) (l' := [(0, .inr (.inr 361)), (1, .inl x1), (2, .inl x2), (3, .inl x3), (4, .inl x4)]) (st' := []) rfl ?_
      refine k_run 2 (pc' := 128) (l' := [(0, .inr (.inr 361)), (1, .inl x1), (2, .inl x2), (3, .inl x3), (4, .inl x4)]) (st' := [.inl x2, .inl x4]) rfl ?_
      refine h_ige (off := 28) (t := 156) rfl rfl (by omega) (by omega) (fun c93 => ?_) (fun c93 => ?_)
      · refine k_run 0 (pc' := 156) (l' := [(0, .inr (.inr 361)), (1, .inl x1), (2, .inl x2), (3, .inl x3), (4, .inl x4)]) (st' := []) rfl ?_
        refine k_run 1 (pc' := 157) (l' := [(0, .inr (.inr 361)), (1, .inl x1), (2, .inl x2), (3, .inl x3), (4, .inl x4)]) (st' := [.inl x3]) rfl ?_
        refine h_zeq (off := 12) (t := 169) rfl rfl (by omega) (fun c94 => ?_) (fun c94 => ?_)
        · exfalso
          omega
        · refine k_run 0 (pc' := 160) (l' := [(0, .inr (.inr 361)), (1, .inl x1), (2, .inl x2), (3, .inl x3), (4, .inl x4)]) (st' := []) rfl ?_
          refine k_run 2 (pc' := 163) (l' := [(0, .inr (.inr 361)), (1, .inl x1), (2, .inl x2), (3, .inl x3), (4, .inl x4)]) (st' := [.inl 61, .inr (.inr 361)]) rfl ?_
          refine h_cv (i := 92) (j := 82) (b := 361) (M' := mt_82) (xs := [.inl 61]) (rest := []) rfl rfl rfl rfl (zs_K (x := kx_361) rfl (by decide)) rfl (Nat.le_of_ble_eq_true rfl) (Nat.le_of_ble_eq_true rfl) (by omega) (f_Reader_take (by omega) hI1 (by decide)) ?_
          rintro _ H96 ⟨z99, rfl, g95, hI97, hq98⟩
          have hf100 : fq [(7, 5), (361, 3), (361, 4), (361, 5), (361, 6), (361, 7), (361, 8), (361, 9)] [362] true H H96 := fq_t hf1 hq98 rfl rfl rfl
          refine k_run 0 (pc' := 166) (l' := [(0, .inr (.inr 361)), (1, .inl x1), (2, .inl x2), (3, .inl x3), (4, .inl x4)]) (st' := [.inl z99]) rfl ?_
          refine h_zne (off := 5) (t := 171) rfl rfl (by omega) (fun c101 => ?_) (fun c101 => ?_)
          · refine k_run 0 (pc' := 171) (l' := [(0, .inr (.inr 361)), (1, .inl x1), (2, .inl x2), (3, .inl x3), (4, .inl x4)]) (st' := []) rfl ?_
            refine k_run 2 (pc' := 173) (l' := [(0, .inr (.inr 361)), (1, .inl x1), (2, .inl x2), (3, .inl x3), (4, .inl x4)]) (st' := [.inr (.inr 361), .inr (.inr 361)]) rfl ?_
            refine k_getr (a := 361) (x := kx_361) rfl rfl rfl (by decide) rfl rfl rfl hI97 (fun h102 => ?_)
            obtain ⟨t103, et105⟩ : ∃ t9, t9 = H96.2 361 7 := ⟨_, rfl⟩
            rw [← et105] at h102 ⊢
            have k104 : isE t103 := h102
            refine k_run 0 (pc' := 176) (l' := [(0, .inr (.inr 361)), (1, .inl x1), (2, .inl x2), (3, .inl x3), (4, .inl x4)]) (st' := [.inr (.inr t103), .inr (.inr 361)]) rfl ?_
            refine k_get (a := t103) (x := (kEo t103)) (v := .inr (.inr (t103 + 3))) rfl rfl k104.1 (iE0 k104) rfl rfl rfl ?_
            refine k_run 0 (pc' := 179) (l' := [(0, .inr (.inr 361)), (1, .inl x1), (2, .inl x2), (3, .inl x3), (4, .inl x4)]) (st' := [.inr (.inr (t103 + 3)), .inr (.inr 361)]) rfl ?_
            refine h_cv (i := 105) (j := 81) (b := 361) (M' := mt_81) (xs := [.inr (.inr (t103 + 3))]) (rest := []) rfl rfl rfl rfl (zs_K (x := kx_361) rfl (by decide)) rfl (Nat.le_of_ble_eq_true rfl) (Nat.le_of_ble_eq_true rfl) (by omega) (f_Reader_startTerm (by omega) hI97 (iEr k104)) ?_
            rintro _ H107 ⟨rfl, g106, hI108, hq109⟩
            have hf110 : fq [(7, 5), (361, 3), (361, 4), (361, 5), (361, 6), (361, 7), (361, 8), (361, 9)] [362] true H H107 := fq_t hf100 hq109 rfl rfl rfl
            refine k_run 0 (pc' := 182) (l' := [(0, .inr (.inr 361)), (1, .inl x1), (2, .inl x2), (3, .inl x3), (4, .inl x4)]) (st' := []) rfl ?_
            refine k_run 6 (pc' := 194) (l' := [(0, .inr (.inr 361)), (1, .inl x1), (2, .inl x2), (3, .inl x3), (4, .inl x4)]) (st' := [.inl x1, .inr (.inr 20), .inr (.inr 361)]) rfl ?_
            refine k_ild (c := 20) (j := (x1).toNat) (i := x1) (x := kx_20) rfl rfl (by decide) rfl (by decide) (by omega) (by omega) ?_
            have g111 : -2 ≤ (H107.1 20 (x1).toNat) ∧ (H107.1 20 (x1).toNat) ≤ 100 := kn (x := kx_20) hI108 rfl (x1).toNat
            have e112 : (H107.1 20 (x1).toNat) = (H96.1 20 (x1).toNat) := (hq109.1 20 (x1).toNat rfl (by decide) (fun q => by simp at q)).1
            have e113 : (H96.1 20 (x1).toNat) = (H1.1 20 (x1).toNat) := (hq98.1 20 (x1).toNat rfl (by decide) (fun q => by simp at q)).1
            have e114 : (H1.1 20 (x1).toNat) = (H.1 20 (x1).toNat) := (hf1.1 20 (x1).toNat rfl (by decide) (fun q => by simp at q)).1
            refine k_run 0 (pc' := 195) (l' := [(0, .inr (.inr 361)), (1, .inl x1), (2, .inl x2), (3, .inl x3), (4, .inl x4)]) (st' := [.inl (H107.1 20 (x1).toNat), .inr (.inr 361)]) rfl ?_
            refine k_run 2 (pc' := 197) (l' := [(0, .inr (.inr 361)), (1, .inl x1), (2, .inl x2), (3, .inl x3), (4, .inl x4)]) (st' := [.inl 0, .inl 0, .inl (H107.1 20 (x1).toNat), .inr (.inr 361)]) rfl ?_
            refine h_cv (i := 109) (j := 73) (b := 361) (M' := mt_73) (xs := [.inl 0, .inl 0, .inl (H107.1 20 (x1).toNat)]) (rest := []) rfl rfl rfl rfl (zs_K (x := kx_361) rfl (by decide)) rfl (Nat.le_of_ble_eq_true rfl) (Nat.le_of_ble_eq_true rfl) (by omega) (f_Reader_readTerm (by omega) hI108 (by omega) (by decide) (by decide) (by omega)) ?_
            rintro _ H116 ⟨z119, rfl, g115, hI117, hq118⟩
            have hf120 : fq [(7, 5), (361, 3), (361, 4), (361, 5), (361, 6), (361, 7), (361, 8), (361, 9)] [362] true H H116 := fq_t hf110 hq118 rfl rfl rfl
            refine k_run 0 (pc' := 200) (l' := [(0, .inr (.inr 361)), (1, .inl x1), (2, .inl x2), (3, .inl x3), (4, .inl x4)]) (st' := [.inl z119]) rfl ?_
            refine h_zne (off := 5) (t := 205) rfl rfl (by omega) (fun c121 => ?_) (fun c121 => ?_)
            · refine k_run 0 (pc' := 205) (l' := [(0, .inr (.inr 361)), (1, .inl x1), (2, .inl x2), (3, .inl x3), (4, .inl x4)]) (st' := []) rfl ?_
              refine k_run 1 (pc' := 206) (l' := [(0, .inr (.inr 361)), (1, .inl x1), (2, .inl x2), (3, .inl x3), (4, .inl x4)]) (st' := [.inr (.inr 361)]) rfl ?_
              refine k_getr (a := 361) (x := kx_361) rfl rfl rfl (by decide) rfl rfl rfl hI117 (fun h122 => ?_)
              obtain ⟨t123, et125⟩ : ∃ t9, t9 = H116.2 361 7 := ⟨_, rfl⟩
              rw [← et125] at h122 ⊢
              have k124 : isE t123 := h122
              refine k_run 0 (pc' := 209) (l' := [(0, .inr (.inr 361)), (1, .inl x1), (2, .inl x2), (3, .inl x3), (4, .inl x4)]) (st' := [.inr (.inr t123)]) rfl ?_
              refine k_run 2 (pc' := 213) (l' := [(0, .inr (.inr 361)), (1, .inl x1), (2, .inl x2), (3, .inl x3), (4, .inl x4)]) (st' := [.inl (H116.1 361 9), .inr (.inr t123)]) rfl ?_
              have g126 : 0 ≤ (H116.1 361 9) ∧ (H116.1 361 9) ≤ 40 := kn (x := kx_361) hI117 rfl 9
              refine k_puti (z := (H116.1 361 9)) (a := t123) (x := (kEo t123)) rfl rfl k124.1 (iE0 k124) k124.2.2.2.2.1 rfl rfl rfl rfl hI117 (by omega) (show 0 ≤ (H116.1 361 9) ∧ (H116.1 361 9) ≤ 40 by omega) (fun H127 hI128 hw129 hv130 => ?_)
              have hf131 : fq [(7, 5), (361, 3), (361, 4), (361, 5), (361, 6), (361, 7), (361, 8), (361, 9)] [362] true H H127 := fq_w hf120 hw129 (fpg (iEf k124))
              refine k_run 0 (pc' := 216) (l' := [(0, .inr (.inr 361)), (1, .inl x1), (2, .inl x2), (3, .inl x3), (4, .inl x4)]) (st' := []) rfl ?_
              refine k_run 4 (pc' := 224) (l' := [(0, .inr (.inr 361)), (1, .inl x1), (2, .inl x2), (3, .inl x3), (4, .inl x4)]) (st' := [.inl (H127.1 7 5), .inr (.inr 7)]) rfl ?_
              have g132 : 0 ≤ (H127.1 7 5) ∧ (H127.1 7 5) ≤ 40 := kn (x := kx_7) hI128 rfl 5
              have e133 : (H127.1 7 5) = (H116.1 7 5) := hw129.2 _ _ (fun q => by have h9 := (iEf k124); rw [← q.1] at h9; exact absurd h9 (by decide))
              have e134 : (H116.1 7 5) = (H107.1 7 5) := (hq118.1 7 5 rfl (by decide) (by decide)).1
              have e135 : (H107.1 7 5) = (H96.1 7 5) := (hq109.1 7 5 rfl (by decide) (by decide)).1
              have e136 : (H96.1 7 5) = (H1.1 7 5) := (hq98.1 7 5 rfl (by decide) (by decide)).1
              refine k_run 2 (pc' := 226) (l' := [(0, .inr (.inr 361)), (1, .inl x1), (2, .inl x2), (3, .inl x3), (4, .inl x4)]) (st' := [.inl ((H127.1 7 5) + 1), .inr (.inr 7)]) rfl ?_
              refine k_puti (z := ((H127.1 7 5) + 1)) (a := 7) (x := kx_7) rfl rfl rfl (by decide) (by decide) rfl rfl rfl rfl hI128 (by omega) (show 0 ≤ ((H127.1 7 5) + 1) ∧ ((H127.1 7 5) + 1) ≤ 40 by omega) (fun H137 hI138 hw139 hv140 => ?_)
              have hf141 : fq [(7, 5), (361, 3), (361, 4), (361, 5), (361, 6), (361, 7), (361, 8), (361, 9)] [362] true H H137 := fq_w hf131 hw139 (fpo (by decide) rfl)
              refine k_run 0 (pc' := 229) (l' := [(0, .inr (.inr 361)), (1, .inl x1), (2, .inl x2), (3, .inl x3), (4, .inl x4)]) (st' := []) rfl ?_
              refine k_run 1 (pc' := 230) (l' := [(0, .inr (.inr 361)), (1, .inl x1), (2, .inl x2), (3, .inl x3), (4, .inl x4)]) (st' := [.inl 1]) rfl ?_
              refine h_retz (x := 1) rfl rfl (by decide) ?_
              have g142 : -2147483648 ≤ (H137.1 361 4) ∧ (H137.1 361 4) ≤ 2147483647 := kn (x := kx_361) hI138 rfl 4
              have e143 : (H137.1 361 4) = (H127.1 361 4) := hw139.2 _ _ (fun q => absurd q.1 (by decide))
              have e144 : (H127.1 361 4) = (H116.1 361 4) := hw129.2 _ _ (fun q => by have h9 := (iEf k124); rw [← q.1] at h9; exact absurd h9 (by decide))
              exact ⟨_, rfl, (by omega), hI138, hf141⟩
            · refine k_run 0 (pc' := 203) (l' := [(0, .inr (.inr 361)), (1, .inl x1), (2, .inl x2), (3, .inl x3), (4, .inl x4)]) (st' := []) rfl ?_
              refine k_run 1 (pc' := 204) (l' := [(0, .inr (.inr 361)), (1, .inl x1), (2, .inl x2), (3, .inl x3), (4, .inl x4)]) (st' := [.inl 0]) rfl ?_
              refine h_retz (x := 0) rfl rfl (by decide) ?_
              have g145 : -2147483648 ≤ (H116.1 361 4) ∧ (H116.1 361 4) ≤ 2147483647 := kn (x := kx_361) hI117 rfl 4
              exact ⟨_, rfl, (by omega), hI117, hf120⟩
          · refine k_run 0 (pc' := 169) (l' := [(0, .inr (.inr 361)), (1, .inl x1), (2, .inl x2), (3, .inl x3), (4, .inl x4)]) (st' := []) rfl ?_
            refine k_run 1 (pc' := 170) (l' := [(0, .inr (.inr 361)), (1, .inl x1), (2, .inl x2), (3, .inl x3), (4, .inl x4)]) (st' := [.inl 0]) rfl ?_
            refine h_retz (x := 0) rfl rfl (by decide) ?_
            have g146 : -2147483648 ≤ (H96.1 361 4) ∧ (H96.1 361 4) ≤ 2147483647 := kn (x := kx_361) hI97 rfl 4
            exact ⟨_, rfl, (by omega), hI97, hf100⟩
      · refine k_run 0 (pc' := 131) (l' := [(0, .inr (.inr 361)), (1, .inl x1), (2, .inl x2), (3, .inl x3), (4, .inl x4)]) (st' := []) rfl ?_
        refine k_run 6 (pc' := 142) (l' := [(0, .inr (.inr 361)), (1, .inl x1), (2, .inl x2), (3, .inl x3), (4, .inl x4)]) (st' := [.inl x4, .inl x1, .inr (.inr 18), .inr (.inr 361)]) rfl ?_
        refine h_cv (i := 160) (j := 45) (b := 18) (M' := mt_45) (xs := [.inl x4, .inl x1]) (rest := [.inr (.inr 361)]) rfl rfl rfl rfl (zs_K (x := kx_18) rfl (by decide)) rfl (Nat.le_of_ble_eq_true rfl) (Nat.le_of_ble_eq_true rfl) (by omega) (k_Symbols_argument_18 (by omega) hI1 (by omega) (by omega) (by omega)) ?_
        rintro _ _ ⟨z151, rfl, g147, rfl⟩
        refine k_run 0 (pc' := 145) (l' := [(0, .inr (.inr 361)), (1, .inl x1), (2, .inl x2), (3, .inl x3), (4, .inl x4)]) (st' := [.inl z151, .inr (.inr 361)]) rfl ?_
        refine k_run 1 (pc' := 146) (l' := [(0, .inr (.inr 361)), (1, .inl x1), (2, .inl x2), (3, .inl x3), (4, .inl x4)]) (st' := [.inl 0, .inl z151, .inr (.inr 361)]) rfl ?_
        refine h_cv (i := 164) (j := 70) (b := 361) (M' := mt_70) (xs := [.inl 0, .inl z151]) (rest := []) rfl rfl rfl rfl (zs_K (x := kx_361) rfl (by decide)) rfl (Nat.le_of_ble_eq_true rfl) (Nat.le_of_ble_eq_true rfl) (by omega) (f_Reader_readPattern (by omega) hI1 (by omega) (by decide) (by omega)) ?_
        rintro _ H153 ⟨z156, rfl, g152, hI154, hq155⟩
        have hf157 : fq [(7, 5), (361, 3), (361, 4), (361, 5), (361, 6), (361, 7), (361, 8), (361, 9)] [362] true H H153 := fq_t hf1 hq155 rfl rfl rfl
        refine k_run 0 (pc' := 149) (l' := [(0, .inr (.inr 361)), (1, .inl x1), (2, .inl x2), (3, .inl x3), (4, .inl x4)]) (st' := [.inl z156]) rfl ?_
        refine k_run 3 (pc' := 121) (l' := [(0, .inr (.inr 361)), (1, .inl x1), (2, .inl x2), (3, .inl z156), (4, .inl (x4 + 1))]) (st' := []) rfl ?_
        have g158 : 0 ≤ (H153.1 7 5) ∧ (H153.1 7 5) ≤ 40 := kn (x := kx_7) hI154 rfl 5
        have e159 : (H153.1 7 5) = (H1.1 7 5) := (hq155.1 7 5 rfl (by decide) (by decide)).1
        have g160 : -2147483648 ≤ (H153.1 361 4) ∧ (H153.1 361 4) ≤ 2147483647 := kn (x := kx_361) hI154 rfl 4
        exact ih H153 hI154 hf157 x1 x2 z156 (x4 + 1) (by omega) (by omega) (by omega) (by omega) (by omega) (by omega) (by omega) (by omega) (by omega) (by omega) (by omega)
set_option maxRecDepth 100000 in
theorem f_Reader_readRule {d : Nat} (hd : 41 ≤ d) {H : hp} (hI : Inv H)   : hG (zs zK) d mt_68 0 (zargs 0 [.inr (.inr 361)]) [] H (fun r9 H9 => ∃ z : Int, r9 = some (.inl z) ∧ ((0 ≤ z ∧ z ≤ 1) ∧ ((z = 0 ∨ H9.1 361 4 = H.1 361 4))) ∧ Inv H9 ∧ fq [(7, 5), (361, 3), (361, 4), (361, 5), (361, 6), (361, 7), (361, 8), (361, 9)] [362] true H H9) := by
  refine k_run 0 (pc' := 0) (l' := [(0, .inr (.inr 361))]) (st' := []) rfl ?_
  refine k_run 3 (pc' := 7) (l' := [(0, .inr (.inr 361))]) (st' := [.inl (H.1 7 5)]) rfl ?_
  have g1 : 0 ≤ (H.1 7 5) ∧ (H.1 7 5) ≤ 40 := kn (x := kx_7) hI rfl 5
  refine k_run 1 (pc' := 9) (l' := [(0, .inr (.inr 361))]) (st' := [.inl 40, .inl (H.1 7 5)]) rfl ?_
  refine h_ilt (off := 9) (t := 18) rfl rfl (by omega) (by decide) (fun c2 => ?_) (fun c2 => ?_)
  · refine k_run 0 (pc' := 18) (l' := [(0, .inr (.inr 361))]) (st' := []) rfl ?_
    refine k_run 3 (pc' := 23) (l' := [(0, .inr (.inr 361))]) (st' := [.inl (H.1 361 3), .inr (.inr 361)]) rfl ?_
    have g3 : -2147483648 ≤ (H.1 361 3) ∧ (H.1 361 3) ≤ 2147483647 := kn (x := kx_361) hI rfl 3
    refine k_run 2 (pc' := 25) (l' := [(0, .inr (.inr 361))]) (st' := [.inl ((H.1 361 3) + 1), .inr (.inr 361)]) rfl ?_
    refine k_putw (a := 361) (x := kx_361) rfl rfl rfl (by decide) (by decide) rfl rfl rfl rfl hI rfl (fun H4 hI5 hw6 => ?_)
    have hf8 : fq [(7, 5), (361, 3), (361, 4), (361, 5), (361, 6), (361, 7), (361, 8), (361, 9)] [362] true H H4 := fq_w (fq_rf _ _ _ _) hw6 (fpo (by decide) rfl)
    refine k_run 0 (pc' := 28) (l' := [(0, .inr (.inr 361))]) (st' := []) rfl ?_
    refine k_run 1 (pc' := 29) (l' := [(0, .inr (.inr 361))]) (st' := [.inr (.inr 361)]) rfl ?_
    refine h_cv (i := 72) (j := 83) (b := 361) (M' := mt_83) (xs := []) (rest := []) rfl rfl rfl rfl (zs_K (x := kx_361) rfl (by decide)) rfl (Nat.le_of_ble_eq_true rfl) (Nat.le_of_ble_eq_true rfl) (by omega) (f_Reader_token (by omega) hI5 ) ?_
    rintro _ _ ⟨z13, rfl, g9, rfl⟩
    refine k_run 0 (pc' := 32) (l' := [(0, .inr (.inr 361))]) (st' := [.inl z13]) rfl ?_
    refine k_run 1 (pc' := 33) (l' := [(0, .inr (.inr 361))]) (st' := [.inl 2, .inl z13]) rfl ?_
    refine h_ieq (off := 8) (t := 41) rfl rfl (by omega) (by decide) (fun c14 => ?_) (fun c14 => ?_)
    · refine k_run 0 (pc' := 41) (l' := [(0, .inr (.inr 361))]) (st' := []) rfl ?_
      refine k_run 4 (pc' := 49) (l' := [(0, .inr (.inr 361))]) (st' := [.inr (.inr 361), .inr (.inr 18)]) rfl ?_
      refine h_cv (i := 120) (j := 84) (b := 361) (M' := mt_84) (xs := []) (rest := [.inr (.inr 18)]) rfl rfl rfl rfl (zs_K (x := kx_361) rfl (by decide)) rfl (Nat.le_of_ble_eq_true rfl) (Nat.le_of_ble_eq_true rfl) (by omega) (f_Reader_name (by omega) hI5 ) ?_
      rintro _ _ ⟨z19, rfl, g15, rfl⟩
      refine k_run 0 (pc' := 52) (l' := [(0, .inr (.inr 361))]) (st' := [.inr (.inl z19), .inr (.inr 18)]) rfl ?_
      have g20 : 0 ≤ (H4.1 18 4) ∧ (H4.1 18 4) ≤ 16 := kn (x := kx_18) hI5 rfl 4
      have e21 : (H4.1 18 4) = (H.1 18 4) := hw6.2 _ _ (fun q => absurd q.1 (by decide))
      refine h_cv (i := 124) (j := 41) (b := 18) (M' := mt_41) (xs := [.inr (.inl z19)]) (rest := []) rfl rfl rfl rfl (zs_K (x := kx_18) rfl (by decide)) rfl (Nat.le_of_ble_eq_true rfl) (Nat.le_of_ble_eq_true rfl) (by omega) (k_Symbols_find_18 (by omega) hI5 ) ?_
      rintro _ _ ⟨z26, rfl, g22, rfl⟩
      refine k_run 0 (pc' := 55) (l' := [(0, .inr (.inr 361))]) (st' := [.inl z26]) rfl ?_
      refine k_run 2 (pc' := 57) (l' := [(0, .inr (.inr 361)), (1, .inl z26)]) (st' := [.inl z26]) rfl ?_
      refine h_zge (off := 9) (t := 66) rfl rfl (by omega) (fun c27 => ?_) (fun c27 => ?_)
      · refine k_run 0 (pc' := 66) (l' := [(0, .inr (.inr 361)), (1, .inl z26)]) (st' := []) rfl ?_
        refine k_run 7 (pc' := 81) (l' := [(0, .inr (.inr 361)), (1, .inl z26)]) (st' := [.inl (H4.1 7 5), .inr (.inr 23), .inr (.inr 361)]) rfl ?_
        have g28 : 0 ≤ (H4.1 7 5) ∧ (H4.1 7 5) ≤ 40 := kn (x := kx_7) hI5 rfl 5
        have e29 : (H4.1 7 5) = (H.1 7 5) := hw6.2 _ _ (fun q => absurd q.1 (by decide))
        refine k_ald (c := 23) (j := ((H4.1 7 5)).toNat) (i := (H4.1 7 5)) (x := kx_23) rfl rfl (by decide) rfl (by decide) (by omega) (by omega) hI5 (fun h30 => ?_)
        obtain ⟨t31, et33⟩ : ∃ t9, t9 = H4.2 23 ((H4.1 7 5)).toNat := ⟨_, rfl⟩
        rw [← et33] at h30 ⊢
        have k32 : isE t31 := h30
        refine k_run 0 (pc' := 82) (l' := [(0, .inr (.inr 361)), (1, .inl z26)]) (st' := [.inr (.inr t31), .inr (.inr 361)]) rfl ?_
        refine k_run 1 (pc' := 83) (l' := [(0, .inr (.inr 361)), (1, .inl z26)]) (st' := [.inl 0, .inr (.inr t31), .inr (.inr 361)]) rfl ?_
        refine h_cv (i := 141) (j := 80) (b := 361) (M' := mt_80) (xs := [.inl 0, .inr (.inr t31)]) (rest := []) rfl rfl rfl rfl (zs_K (x := kx_361) rfl (by decide)) rfl (Nat.le_of_ble_eq_true rfl) (Nat.le_of_ble_eq_true rfl) (by omega) (f_Reader_startEquation (by omega) hI5 k32 (by decide)) ?_
        rintro _ H35 ⟨rfl, g34, hI36, hq37⟩
        have hf38 : fq [(7, 5), (361, 3), (361, 4), (361, 5), (361, 6), (361, 7), (361, 8), (361, 9)] [362] true H H35 := fq_t hf8 hq37 rfl rfl rfl
        refine k_run 0 (pc' := 86) (l' := [(0, .inr (.inr 361)), (1, .inl z26)]) (st' := []) rfl ?_
        refine k_run 1 (pc' := 87) (l' := [(0, .inr (.inr 361)), (1, .inl z26)]) (st' := [.inr (.inr 361)]) rfl ?_
        refine k_getr (a := 361) (x := kx_361) rfl rfl rfl (by decide) rfl rfl rfl hI36 (fun h39 => ?_)
        obtain ⟨t40, et42⟩ : ∃ t9, t9 = H35.2 361 7 := ⟨_, rfl⟩
        rw [← et42] at h39 ⊢
        have k41 : isE t40 := h39
        refine k_run 0 (pc' := 90) (l' := [(0, .inr (.inr 361)), (1, .inl z26)]) (st' := [.inr (.inr t40)]) rfl ?_
        refine k_run 1 (pc' := 91) (l' := [(0, .inr (.inr 361)), (1, .inl z26)]) (st' := [.inl z26, .inr (.inr t40)]) rfl ?_
        refine k_putw (a := t40) (x := (kEo t40)) rfl rfl k41.1 (iE0 k41) k41.2.2.2.2.1 rfl rfl rfl rfl hI36 rfl (fun H43 hI44 hw45 => ?_)
        have hf47 : fq [(7, 5), (361, 3), (361, 4), (361, 5), (361, 6), (361, 7), (361, 8), (361, 9)] [362] true H H43 := fq_w hf38 hw45 (fpg (iEf k41))
        refine k_run 0 (pc' := 94) (l' := [(0, .inr (.inr 361)), (1, .inl z26)]) (st' := []) rfl ?_
        refine k_run 5 (pc' := 105) (l' := [(0, .inr (.inr 361)), (1, .inl z26)]) (st' := [.inl z26, .inr (.inr 21)]) rfl ?_
        refine k_ild (c := 21) (j := (z26).toNat) (i := z26) (x := kx_21) rfl rfl (by decide) rfl (by decide) (by omega) (by omega) ?_
        have g48 : 0 ≤ (H43.1 21 (z26).toNat) ∧ (H43.1 21 (z26).toNat) ≤ 4 := kn (x := kx_21) hI44 rfl (z26).toNat
        have e49 : (H43.1 21 (z26).toNat) = (H35.1 21 (z26).toNat) := hw45.2 _ _ (fun q => by have h9 := (iEf k41); rw [← q.1] at h9; exact absurd h9 (by decide))
        have e50 : (H35.1 21 (z26).toNat) = (H4.1 21 (z26).toNat) := (hq37.1 21 (z26).toNat rfl (by decide) (fun q => by simp at q)).1
        have e51 : (H4.1 21 (z26).toNat) = (H.1 21 (z26).toNat) := hw6.2 _ _ (fun q => absurd q.1 (by decide))
        refine k_run 0 (pc' := 106) (l' := [(0, .inr (.inr 361)), (1, .inl z26)]) (st' := [.inl (H43.1 21 (z26).toNat)]) rfl ?_
        refine k_run 5 (pc' := 111) (l' := [(0, .inr (.inr 361)), (1, .inl z26), (2, .inl (H43.1 21 (z26).toNat))]) (st' := [.inl (H43.1 21 (z26).toNat), .inl z26, .inl 2, .inr (.inr 361)]) rfl ?_
        refine h_cs (i := 153) (j := 48) (M' := mt_48) (xs := [.inl (H43.1 21 (z26).toNat), .inl z26, .inl 2]) (rest := [.inr (.inr 361)]) rfl rfl rfl rfl rfl (Nat.le_of_ble_eq_true rfl) (Nat.le_of_ble_eq_true rfl) (by omega) (k_Term_codeOf (by omega)  (by decide) (by omega) (by omega)) ?_
        rintro _ _ ⟨z56, rfl, g52, rfl⟩
        refine k_run 0 (pc' := 114) (l' := [(0, .inr (.inr 361)), (1, .inl z26), (2, .inl (H43.1 21 (z26).toNat))]) (st' := [.inl z56, .inr (.inr 361)]) rfl ?_
        refine h_cv (i := 157) (j := 77) (b := 361) (M' := mt_77) (xs := [.inl z56]) (rest := []) rfl rfl rfl rfl (zs_K (x := kx_361) rfl (by decide)) rfl (Nat.le_of_ble_eq_true rfl) (Nat.le_of_ble_eq_true rfl) (by omega) (f_Reader_addName (by omega) hI44 (by omega)) ?_
        rintro _ H58 ⟨z61, rfl, g57, hI59, hq60⟩
        have hf62 : fq [(7, 5), (361, 3), (361, 4), (361, 5), (361, 6), (361, 7), (361, 8), (361, 9)] [362] true H H58 := fq_t hf47 hq60 rfl rfl rfl
        refine k_run 0 (pc' := 117) (l' := [(0, .inr (.inr 361)), (1, .inl z26), (2, .inl (H43.1 21 (z26).toNat))]) (st' := [.inl z61]) rfl ?_
        refine k_run 3 (pc' := 121) (l' := [(0, .inr (.inr 361)), (1, .inl z26), (2, .inl (H43.1 21 (z26).toNat)), (3, .inl z61), (4, .inl 0)]) (st' := []) rfl ?_
        have g63 : 0 ≤ (H58.1 7 5) ∧ (H58.1 7 5) ≤ 40 := kn (x := kx_7) hI59 rfl 5
        have e64 : (H58.1 7 5) = (H43.1 7 5) := (hq60.1 7 5 rfl (by decide) (by decide)).1
        have e65 : (H43.1 7 5) = (H35.1 7 5) := hw45.2 _ _ (fun q => by have h9 := (iEf k41); rw [← q.1] at h9; exact absurd h9 (by decide))
        have e66 : (H35.1 7 5) = (H4.1 7 5) := (hq37.1 7 5 rfl (by decide) (by decide)).1
        have g67 : -2147483648 ≤ (H58.1 361 4) ∧ (H58.1 361 4) ≤ 2147483647 := kn (x := kx_361) hI59 rfl 4
        exact (f_Reader_readRule_cut hd hI  _) H58 hI59 hf62 z26 (H43.1 21 (z26).toNat) z61 (0 : Int) (by omega) (by omega) (by omega) (by decide) (by omega) (by omega) (by omega) (by omega) (by omega) (by omega) (Nat.lt_succ_self _)
      · refine k_run 0 (pc' := 60) (l' := [(0, .inr (.inr 361)), (1, .inl z26)]) (st' := []) rfl ?_
        refine k_run 2 (pc' := 62) (l' := [(0, .inr (.inr 361)), (1, .inl z26)]) (st' := [.inl 3, .inr (.inr 361)]) rfl ?_
        refine h_cv (i := 128) (j := 86) (b := 361) (M' := mt_86) (xs := [.inl 3]) (rest := []) rfl rfl rfl rfl (zs_K (x := kx_361) rfl (by decide)) rfl (Nat.le_of_ble_eq_true rfl) (Nat.le_of_ble_eq_true rfl) (by omega) (f_Reader_fails (by omega) hI5 (by decide)) ?_
        rintro _ H69 ⟨z72, rfl, g68, hI70, hq71⟩
        have hf73 : fq [(7, 5), (361, 3), (361, 4), (361, 5), (361, 6), (361, 7), (361, 8), (361, 9)] [362] true H H69 := fq_t hf8 hq71 rfl rfl rfl
        refine k_run 0 (pc' := 65) (l' := [(0, .inr (.inr 361)), (1, .inl z26)]) (st' := [.inl z72]) rfl ?_
        refine h_retz (x := z72) rfl rfl (by omega) ?_
        have g74 : -2147483648 ≤ (H69.1 361 4) ∧ (H69.1 361 4) ≤ 2147483647 := kn (x := kx_361) hI70 rfl 4
        exact ⟨_, rfl, (by omega), hI70, hf73⟩
    · refine k_run 0 (pc' := 36) (l' := [(0, .inr (.inr 361))]) (st' := []) rfl ?_
      refine k_run 1 (pc' := 37) (l' := [(0, .inr (.inr 361))]) (st' := [.inr (.inr 361)]) rfl ?_
      refine h_cv (i := 89) (j := 85) (b := 361) (M' := mt_85) (xs := []) (rest := []) rfl rfl rfl rfl (zs_K (x := kx_361) rfl (by decide)) rfl (Nat.le_of_ble_eq_true rfl) (Nat.le_of_ble_eq_true rfl) (by omega) (f_Reader_misplaced (by omega) hI5 ) ?_
      rintro _ H76 ⟨z79, rfl, g75, hI77, hq78⟩
      have hf80 : fq [(7, 5), (361, 3), (361, 4), (361, 5), (361, 6), (361, 7), (361, 8), (361, 9)] [362] true H H76 := fq_t hf8 hq78 rfl rfl rfl
      refine k_run 0 (pc' := 40) (l' := [(0, .inr (.inr 361))]) (st' := [.inl z79]) rfl ?_
      refine h_retz (x := z79) rfl rfl (by omega) ?_
      have g81 : -2147483648 ≤ (H76.1 361 4) ∧ (H76.1 361 4) ≤ 2147483647 := kn (x := kx_361) hI77 rfl 4
      exact ⟨_, rfl, (by omega), hI77, hf80⟩
  · refine k_run 0 (pc' := 12) (l' := [(0, .inr (.inr 361))]) (st' := []) rfl ?_
    refine k_run 2 (pc' := 14) (l' := [(0, .inr (.inr 361))]) (st' := [.inl 5, .inr (.inr 361)]) rfl ?_
    refine h_cv (i := 128) (j := 86) (b := 361) (M' := mt_86) (xs := [.inl 5]) (rest := []) rfl rfl rfl rfl (zs_K (x := kx_361) rfl (by decide)) rfl (Nat.le_of_ble_eq_true rfl) (Nat.le_of_ble_eq_true rfl) (by omega) (f_Reader_fails (by omega) hI (by decide)) ?_
    rintro _ H83 ⟨z86, rfl, g82, hI84, hq85⟩
    have hf87 : fq [(7, 5), (361, 3), (361, 4), (361, 5), (361, 6), (361, 7), (361, 8), (361, 9)] [362] true H H83 := fq_t (fq_rf _ _ _ _) hq85 rfl rfl rfl
    refine k_run 0 (pc' := 17) (l' := [(0, .inr (.inr 361))]) (st' := [.inl z86]) rfl ?_
    refine h_retz (x := z86) rfl rfl (by omega) ?_
    have g88 : -2147483648 ≤ (H83.1 361 4) ∧ (H83.1 361 4) ≤ 2147483647 := kn (x := kx_361) hI84 rfl 4
    exact ⟨_, rfl, (by omega), hI84, hf87⟩

/-! Reader.readLaw -/
set_option maxRecDepth 100000 in
theorem f_Reader_readLaw {d : Nat} (hd : 41 ≤ d) {H : hp} (hI : Inv H)   : hG (zs zK) d mt_69 0 (zargs 0 [.inr (.inr 361)]) [] H (fun r9 H9 => ∃ z : Int, r9 = some (.inl z) ∧ ((0 ≤ z ∧ z ≤ 1) ∧ (((z = 0 ∨ H9.1 361 4 = H.1 361 4)) ∧ (z = 0 ∨ H9.1 7 6 < 16))) ∧ Inv H9 ∧ fq [(361, 3), (361, 4), (361, 5), (361, 6), (361, 7), (361, 8), (361, 9)] [362] true H H9) := by
  refine k_run 0 (pc' := 0) (l' := [(0, .inr (.inr 361))]) (st' := []) rfl ?_
  refine k_run 3 (pc' := 5) (l' := [(0, .inr (.inr 361))]) (st' := [.inl (H.1 361 3), .inr (.inr 361)]) rfl ?_
  have g1 : -2147483648 ≤ (H.1 361 3) ∧ (H.1 361 3) ≤ 2147483647 := kn (x := kx_361) hI rfl 3
  refine k_run 2 (pc' := 7) (l' := [(0, .inr (.inr 361))]) (st' := [.inl ((H.1 361 3) + 1), .inr (.inr 361)]) rfl ?_
  refine k_putw (a := 361) (x := kx_361) rfl rfl rfl (by decide) (by decide) rfl rfl rfl rfl hI rfl (fun H2 hI3 hw4 => ?_)
  have hf6 : fq [(361, 3), (361, 4), (361, 5), (361, 6), (361, 7), (361, 8), (361, 9)] [362] true H H2 := fq_w (fq_rf _ _ _ _) hw4 (fpo (by decide) rfl)
  refine k_run 0 (pc' := 10) (l' := [(0, .inr (.inr 361))]) (st' := []) rfl ?_
  refine k_run 1 (pc' := 11) (l' := [(0, .inr (.inr 361))]) (st' := [.inr (.inr 361)]) rfl ?_
  refine h_cv (i := 72) (j := 83) (b := 361) (M' := mt_83) (xs := []) (rest := []) rfl rfl rfl rfl (zs_K (x := kx_361) rfl (by decide)) rfl (Nat.le_of_ble_eq_true rfl) (Nat.le_of_ble_eq_true rfl) (by omega) (f_Reader_token (by omega) hI3 ) ?_
  rintro _ _ ⟨z11, rfl, g7, rfl⟩
  refine k_run 0 (pc' := 14) (l' := [(0, .inr (.inr 361))]) (st' := [.inl z11]) rfl ?_
  refine k_run 1 (pc' := 15) (l' := [(0, .inr (.inr 361))]) (st' := [.inl 2, .inl z11]) rfl ?_
  refine h_ieq (off := 8) (t := 23) rfl rfl (by omega) (by decide) (fun c12 => ?_) (fun c12 => ?_)
  · refine k_run 0 (pc' := 23) (l' := [(0, .inr (.inr 361))]) (st' := []) rfl ?_
    refine k_run 3 (pc' := 28) (l' := [(0, .inr (.inr 361))]) (st' := [.inr (.inr 361), .inr (.inr 7)]) rfl ?_
    refine h_cv (i := 120) (j := 84) (b := 361) (M' := mt_84) (xs := []) (rest := [.inr (.inr 7)]) rfl rfl rfl rfl (zs_K (x := kx_361) rfl (by decide)) rfl (Nat.le_of_ble_eq_true rfl) (Nat.le_of_ble_eq_true rfl) (by omega) (f_Reader_name (by omega) hI3 ) ?_
    rintro _ _ ⟨z17, rfl, g13, rfl⟩
    refine k_run 0 (pc' := 31) (l' := [(0, .inr (.inr 361))]) (st' := [.inr (.inl z17), .inr (.inr 7)]) rfl ?_
    refine h_cv (i := 175) (j := 36) (b := 7) (M' := mt_36) (xs := [.inr (.inl z17)]) (rest := []) rfl rfl rfl rfl (zs_K (x := kx_7) rfl (by decide)) rfl (Nat.le_of_ble_eq_true rfl) (Nat.le_of_ble_eq_true rfl) (by omega) (k_Program_hasLawNamed (by omega) hI3 ) ?_
    rintro _ _ ⟨z22, rfl, g18, rfl⟩
    refine k_run 0 (pc' := 34) (l' := [(0, .inr (.inr 361))]) (st' := [.inl z22]) rfl ?_
    refine h_zeq (off := 9) (t := 43) rfl rfl (by omega) (fun c23 => ?_) (fun c23 => ?_)
    · refine k_run 0 (pc' := 43) (l' := [(0, .inr (.inr 361))]) (st' := []) rfl ?_
      refine k_run 3 (pc' := 50) (l' := [(0, .inr (.inr 361))]) (st' := [.inl (H2.1 7 6)]) rfl ?_
      have g24 : 0 ≤ (H2.1 7 6) ∧ (H2.1 7 6) ≤ 16 := kn (x := kx_7) hI3 rfl 6
      have e25 : (H2.1 7 6) = (H.1 7 6) := hw4.2 _ _ (fun q => absurd q.1 (by decide))
      refine k_run 1 (pc' := 52) (l' := [(0, .inr (.inr 361))]) (st' := [.inl 16, .inl (H2.1 7 6)]) rfl ?_
      refine h_ilt (off := 9) (t := 61) rfl rfl (by omega) (by decide) (fun c26 => ?_) (fun c26 => ?_)
      · refine k_run 0 (pc' := 61) (l' := [(0, .inr (.inr 361))]) (st' := []) rfl ?_
        refine k_run 7 (pc' := 76) (l' := [(0, .inr (.inr 361))]) (st' := [.inl (H2.1 7 6), .inr (.inr 24), .inr (.inr 361)]) rfl ?_
        refine k_ald (c := 24) (j := ((H2.1 7 6)).toNat) (i := (H2.1 7 6)) (x := kx_24) rfl rfl (by decide) rfl (by decide) (by omega) (by omega) hI3 (fun h27 => ?_)
        obtain ⟨t28, et30⟩ : ∃ t9, t9 = H2.2 24 ((H2.1 7 6)).toNat := ⟨_, rfl⟩
        rw [← et30] at h27 ⊢
        have k29 : isE t28 := h27
        refine k_run 0 (pc' := 77) (l' := [(0, .inr (.inr 361))]) (st' := [.inr (.inr t28), .inr (.inr 361)]) rfl ?_
        refine k_run 1 (pc' := 78) (l' := [(0, .inr (.inr 361))]) (st' := [.inl 1, .inr (.inr t28), .inr (.inr 361)]) rfl ?_
        refine h_cv (i := 141) (j := 80) (b := 361) (M' := mt_80) (xs := [.inl 1, .inr (.inr t28)]) (rest := []) rfl rfl rfl rfl (zs_K (x := kx_361) rfl (by decide)) rfl (Nat.le_of_ble_eq_true rfl) (Nat.le_of_ble_eq_true rfl) (by omega) (f_Reader_startEquation (by omega) hI3 k29 (by decide)) ?_
        rintro _ H32 ⟨rfl, g31, hI33, hq34⟩
        have hf35 : fq [(361, 3), (361, 4), (361, 5), (361, 6), (361, 7), (361, 8), (361, 9)] [362] true H H32 := fq_t hf6 hq34 rfl rfl rfl
        refine k_run 0 (pc' := 81) (l' := [(0, .inr (.inr 361))]) (st' := []) rfl ?_
        refine k_run 1 (pc' := 82) (l' := [(0, .inr (.inr 361))]) (st' := [.inr (.inr 361)]) rfl ?_
        refine k_getr (a := 361) (x := kx_361) rfl rfl rfl (by decide) rfl rfl rfl hI33 (fun h36 => ?_)
        obtain ⟨t37, et39⟩ : ∃ t9, t9 = H32.2 361 7 := ⟨_, rfl⟩
        rw [← et39] at h36 ⊢
        have k38 : isE t37 := h36
        refine k_run 0 (pc' := 85) (l' := [(0, .inr (.inr 361))]) (st' := [.inr (.inr t37)]) rfl ?_
        refine k_run 1 (pc' := 86) (l' := [(0, .inr (.inr 361))]) (st' := [.inr (.inr 361), .inr (.inr t37)]) rfl ?_
        refine h_cv (i := 120) (j := 84) (b := 361) (M' := mt_84) (xs := []) (rest := [.inr (.inr t37)]) rfl rfl rfl rfl (zs_K (x := kx_361) rfl (by decide)) rfl (Nat.le_of_ble_eq_true rfl) (Nat.le_of_ble_eq_true rfl) (by omega) (f_Reader_name (by omega) hI33 ) ?_
        rintro _ _ ⟨z44, rfl, g40, rfl⟩
        refine k_run 0 (pc' := 89) (l' := [(0, .inr (.inr 361))]) (st' := [.inr (.inl z44), .inr (.inr t37)]) rfl ?_
        refine k_putl (a := t37) (x := (kEo t37)) rfl rfl k38.1 (iE0 k38) k38.2.2.2.2.1 rfl rfl rfl rfl hI33 rfl (fun H45 hI46 hw47 => ?_)
        have hf49 : fq [(361, 3), (361, 4), (361, 5), (361, 6), (361, 7), (361, 8), (361, 9)] [362] true H H45 := fq_w hf35 hw47 (fpg (iEf k38))
        refine k_run 0 (pc' := 92) (l' := [(0, .inr (.inr 361))]) (st' := []) rfl ?_
        refine k_run 1 (pc' := 93) (l' := [(0, .inr (.inr 361))]) (st' := [.inr (.inr 361)]) rfl ?_
        refine k_getr (a := 361) (x := kx_361) rfl rfl rfl (by decide) rfl rfl rfl hI46 (fun h50 => ?_)
        obtain ⟨t51, et53⟩ : ∃ t9, t9 = H45.2 361 7 := ⟨_, rfl⟩
        rw [← et53] at h50 ⊢
        have k52 : isE t51 := h50
        refine k_run 0 (pc' := 96) (l' := [(0, .inr (.inr 361))]) (st' := [.inr (.inr t51)]) rfl ?_
        refine k_run 1 (pc' := 97) (l' := [(0, .inr (.inr 361))]) (st' := [.inl 0, .inr (.inr t51)]) rfl ?_
        refine k_putw (a := t51) (x := (kEo t51)) rfl rfl k52.1 (iE0 k52) k52.2.2.2.2.1 rfl rfl rfl rfl hI46 rfl (fun H54 hI55 hw56 => ?_)
        have hf58 : fq [(361, 3), (361, 4), (361, 5), (361, 6), (361, 7), (361, 8), (361, 9)] [362] true H H54 := fq_w hf49 hw56 (fpg (iEf k52))
        refine k_run 0 (pc' := 100) (l' := [(0, .inr (.inr 361))]) (st' := []) rfl ?_
        refine k_run 3 (pc' := 105) (l' := [(0, .inr (.inr 361))]) (st' := [.inl (H54.1 361 3), .inr (.inr 361)]) rfl ?_
        have g59 : -2147483648 ≤ (H54.1 361 3) ∧ (H54.1 361 3) ≤ 2147483647 := kn (x := kx_361) hI55 rfl 3
        have e60 : (H54.1 361 3) = (H45.1 361 3) := hw56.2 _ _ (fun q => by have h9 := (iEf k52); rw [← q.1] at h9; exact absurd h9 (by decide))
        have e61 : (H45.1 361 3) = (H32.1 361 3) := hw47.2 _ _ (fun q => by have h9 := (iEf k38); rw [← q.1] at h9; exact absurd h9 (by decide))
        have e62 : (H32.1 361 3) = (H2.1 361 3) := (hq34.1 361 3 rfl (by decide) (by decide)).1
        refine k_run 2 (pc' := 107) (l' := [(0, .inr (.inr 361))]) (st' := [.inl ((H54.1 361 3) + 1), .inr (.inr 361)]) rfl ?_
        refine k_putw (a := 361) (x := kx_361) rfl rfl rfl (by decide) (by decide) rfl rfl rfl rfl hI55 rfl (fun H63 hI64 hw65 => ?_)
        have hf67 : fq [(361, 3), (361, 4), (361, 5), (361, 6), (361, 7), (361, 8), (361, 9)] [362] true H H63 := fq_w hf58 hw65 (fpo (by decide) rfl)
        refine k_run 0 (pc' := 110) (l' := [(0, .inr (.inr 361))]) (st' := []) rfl ?_
        refine k_run 2 (pc' := 113) (l' := [(0, .inr (.inr 361))]) (st' := [.inl 58, .inr (.inr 361)]) rfl ?_
        refine h_cv (i := 92) (j := 82) (b := 361) (M' := mt_82) (xs := [.inl 58]) (rest := []) rfl rfl rfl rfl (zs_K (x := kx_361) rfl (by decide)) rfl (Nat.le_of_ble_eq_true rfl) (Nat.le_of_ble_eq_true rfl) (by omega) (f_Reader_take (by omega) hI64 (by decide)) ?_
        rintro _ H69 ⟨z72, rfl, g68, hI70, hq71⟩
        have hf73 : fq [(361, 3), (361, 4), (361, 5), (361, 6), (361, 7), (361, 8), (361, 9)] [362] true H H69 := fq_t hf67 hq71 rfl rfl rfl
        refine k_run 0 (pc' := 116) (l' := [(0, .inr (.inr 361))]) (st' := [.inl z72]) rfl ?_
        refine h_zeq (off := 23) (t := 139) rfl rfl (by omega) (fun c74 => ?_) (fun c74 => ?_)
        · refine k_run 0 (pc' := 139) (l' := [(0, .inr (.inr 361))]) (st' := []) rfl ?_
          refine k_run 1 (pc' := 140) (l' := [(0, .inr (.inr 361))]) (st' := [.inl 0]) rfl ?_
          refine h_retz (x := 0) rfl rfl (by decide) ?_
          have g75 : 0 ≤ (H69.1 7 6) ∧ (H69.1 7 6) ≤ 16 := kn (x := kx_7) hI70 rfl 6
          have e76 : (H69.1 7 6) = (H63.1 7 6) := (hq71.1 7 6 rfl (by decide) (by decide)).1
          have e77 : (H63.1 7 6) = (H54.1 7 6) := hw65.2 _ _ (fun q => absurd q.1 (by decide))
          have e78 : (H54.1 7 6) = (H45.1 7 6) := hw56.2 _ _ (fun q => by have h9 := (iEf k52); rw [← q.1] at h9; exact absurd h9 (by decide))
          have e79 : (H45.1 7 6) = (H32.1 7 6) := hw47.2 _ _ (fun q => by have h9 := (iEf k38); rw [← q.1] at h9; exact absurd h9 (by decide))
          have e80 : (H32.1 7 6) = (H2.1 7 6) := (hq34.1 7 6 rfl (by decide) (by decide)).1
          have g81 : -2147483648 ≤ (H69.1 361 4) ∧ (H69.1 361 4) ≤ 2147483647 := kn (x := kx_361) hI70 rfl 4
          exact ⟨_, rfl, (by omega), hI70, hf73⟩
        · refine k_run 0 (pc' := 119) (l' := [(0, .inr (.inr 361))]) (st' := []) rfl ?_
          refine k_run 4 (pc' := 124) (l' := [(0, .inr (.inr 361))]) (st' := [.inl 0, .inl 0, .inl (-2), .inr (.inr 361)]) rfl ?_
          refine h_cv (i := 109) (j := 73) (b := 361) (M' := mt_73) (xs := [.inl 0, .inl 0, .inl (-2)]) (rest := []) rfl rfl rfl rfl (zs_K (x := kx_361) rfl (by decide)) rfl (Nat.le_of_ble_eq_true rfl) (Nat.le_of_ble_eq_true rfl) (by omega) (f_Reader_readTerm (by omega) hI70 (by decide) (by decide) (by decide) (by omega)) ?_
          rintro _ H83 ⟨z86, rfl, g82, hI84, hq85⟩
          have hf87 : fq [(361, 3), (361, 4), (361, 5), (361, 6), (361, 7), (361, 8), (361, 9)] [362] true H H83 := fq_t hf73 hq85 rfl rfl rfl
          refine k_run 0 (pc' := 127) (l' := [(0, .inr (.inr 361))]) (st' := [.inl z86]) rfl ?_
          refine h_zeq (off := 12) (t := 139) rfl rfl (by omega) (fun c88 => ?_) (fun c88 => ?_)
          · refine k_run 0 (pc' := 139) (l' := [(0, .inr (.inr 361))]) (st' := []) rfl ?_
            refine k_run 1 (pc' := 140) (l' := [(0, .inr (.inr 361))]) (st' := [.inl 0]) rfl ?_
            refine h_retz (x := 0) rfl rfl (by decide) ?_
            have g89 : 0 ≤ (H83.1 7 6) ∧ (H83.1 7 6) ≤ 16 := kn (x := kx_7) hI84 rfl 6
            have e90 : (H83.1 7 6) = (H69.1 7 6) := (hq85.1 7 6 rfl (by decide) (by decide)).1
            have e91 : (H69.1 7 6) = (H63.1 7 6) := (hq71.1 7 6 rfl (by decide) (by decide)).1
            have e92 : (H63.1 7 6) = (H54.1 7 6) := hw65.2 _ _ (fun q => absurd q.1 (by decide))
            have e93 : (H54.1 7 6) = (H45.1 7 6) := hw56.2 _ _ (fun q => by have h9 := (iEf k52); rw [← q.1] at h9; exact absurd h9 (by decide))
            have e94 : (H45.1 7 6) = (H32.1 7 6) := hw47.2 _ _ (fun q => by have h9 := (iEf k38); rw [← q.1] at h9; exact absurd h9 (by decide))
            have e95 : (H32.1 7 6) = (H2.1 7 6) := (hq34.1 7 6 rfl (by decide) (by decide)).1
            have g96 : -2147483648 ≤ (H83.1 361 4) ∧ (H83.1 361 4) ≤ 2147483647 := kn (x := kx_361) hI84 rfl 4
            exact ⟨_, rfl, (by omega), hI84, hf87⟩
          · refine k_run 0 (pc' := 130) (l' := [(0, .inr (.inr 361))]) (st' := []) rfl ?_
            refine k_run 2 (pc' := 133) (l' := [(0, .inr (.inr 361))]) (st' := [.inl 61, .inr (.inr 361)]) rfl ?_
            refine h_cv (i := 92) (j := 82) (b := 361) (M' := mt_82) (xs := [.inl 61]) (rest := []) rfl rfl rfl rfl (zs_K (x := kx_361) rfl (by decide)) rfl (Nat.le_of_ble_eq_true rfl) (Nat.le_of_ble_eq_true rfl) (by omega) (f_Reader_take (by omega) hI84 (by decide)) ?_
            rintro _ H98 ⟨z101, rfl, g97, hI99, hq100⟩
            have hf102 : fq [(361, 3), (361, 4), (361, 5), (361, 6), (361, 7), (361, 8), (361, 9)] [362] true H H98 := fq_t hf87 hq100 rfl rfl rfl
            refine k_run 0 (pc' := 136) (l' := [(0, .inr (.inr 361))]) (st' := [.inl z101]) rfl ?_
            refine h_zne (off := 5) (t := 141) rfl rfl (by omega) (fun c103 => ?_) (fun c103 => ?_)
            · refine k_run 0 (pc' := 141) (l' := [(0, .inr (.inr 361))]) (st' := []) rfl ?_
              refine k_run 3 (pc' := 146) (l' := [(0, .inr (.inr 361))]) (st' := [.inr (.inr 361), .inr (.inr 7)]) rfl ?_
              refine k_getr (a := 361) (x := kx_361) rfl rfl rfl (by decide) rfl rfl rfl hI99 (fun h104 => ?_)
              obtain ⟨t105, et107⟩ : ∃ t9, t9 = H98.2 361 7 := ⟨_, rfl⟩
              rw [← et107] at h104 ⊢
              have k106 : isE t105 := h104
              refine k_run 0 (pc' := 149) (l' := [(0, .inr (.inr 361))]) (st' := [.inr (.inr t105), .inr (.inr 7)]) rfl ?_
              refine k_get (a := t105) (x := (kEo t105)) (v := .inr (.inr (t105 + 1))) rfl rfl k106.1 (iE0 k106) rfl rfl rfl ?_
              refine k_run 0 (pc' := 152) (l' := [(0, .inr (.inr 361))]) (st' := [.inr (.inr (t105 + 1)), .inr (.inr 7)]) rfl ?_
              refine k_run 1 (pc' := 153) (l' := [(0, .inr (.inr 361))]) (st' := [.inl 0, .inr (.inr (t105 + 1)), .inr (.inr 7)]) rfl ?_
              refine h_cv (i := 188) (j := 51) (b := (t105 + 1)) (M' := mt_51) (xs := [.inl 0]) (rest := [.inr (.inr 7)]) rfl rfl rfl rfl (by rw [zs_K (iEl k106).1 (iT0 (iEl k106))]; rfl) rfl (Nat.le_of_ble_eq_true rfl) (Nat.le_of_ble_eq_true rfl) (by omega) (k_Term_codeAt (by omega) hI99 (iEl k106) (by decide)) ?_
              rintro _ _ ⟨z112, rfl, g108, rfl⟩
              refine k_run 0 (pc' := 156) (l' := [(0, .inr (.inr 361))]) (st' := [.inl z112, .inr (.inr 7)]) rfl ?_
              refine k_run 1 (pc' := 157) (l' := [(0, .inr (.inr 361))]) (st' := [.inr (.inr 361), .inl z112, .inr (.inr 7)]) rfl ?_
              refine k_getr (a := 361) (x := kx_361) rfl rfl rfl (by decide) rfl rfl rfl hI99 (fun h113 => ?_)
              rw [← et107]
              refine k_run 0 (pc' := 160) (l' := [(0, .inr (.inr 361))]) (st' := [.inr (.inr t105), .inl z112, .inr (.inr 7)]) rfl ?_
              refine k_get (a := t105) (x := (kEo t105)) (v := .inr (.inr (t105 + 5))) rfl rfl k106.1 (iE0 k106) rfl rfl rfl ?_
              refine k_run 0 (pc' := 163) (l' := [(0, .inr (.inr 361))]) (st' := [.inr (.inr (t105 + 5)), .inl z112, .inr (.inr 7)]) rfl ?_
              refine h_cv (i := 193) (j := 37) (b := 7) (M' := mt_37) (xs := [.inr (.inr (t105 + 5)), .inl z112]) (rest := []) rfl rfl rfl rfl (zs_K (x := kx_7) rfl (by decide)) rfl (Nat.le_of_ble_eq_true rfl) (Nat.le_of_ble_eq_true rfl) (by omega) (k_Program_typeOf (by omega) hI99 (by omega) (iEa k106)) ?_
              rintro _ _ ⟨z118, rfl, g114, rfl⟩
              refine k_run 0 (pc' := 166) (l' := [(0, .inr (.inr 361))]) (st' := [.inl z118]) rfl ?_
              refine k_run 3 (pc' := 169) (l' := [(0, .inr (.inr 361)), (1, .inl z118)]) (st' := [.inr (.inr 361), .inr (.inr 361)]) rfl ?_
              refine k_getr (a := 361) (x := kx_361) rfl rfl rfl (by decide) rfl rfl rfl hI99 (fun h119 => ?_)
              rw [← et107]
              refine k_run 0 (pc' := 172) (l' := [(0, .inr (.inr 361)), (1, .inl z118)]) (st' := [.inr (.inr t105), .inr (.inr 361)]) rfl ?_
              refine k_get (a := t105) (x := (kEo t105)) (v := .inr (.inr (t105 + 3))) rfl rfl k106.1 (iE0 k106) rfl rfl rfl ?_
              refine k_run 0 (pc' := 175) (l' := [(0, .inr (.inr 361)), (1, .inl z118)]) (st' := [.inr (.inr (t105 + 3)), .inr (.inr 361)]) rfl ?_
              refine h_cv (i := 105) (j := 81) (b := 361) (M' := mt_81) (xs := [.inr (.inr (t105 + 3))]) (rest := []) rfl rfl rfl rfl (zs_K (x := kx_361) rfl (by decide)) rfl (Nat.le_of_ble_eq_true rfl) (Nat.le_of_ble_eq_true rfl) (by omega) (f_Reader_startTerm (by omega) hI99 (iEr k106)) ?_
              rintro _ H121 ⟨rfl, g120, hI122, hq123⟩
              have hf124 : fq [(361, 3), (361, 4), (361, 5), (361, 6), (361, 7), (361, 8), (361, 9)] [362] true H H121 := fq_t hf102 hq123 rfl rfl rfl
              refine k_run 0 (pc' := 178) (l' := [(0, .inr (.inr 361)), (1, .inl z118)]) (st' := []) rfl ?_
              refine k_run 4 (pc' := 182) (l' := [(0, .inr (.inr 361)), (1, .inl z118)]) (st' := [.inl 0, .inl 0, .inl z118, .inr (.inr 361)]) rfl ?_
              refine h_cv (i := 109) (j := 73) (b := 361) (M' := mt_73) (xs := [.inl 0, .inl 0, .inl z118]) (rest := []) rfl rfl rfl rfl (zs_K (x := kx_361) rfl (by decide)) rfl (Nat.le_of_ble_eq_true rfl) (Nat.le_of_ble_eq_true rfl) (by omega) (f_Reader_readTerm (by omega) hI122 (by omega) (by decide) (by decide) (by omega)) ?_
              rintro _ H126 ⟨z129, rfl, g125, hI127, hq128⟩
              have hf130 : fq [(361, 3), (361, 4), (361, 5), (361, 6), (361, 7), (361, 8), (361, 9)] [362] true H H126 := fq_t hf124 hq128 rfl rfl rfl
              refine k_run 0 (pc' := 185) (l' := [(0, .inr (.inr 361)), (1, .inl z118)]) (st' := [.inl z129]) rfl ?_
              refine h_zne (off := 5) (t := 190) rfl rfl (by omega) (fun c131 => ?_) (fun c131 => ?_)
              · refine k_run 0 (pc' := 190) (l' := [(0, .inr (.inr 361)), (1, .inl z118)]) (st' := []) rfl ?_
                refine k_run 1 (pc' := 191) (l' := [(0, .inr (.inr 361)), (1, .inl z118)]) (st' := [.inr (.inr 361)]) rfl ?_
                refine k_getr (a := 361) (x := kx_361) rfl rfl rfl (by decide) rfl rfl rfl hI127 (fun h132 => ?_)
                obtain ⟨t133, et135⟩ : ∃ t9, t9 = H126.2 361 7 := ⟨_, rfl⟩
                rw [← et135] at h132 ⊢
                have k134 : isE t133 := h132
                refine k_run 0 (pc' := 194) (l' := [(0, .inr (.inr 361)), (1, .inl z118)]) (st' := [.inr (.inr t133)]) rfl ?_
                refine k_run 2 (pc' := 198) (l' := [(0, .inr (.inr 361)), (1, .inl z118)]) (st' := [.inl (H126.1 361 9), .inr (.inr t133)]) rfl ?_
                have g136 : 0 ≤ (H126.1 361 9) ∧ (H126.1 361 9) ≤ 40 := kn (x := kx_361) hI127 rfl 9
                refine k_puti (z := (H126.1 361 9)) (a := t133) (x := (kEo t133)) rfl rfl k134.1 (iE0 k134) k134.2.2.2.2.1 rfl rfl rfl rfl hI127 (by omega) (show 0 ≤ (H126.1 361 9) ∧ (H126.1 361 9) ≤ 40 by omega) (fun H137 hI138 hw139 hv140 => ?_)
                have hf141 : fq [(361, 3), (361, 4), (361, 5), (361, 6), (361, 7), (361, 8), (361, 9)] [362] true H H137 := fq_w hf130 hw139 (fpg (iEf k134))
                refine k_run 0 (pc' := 201) (l' := [(0, .inr (.inr 361)), (1, .inl z118)]) (st' := []) rfl ?_
                refine k_run 1 (pc' := 202) (l' := [(0, .inr (.inr 361)), (1, .inl z118)]) (st' := [.inl 1]) rfl ?_
                refine h_retz (x := 1) rfl rfl (by decide) ?_
                have g142 : 0 ≤ (H137.1 7 6) ∧ (H137.1 7 6) ≤ 16 := kn (x := kx_7) hI138 rfl 6
                have e143 : (H137.1 7 6) = (H126.1 7 6) := hw139.2 _ _ (fun q => by have h9 := (iEf k134); rw [← q.1] at h9; exact absurd h9 (by decide))
                have e144 : (H126.1 7 6) = (H121.1 7 6) := (hq128.1 7 6 rfl (by decide) (by decide)).1
                have e145 : (H121.1 7 6) = (H98.1 7 6) := (hq123.1 7 6 rfl (by decide) (by decide)).1
                have e146 : (H98.1 7 6) = (H83.1 7 6) := (hq100.1 7 6 rfl (by decide) (by decide)).1
                have e147 : (H83.1 7 6) = (H69.1 7 6) := (hq85.1 7 6 rfl (by decide) (by decide)).1
                have e148 : (H69.1 7 6) = (H63.1 7 6) := (hq71.1 7 6 rfl (by decide) (by decide)).1
                have e149 : (H63.1 7 6) = (H54.1 7 6) := hw65.2 _ _ (fun q => absurd q.1 (by decide))
                have e150 : (H54.1 7 6) = (H45.1 7 6) := hw56.2 _ _ (fun q => by have h9 := (iEf k52); rw [← q.1] at h9; exact absurd h9 (by decide))
                have e151 : (H45.1 7 6) = (H32.1 7 6) := hw47.2 _ _ (fun q => by have h9 := (iEf k38); rw [← q.1] at h9; exact absurd h9 (by decide))
                have e152 : (H32.1 7 6) = (H2.1 7 6) := (hq34.1 7 6 rfl (by decide) (by decide)).1
                have g153 : -2147483648 ≤ (H137.1 361 4) ∧ (H137.1 361 4) ≤ 2147483647 := kn (x := kx_361) hI138 rfl 4
                have e154 : (H137.1 361 4) = (H126.1 361 4) := hw139.2 _ _ (fun q => by have h9 := (iEf k134); rw [← q.1] at h9; exact absurd h9 (by decide))
                exact ⟨_, rfl, (by omega), hI138, hf141⟩
              · refine k_run 0 (pc' := 188) (l' := [(0, .inr (.inr 361)), (1, .inl z118)]) (st' := []) rfl ?_
                refine k_run 1 (pc' := 189) (l' := [(0, .inr (.inr 361)), (1, .inl z118)]) (st' := [.inl 0]) rfl ?_
                refine h_retz (x := 0) rfl rfl (by decide) ?_
                have g155 : 0 ≤ (H126.1 7 6) ∧ (H126.1 7 6) ≤ 16 := kn (x := kx_7) hI127 rfl 6
                have e156 : (H126.1 7 6) = (H121.1 7 6) := (hq128.1 7 6 rfl (by decide) (by decide)).1
                have e157 : (H121.1 7 6) = (H98.1 7 6) := (hq123.1 7 6 rfl (by decide) (by decide)).1
                have e158 : (H98.1 7 6) = (H83.1 7 6) := (hq100.1 7 6 rfl (by decide) (by decide)).1
                have e159 : (H83.1 7 6) = (H69.1 7 6) := (hq85.1 7 6 rfl (by decide) (by decide)).1
                have e160 : (H69.1 7 6) = (H63.1 7 6) := (hq71.1 7 6 rfl (by decide) (by decide)).1
                have e161 : (H63.1 7 6) = (H54.1 7 6) := hw65.2 _ _ (fun q => absurd q.1 (by decide))
                have e162 : (H54.1 7 6) = (H45.1 7 6) := hw56.2 _ _ (fun q => by have h9 := (iEf k52); rw [← q.1] at h9; exact absurd h9 (by decide))
                have e163 : (H45.1 7 6) = (H32.1 7 6) := hw47.2 _ _ (fun q => by have h9 := (iEf k38); rw [← q.1] at h9; exact absurd h9 (by decide))
                have e164 : (H32.1 7 6) = (H2.1 7 6) := (hq34.1 7 6 rfl (by decide) (by decide)).1
                have g165 : -2147483648 ≤ (H126.1 361 4) ∧ (H126.1 361 4) ≤ 2147483647 := kn (x := kx_361) hI127 rfl 4
                exact ⟨_, rfl, (by omega), hI127, hf130⟩
            · refine k_run 0 (pc' := 139) (l' := [(0, .inr (.inr 361))]) (st' := []) rfl ?_
              refine k_run 1 (pc' := 140) (l' := [(0, .inr (.inr 361))]) (st' := [.inl 0]) rfl ?_
              refine h_retz (x := 0) rfl rfl (by decide) ?_
              have g166 : 0 ≤ (H98.1 7 6) ∧ (H98.1 7 6) ≤ 16 := kn (x := kx_7) hI99 rfl 6
              have e167 : (H98.1 7 6) = (H83.1 7 6) := (hq100.1 7 6 rfl (by decide) (by decide)).1
              have e168 : (H83.1 7 6) = (H69.1 7 6) := (hq85.1 7 6 rfl (by decide) (by decide)).1
              have e169 : (H69.1 7 6) = (H63.1 7 6) := (hq71.1 7 6 rfl (by decide) (by decide)).1
              have e170 : (H63.1 7 6) = (H54.1 7 6) := hw65.2 _ _ (fun q => absurd q.1 (by decide))
              have e171 : (H54.1 7 6) = (H45.1 7 6) := hw56.2 _ _ (fun q => by have h9 := (iEf k52); rw [← q.1] at h9; exact absurd h9 (by decide))
              have e172 : (H45.1 7 6) = (H32.1 7 6) := hw47.2 _ _ (fun q => by have h9 := (iEf k38); rw [← q.1] at h9; exact absurd h9 (by decide))
              have e173 : (H32.1 7 6) = (H2.1 7 6) := (hq34.1 7 6 rfl (by decide) (by decide)).1
              have g174 : -2147483648 ≤ (H98.1 361 4) ∧ (H98.1 361 4) ≤ 2147483647 := kn (x := kx_361) hI99 rfl 4
              exact ⟨_, rfl, (by omega), hI99, hf102⟩
      · refine k_run 0 (pc' := 55) (l' := [(0, .inr (.inr 361))]) (st' := []) rfl ?_
        refine k_run 2 (pc' := 57) (l' := [(0, .inr (.inr 361))]) (st' := [.inl 5, .inr (.inr 361)]) rfl ?_
        refine h_cv (i := 128) (j := 86) (b := 361) (M' := mt_86) (xs := [.inl 5]) (rest := []) rfl rfl rfl rfl (zs_K (x := kx_361) rfl (by decide)) rfl (Nat.le_of_ble_eq_true rfl) (Nat.le_of_ble_eq_true rfl) (by omega) (f_Reader_fails (by omega) hI3 (by decide)) ?_
        rintro _ H176 ⟨z179, rfl, g175, hI177, hq178⟩
        have hf180 : fq [(361, 3), (361, 4), (361, 5), (361, 6), (361, 7), (361, 8), (361, 9)] [362] true H H176 := fq_t hf6 hq178 rfl rfl rfl
        refine k_run 0 (pc' := 60) (l' := [(0, .inr (.inr 361))]) (st' := [.inl z179]) rfl ?_
        refine h_retz (x := z179) rfl rfl (by omega) ?_
        have g181 : 0 ≤ (H176.1 7 6) ∧ (H176.1 7 6) ≤ 16 := kn (x := kx_7) hI177 rfl 6
        have e182 : (H176.1 7 6) = (H2.1 7 6) := (hq178.1 7 6 rfl (by decide) (by decide)).1
        have g183 : -2147483648 ≤ (H176.1 361 4) ∧ (H176.1 361 4) ≤ 2147483647 := kn (x := kx_361) hI177 rfl 4
        exact ⟨_, rfl, (by omega), hI177, hf180⟩
    · refine k_run 0 (pc' := 37) (l' := [(0, .inr (.inr 361))]) (st' := []) rfl ?_
      refine k_run 2 (pc' := 39) (l' := [(0, .inr (.inr 361))]) (st' := [.inl 3, .inr (.inr 361)]) rfl ?_
      refine h_cv (i := 128) (j := 86) (b := 361) (M' := mt_86) (xs := [.inl 3]) (rest := []) rfl rfl rfl rfl (zs_K (x := kx_361) rfl (by decide)) rfl (Nat.le_of_ble_eq_true rfl) (Nat.le_of_ble_eq_true rfl) (by omega) (f_Reader_fails (by omega) hI3 (by decide)) ?_
      rintro _ H185 ⟨z188, rfl, g184, hI186, hq187⟩
      have hf189 : fq [(361, 3), (361, 4), (361, 5), (361, 6), (361, 7), (361, 8), (361, 9)] [362] true H H185 := fq_t hf6 hq187 rfl rfl rfl
      refine k_run 0 (pc' := 42) (l' := [(0, .inr (.inr 361))]) (st' := [.inl z188]) rfl ?_
      refine h_retz (x := z188) rfl rfl (by omega) ?_
      have g190 : 0 ≤ (H185.1 7 6) ∧ (H185.1 7 6) ≤ 16 := kn (x := kx_7) hI186 rfl 6
      have e191 : (H185.1 7 6) = (H2.1 7 6) := (hq187.1 7 6 rfl (by decide) (by decide)).1
      have e192 : (H2.1 7 6) = (H.1 7 6) := hw4.2 _ _ (fun q => absurd q.1 (by decide))
      have g193 : -2147483648 ≤ (H185.1 361 4) ∧ (H185.1 361 4) ≤ 2147483647 := kn (x := kx_361) hI186 rfl 4
      exact ⟨_, rfl, (by omega), hI186, hf189⟩
  · refine k_run 0 (pc' := 18) (l' := [(0, .inr (.inr 361))]) (st' := []) rfl ?_
    refine k_run 1 (pc' := 19) (l' := [(0, .inr (.inr 361))]) (st' := [.inr (.inr 361)]) rfl ?_
    refine h_cv (i := 89) (j := 85) (b := 361) (M' := mt_85) (xs := []) (rest := []) rfl rfl rfl rfl (zs_K (x := kx_361) rfl (by decide)) rfl (Nat.le_of_ble_eq_true rfl) (Nat.le_of_ble_eq_true rfl) (by omega) (f_Reader_misplaced (by omega) hI3 ) ?_
    rintro _ H195 ⟨z198, rfl, g194, hI196, hq197⟩
    have hf199 : fq [(361, 3), (361, 4), (361, 5), (361, 6), (361, 7), (361, 8), (361, 9)] [362] true H H195 := fq_t hf6 hq197 rfl rfl rfl
    refine k_run 0 (pc' := 22) (l' := [(0, .inr (.inr 361))]) (st' := [.inl z198]) rfl ?_
    refine h_retz (x := z198) rfl rfl (by omega) ?_
    have g200 : 0 ≤ (H195.1 7 6) ∧ (H195.1 7 6) ≤ 16 := kn (x := kx_7) hI196 rfl 6
    have e201 : (H195.1 7 6) = (H2.1 7 6) := (hq197.1 7 6 rfl (by decide) (by decide)).1
    have e202 : (H2.1 7 6) = (H.1 7 6) := hw4.2 _ _ (fun q => absurd q.1 (by decide))
    have g203 : -2147483648 ≤ (H195.1 361 4) ∧ (H195.1 361 4) ≤ 2147483647 := kn (x := kx_361) hI196 rfl 4
    exact ⟨_, rfl, (by omega), hI196, hf199⟩

/-! Reader.readClosedTerm -/
set_option maxRecDepth 100000 in
theorem f_Reader_readClosedTerm {d : Nat} (hd : 41 ≤ d) {H : hp} (hI : Inv H) {t n : Nat} (ht : isT t n) : hG (zs zK) d mt_63 0 (zargs 0 [.inr (.inr 361), .inr (.inr t)]) [] H (fun r9 H9 => ∃ z : Int, r9 = some (.inl z) ∧ ((-2147483648 ≤ z ∧ z ≤ 2147483647) ∧ (z ≠ 0 ∨ H9.1 361 4 = H.1 361 4)) ∧ Inv H9 ∧ fq [(2, 5), (361, 3), (361, 4), (361, 5), (361, 6), (361, 8), (361, 9)] [4, 5, 6, 362] true H H9) := by
  have htb := ht.2.2.2.2
  refine k_run 0 (pc' := 0) (l' := [(0, .inr (.inr 361)), (1, .inr (.inr t))]) (st' := []) rfl ?_
  refine k_run 2 (pc' := 4) (l' := [(0, .inr (.inr 361)), (1, .inr (.inr t))]) (st' := [.inr (.inr 2)]) rfl ?_
  refine h_cv (i := 64) (j := 27) (b := 2) (M' := mt_27) (xs := []) (rest := []) rfl rfl rfl rfl (zs_K (x := kx_2) rfl (by decide)) rfl (Nat.le_of_ble_eq_true rfl) (Nat.le_of_ble_eq_true rfl) (by omega) (k_Tape_cut (by omega) hI ) ?_
  rintro _ H2 ⟨rfl, hI3, hq4⟩
  have hf5 : fq [(2, 5), (361, 3), (361, 4), (361, 5), (361, 6), (361, 8), (361, 9)] [4, 5, 6, 362] true H H2 := fq_t (fq_rf _ _ _ _) hq4 rfl rfl rfl
  refine k_run 0 (pc' := 7) (l' := [(0, .inr (.inr 361)), (1, .inr (.inr t))]) (st' := []) rfl ?_
  refine k_run 2 (pc' := 9) (l' := [(0, .inr (.inr 361)), (1, .inr (.inr t))]) (st' := [.inl 0, .inr (.inr 361)]) rfl ?_
  refine k_putw (a := 361) (x := kx_361) rfl rfl rfl (by decide) (by decide) rfl rfl rfl rfl hI3 rfl (fun H6 hI7 hw8 => ?_)
  have hf10 : fq [(2, 5), (361, 3), (361, 4), (361, 5), (361, 6), (361, 8), (361, 9)] [4, 5, 6, 362] true H H6 := fq_w hf5 hw8 (fpo (by decide) rfl)
  refine k_run 0 (pc' := 12) (l' := [(0, .inr (.inr 361)), (1, .inr (.inr t))]) (st' := []) rfl ?_
  refine k_run 2 (pc' := 14) (l' := [(0, .inr (.inr 361)), (1, .inr (.inr t))]) (st' := [.inl 2, .inr (.inr 361)]) rfl ?_
  refine k_putw (a := 361) (x := kx_361) rfl rfl rfl (by decide) (by decide) rfl rfl rfl rfl hI7 rfl (fun H11 hI12 hw13 => ?_)
  have hf15 : fq [(2, 5), (361, 3), (361, 4), (361, 5), (361, 6), (361, 8), (361, 9)] [4, 5, 6, 362] true H H11 := fq_w hf10 hw13 (fpo (by decide) rfl)
  refine k_run 0 (pc' := 17) (l' := [(0, .inr (.inr 361)), (1, .inr (.inr t))]) (st' := []) rfl ?_
  refine k_run 2 (pc' := 19) (l' := [(0, .inr (.inr 361)), (1, .inr (.inr t))]) (st' := [.inr (.inr t), .inr (.inr 361)]) rfl ?_
  refine h_cv (i := 105) (j := 81) (b := 361) (M' := mt_81) (xs := [.inr (.inr t)]) (rest := []) rfl rfl rfl rfl (zs_K (x := kx_361) rfl (by decide)) rfl (Nat.le_of_ble_eq_true rfl) (Nat.le_of_ble_eq_true rfl) (by omega) (f_Reader_startTerm (by omega) hI12 ht) ?_
  rintro _ H17 ⟨rfl, g16, hI18, hq19⟩
  have hf20 : fq [(2, 5), (361, 3), (361, 4), (361, 5), (361, 6), (361, 8), (361, 9)] [4, 5, 6, 362] true H H17 := fq_t hf15 hq19 rfl rfl rfl
  refine k_run 0 (pc' := 22) (l' := [(0, .inr (.inr 361)), (1, .inr (.inr t))]) (st' := []) rfl ?_
  refine k_run 4 (pc' := 26) (l' := [(0, .inr (.inr 361)), (1, .inr (.inr t))]) (st' := [.inl 0, .inl 0, .inl (-1), .inr (.inr 361)]) rfl ?_
  refine h_cv (i := 109) (j := 73) (b := 361) (M' := mt_73) (xs := [.inl 0, .inl 0, .inl (-1)]) (rest := []) rfl rfl rfl rfl (zs_K (x := kx_361) rfl (by decide)) rfl (Nat.le_of_ble_eq_true rfl) (Nat.le_of_ble_eq_true rfl) (by omega) (f_Reader_readTerm (by omega) hI18 (by decide) (by decide) (by decide) (by omega)) ?_
  rintro _ H22 ⟨z25, rfl, g21, hI23, hq24⟩
  have hf26 : fq [(2, 5), (361, 3), (361, 4), (361, 5), (361, 6), (361, 8), (361, 9)] [4, 5, 6, 362] true H H22 := fq_t hf20 hq24 rfl rfl rfl
  refine k_run 0 (pc' := 29) (l' := [(0, .inr (.inr 361)), (1, .inr (.inr t))]) (st' := [.inl z25]) rfl ?_
  refine h_zeq (off := 15) (t := 44) rfl rfl (by omega) (fun c27 => ?_) (fun c27 => ?_)
  · refine k_run 0 (pc' := 44) (l' := [(0, .inr (.inr 361)), (1, .inr (.inr t))]) (st' := []) rfl ?_
    refine k_run 3 (pc' := 47) (l' := [(0, .inr (.inr 361)), (1, .inr (.inr t)), (2, .inl 0)]) (st' := [.inl 0]) rfl ?_
    refine h_zeq (off := 7) (t := 54) rfl rfl (by decide) (fun _ => ?_) (fun c => absurd c (by decide))
    refine k_run 0 (pc' := 54) (l' := [(0, .inr (.inr 361)), (1, .inr (.inr t)), (2, .inl 0)]) (st' := []) rfl ?_
    refine k_run 3 (pc' := 61) (l' := [(0, .inr (.inr 361)), (1, .inr (.inr t)), (2, .inl 0)]) (st' := [.inl (H22.1 361 5), .inl (-1000)]) rfl ?_
    have g28 : 0 ≤ (H22.1 361 5) ∧ (H22.1 361 5) ≤ 1000 := kn (x := kx_361) hI23 rfl 5
    refine k_run 1 (pc' := 62) (l' := [(0, .inr (.inr 361)), (1, .inr (.inr t)), (2, .inl 0)]) (st' := [.inl ((-1000) - (H22.1 361 5))]) rfl ?_
    refine h_reti (x := ((-1000) - (H22.1 361 5))) rfl rfl ?_
    have g29 : -2147483648 ≤ (H22.1 361 4) ∧ (H22.1 361 4) ≤ 2147483647 := kn (x := kx_361) hI23 rfl 4
    exact ⟨_, rfl, (by omega), hI23, hf26⟩
  · refine k_run 0 (pc' := 32) (l' := [(0, .inr (.inr 361)), (1, .inr (.inr t))]) (st' := []) rfl ?_
    refine k_run 2 (pc' := 34) (l' := [(0, .inr (.inr 361)), (1, .inr (.inr t))]) (st' := [.inl 0, .inr (.inr 361)]) rfl ?_
    refine h_cv (i := 92) (j := 82) (b := 361) (M' := mt_82) (xs := [.inl 0]) (rest := []) rfl rfl rfl rfl (zs_K (x := kx_361) rfl (by decide)) rfl (Nat.le_of_ble_eq_true rfl) (Nat.le_of_ble_eq_true rfl) (by omega) (f_Reader_take (by omega) hI23 (by decide)) ?_
    rintro _ H31 ⟨z34, rfl, g30, hI32, hq33⟩
    have hf35 : fq [(2, 5), (361, 3), (361, 4), (361, 5), (361, 6), (361, 8), (361, 9)] [4, 5, 6, 362] true H H31 := fq_t hf26 hq33 rfl rfl rfl
    refine k_run 0 (pc' := 37) (l' := [(0, .inr (.inr 361)), (1, .inr (.inr t))]) (st' := [.inl z34]) rfl ?_
    refine h_zeq (off := 7) (t := 44) rfl rfl (by omega) (fun c36 => ?_) (fun c36 => ?_)
    · refine k_run 0 (pc' := 44) (l' := [(0, .inr (.inr 361)), (1, .inr (.inr t))]) (st' := []) rfl ?_
      refine k_run 3 (pc' := 47) (l' := [(0, .inr (.inr 361)), (1, .inr (.inr t)), (2, .inl 0)]) (st' := [.inl 0]) rfl ?_
      refine h_zeq (off := 7) (t := 54) rfl rfl (by decide) (fun _ => ?_) (fun c => absurd c (by decide))
      refine k_run 0 (pc' := 54) (l' := [(0, .inr (.inr 361)), (1, .inr (.inr t)), (2, .inl 0)]) (st' := []) rfl ?_
      refine k_run 3 (pc' := 61) (l' := [(0, .inr (.inr 361)), (1, .inr (.inr t)), (2, .inl 0)]) (st' := [.inl (H31.1 361 5), .inl (-1000)]) rfl ?_
      have g37 : 0 ≤ (H31.1 361 5) ∧ (H31.1 361 5) ≤ 1000 := kn (x := kx_361) hI32 rfl 5
      refine k_run 1 (pc' := 62) (l' := [(0, .inr (.inr 361)), (1, .inr (.inr t)), (2, .inl 0)]) (st' := [.inl ((-1000) - (H31.1 361 5))]) rfl ?_
      refine h_reti (x := ((-1000) - (H31.1 361 5))) rfl rfl ?_
      have g38 : -2147483648 ≤ (H31.1 361 4) ∧ (H31.1 361 4) ≤ 2147483647 := kn (x := kx_361) hI32 rfl 4
      exact ⟨_, rfl, (by omega), hI32, hf35⟩
    · refine k_run 0 (pc' := 40) (l' := [(0, .inr (.inr 361)), (1, .inr (.inr t))]) (st' := []) rfl ?_
      refine k_run 4 (pc' := 47) (l' := [(0, .inr (.inr 361)), (1, .inr (.inr t)), (2, .inl 1)]) (st' := [.inl 1]) rfl ?_
      refine h_zeq (off := 7) (t := 54) rfl rfl (by decide) (fun c => absurd c (by decide)) (fun _ => ?_)
      refine k_run 0 (pc' := 50) (l' := [(0, .inr (.inr 361)), (1, .inr (.inr t)), (2, .inl 1)]) (st' := []) rfl ?_
      refine k_run 2 (pc' := 62) (l' := [(0, .inr (.inr 361)), (1, .inr (.inr t)), (2, .inl 1)]) (st' := [.inl 0]) rfl ?_
      refine h_reti (x := 0) rfl rfl ?_
      have g39 : -2147483648 ≤ (H31.1 361 4) ∧ (H31.1 361 4) ≤ 2147483647 := kn (x := kx_361) hI32 rfl 4
      exact ⟨_, rfl, (by omega), hI32, hf35⟩

/-! Reader.readText -/
set_option maxRecDepth 100000 in
theorem f_Reader_readText_cut {d : Nat} (hd : 42 ≤ d) {H : hp} (hI : Inv H)   : ∀ w : Nat, (∀ (H1 : hp), Inv H1 → fq [(2, 5), (7, 5), (7, 6), (8, 4), (13, 4), (18, 4), (361, 3), (361, 4), (361, 5), (361, 6), (361, 7), (361, 8), (361, 9)] [4, 5, 6, 9, 10, 11, 14, 15, 16, 17, 19, 20, 21, 22, 362] true H H1 → ∀ (x1 : Int) (x2 : Int) (x3 : Int) (x4 : Int) (x5 : Int) (x6 : Int) (x7 : Int) , (-2147483648 ≤ x1 ∧ x1 ≤ 2147483647) → (-2147483648 ≤ x2 ∧ x2 ≤ 2147483647) → (-2147483648 ≤ x3 ∧ x3 ≤ 2147483647) → (-2147483648 ≤ x4 ∧ x4 ≤ 2147483647) → (-2147483648 ≤ x5 ∧ x5 ≤ 2147483647) → (-2147483648 ≤ x6 ∧ x6 ≤ 2147483647) → (-2147483648 ≤ x7 ∧ x7 ≤ 2147483647) → (0 ≤ x1 ∧ x1 ≤ 6) → (0 ≤ x2 ∧ x2 ≤ 16) → (0 ≤ x3 ∧ x3 ≤ 16) → (0 ≤ x4 ∧ x4 ≤ 40) → (0 ≤ x5 ∧ x5 ≤ 16) → (0 ≤ x6 ∧ x6 ≤ 1001) → (0 ≤ x7 ∧ x7 ≤ 1) → ((x7 = 0 ∨ H1.1 361 4 = H.1 361 4)) → (((2000 - x6).toNat) < w) → hG (zs zK) d mt_62 69 [(0, .inr (.inr 361)), (1, .inl x1), (2, .inl x2), (3, .inl x3), (4, .inl x4), (5, .inl x5), (6, .inl x6), (7, .inl x7)] [] H1 (fun r9 H9 => ∃ z : Int, r9 = some (.inl z) ∧ ((-2147483648 ≤ z ∧ z ≤ 2147483647) ∧ (z < 0 ∨ H9.1 361 4 = H.1 361 4)) ∧ Inv H9 ∧ fq [(2, 5), (7, 5), (7, 6), (8, 4), (13, 4), (18, 4), (361, 3), (361, 4), (361, 5), (361, 6), (361, 7), (361, 8), (361, 9)] [4, 5, 6, 9, 10, 11, 14, 15, 16, 17, 19, 20, 21, 22, 362] true H H9)) := by
  intro w
  induction w with
  | zero => exact fun _ _ _ _ _ _ _ _ _ _ _ _ _ _ _ _ _ _ _ _ _ _ _ _ _ h => absurd h (Nat.not_lt_zero _)
  | succ w ih =>
    intro H1 hI1 hf1 x1 x2 x3 x4 x5 x6 x7 hx1 hx2 hx3 hx4 hx5 hx6 hx7 hi0 hi1 hi2 hi3 hi4 hi5 hi6 hi7 hw
    have g19 : -2147483648 ≤ (H1.1 361 4) ∧ (H1.1 361 4) ≤ 2147483647 := kn (x := kx_361) hI1 rfl 4
    refine k_run 1 (pc' := 71) (l' := [(0, .inr (.inr 361)), (1, .inl x1), (2, .inl x2), (3, .inl x3), (4, .inl x4), (5, .inl x5), (6, .inl x6), (7, .inl x7)]) (st' := [.inl x7]) rfl ?_
    refine h_zeq (off := 155) (t := 226) rfl rfl (by omega) (fun c20 => ?_) (fun c20 => ?_)
    · refine k_run 0 (pc' := 226) (l' := [(0, .inr (.inr 361)), (1, .inl x1), (2, .inl x2), (3, .inl x3), (4, .inl x4), (5, .inl x5), (6, .inl x6), (7, .inl x7)]) (st' := []) rfl ?_
      refine k_run 1 (pc' := 228) (l' := [(0, .inr (.inr 361)), (1, .inl x1), (2, .inl x2), (3, .inl x3), (4, .inl x4), (5, .inl x5), (6, .inl x6), (7, .inl x7)]) (st' := [.inl x7]) rfl ?_
      refine h_zne (off := 63) (t := 291) rfl rfl (by omega) (fun c21 => ?_) (fun c21 => ?_)
      · exfalso
        omega
      · refine k_run 0 (pc' := 231) (l' := [(0, .inr (.inr 361)), (1, .inl x1), (2, .inl x2), (3, .inl x3), (4, .inl x4), (5, .inl x5), (6, .inl x6), (7, .inl x7)]) (st' := []) rfl ?_
        refine k_run 4 (pc' := 239) (l' := [(0, .inr (.inr 361)), (1, .inl x1), (2, .inl x2), (3, .inl x3), (4, .inl x4), (5, .inl x5), (6, .inl x6), (7, .inl x7)]) (st' := [.inl x1, .inr (.inr 8)]) rfl ?_
        refine k_puti (z := x1) (a := 8) (x := kx_8) rfl rfl rfl (by decide) (by decide) rfl rfl rfl rfl hI1 (by omega) (show 0 ≤ x1 ∧ x1 ≤ 6 by omega) (fun H22 hI23 hw24 hv25 => ?_)
        have hf26 : fq [(2, 5), (7, 5), (7, 6), (8, 4), (13, 4), (18, 4), (361, 3), (361, 4), (361, 5), (361, 6), (361, 7), (361, 8), (361, 9)] [4, 5, 6, 9, 10, 11, 14, 15, 16, 17, 19, 20, 21, 22, 362] true H H22 := fq_w hf1 hw24 (fpo (by decide) rfl)
        refine k_run 0 (pc' := 242) (l' := [(0, .inr (.inr 361)), (1, .inl x1), (2, .inl x2), (3, .inl x3), (4, .inl x4), (5, .inl x5), (6, .inl x6), (7, .inl x7)]) (st' := []) rfl ?_
        refine k_run 4 (pc' := 250) (l' := [(0, .inr (.inr 361)), (1, .inl x1), (2, .inl x2), (3, .inl x3), (4, .inl x4), (5, .inl x5), (6, .inl x6), (7, .inl x7)]) (st' := [.inl x2, .inr (.inr 13)]) rfl ?_
        refine k_puti (z := x2) (a := 13) (x := kx_13) rfl rfl rfl (by decide) (by decide) rfl rfl rfl rfl hI23 (by omega) (show 0 ≤ x2 ∧ x2 ≤ 16 by omega) (fun H27 hI28 hw29 hv30 => ?_)
        have hf31 : fq [(2, 5), (7, 5), (7, 6), (8, 4), (13, 4), (18, 4), (361, 3), (361, 4), (361, 5), (361, 6), (361, 7), (361, 8), (361, 9)] [4, 5, 6, 9, 10, 11, 14, 15, 16, 17, 19, 20, 21, 22, 362] true H H27 := fq_w hf26 hw29 (fpo (by decide) rfl)
        refine k_run 0 (pc' := 253) (l' := [(0, .inr (.inr 361)), (1, .inl x1), (2, .inl x2), (3, .inl x3), (4, .inl x4), (5, .inl x5), (6, .inl x6), (7, .inl x7)]) (st' := []) rfl ?_
        refine k_run 4 (pc' := 261) (l' := [(0, .inr (.inr 361)), (1, .inl x1), (2, .inl x2), (3, .inl x3), (4, .inl x4), (5, .inl x5), (6, .inl x6), (7, .inl x7)]) (st' := [.inl x3, .inr (.inr 18)]) rfl ?_
        refine k_puti (z := x3) (a := 18) (x := kx_18) rfl rfl rfl (by decide) (by decide) rfl rfl rfl rfl hI28 (by omega) (show 0 ≤ x3 ∧ x3 ≤ 16 by omega) (fun H32 hI33 hw34 hv35 => ?_)
        have hf36 : fq [(2, 5), (7, 5), (7, 6), (8, 4), (13, 4), (18, 4), (361, 3), (361, 4), (361, 5), (361, 6), (361, 7), (361, 8), (361, 9)] [4, 5, 6, 9, 10, 11, 14, 15, 16, 17, 19, 20, 21, 22, 362] true H H32 := fq_w hf31 hw34 (fpo (by decide) rfl)
        refine k_run 0 (pc' := 264) (l' := [(0, .inr (.inr 361)), (1, .inl x1), (2, .inl x2), (3, .inl x3), (4, .inl x4), (5, .inl x5), (6, .inl x6), (7, .inl x7)]) (st' := []) rfl ?_
        refine k_run 3 (pc' := 270) (l' := [(0, .inr (.inr 361)), (1, .inl x1), (2, .inl x2), (3, .inl x3), (4, .inl x4), (5, .inl x5), (6, .inl x6), (7, .inl x7)]) (st' := [.inl x4, .inr (.inr 7)]) rfl ?_
        refine k_puti (z := x4) (a := 7) (x := kx_7) rfl rfl rfl (by decide) (by decide) rfl rfl rfl rfl hI33 (by omega) (show 0 ≤ x4 ∧ x4 ≤ 40 by omega) (fun H37 hI38 hw39 hv40 => ?_)
        have hf41 : fq [(2, 5), (7, 5), (7, 6), (8, 4), (13, 4), (18, 4), (361, 3), (361, 4), (361, 5), (361, 6), (361, 7), (361, 8), (361, 9)] [4, 5, 6, 9, 10, 11, 14, 15, 16, 17, 19, 20, 21, 22, 362] true H H37 := fq_w hf36 hw39 (fpo (by decide) rfl)
        refine k_run 0 (pc' := 273) (l' := [(0, .inr (.inr 361)), (1, .inl x1), (2, .inl x2), (3, .inl x3), (4, .inl x4), (5, .inl x5), (6, .inl x6), (7, .inl x7)]) (st' := []) rfl ?_
        refine k_run 3 (pc' := 279) (l' := [(0, .inr (.inr 361)), (1, .inl x1), (2, .inl x2), (3, .inl x3), (4, .inl x4), (5, .inl x5), (6, .inl x6), (7, .inl x7)]) (st' := [.inl x5, .inr (.inr 7)]) rfl ?_
        refine k_puti (z := x5) (a := 7) (x := kx_7) rfl rfl rfl (by decide) (by decide) rfl rfl rfl rfl hI38 (by omega) (show 0 ≤ x5 ∧ x5 ≤ 16 by omega) (fun H42 hI43 hw44 hv45 => ?_)
        have hf46 : fq [(2, 5), (7, 5), (7, 6), (8, 4), (13, 4), (18, 4), (361, 3), (361, 4), (361, 5), (361, 6), (361, 7), (361, 8), (361, 9)] [4, 5, 6, 9, 10, 11, 14, 15, 16, 17, 19, 20, 21, 22, 362] true H H42 := fq_w hf41 hw44 (fpo (by decide) rfl)
        refine k_run 0 (pc' := 282) (l' := [(0, .inr (.inr 361)), (1, .inl x1), (2, .inl x2), (3, .inl x3), (4, .inl x4), (5, .inl x5), (6, .inl x6), (7, .inl x7)]) (st' := []) rfl ?_
        refine k_run 3 (pc' := 289) (l' := [(0, .inr (.inr 361)), (1, .inl x1), (2, .inl x2), (3, .inl x3), (4, .inl x4), (5, .inl x5), (6, .inl x6), (7, .inl x7)]) (st' := [.inl (H42.1 361 5), .inl (-1000)]) rfl ?_
        have g47 : 0 ≤ (H42.1 361 5) ∧ (H42.1 361 5) ≤ 1000 := kn (x := kx_361) hI43 rfl 5
        have e48 : (H42.1 361 5) = (H37.1 361 5) := hw44.2 _ _ (fun q => absurd q.1 (by decide))
        have e49 : (H37.1 361 5) = (H32.1 361 5) := hw39.2 _ _ (fun q => absurd q.1 (by decide))
        have e50 : (H32.1 361 5) = (H27.1 361 5) := hw34.2 _ _ (fun q => absurd q.1 (by decide))
        have e51 : (H27.1 361 5) = (H22.1 361 5) := hw29.2 _ _ (fun q => absurd q.1 (by decide))
        have e52 : (H22.1 361 5) = (H1.1 361 5) := hw24.2 _ _ (fun q => absurd q.1 (by decide))
        refine k_run 1 (pc' := 290) (l' := [(0, .inr (.inr 361)), (1, .inl x1), (2, .inl x2), (3, .inl x3), (4, .inl x4), (5, .inl x5), (6, .inl x6), (7, .inl x7)]) (st' := [.inl ((-1000) - (H42.1 361 5))]) rfl ?_
        refine h_reti (x := ((-1000) - (H42.1 361 5))) rfl rfl ?_
        have g53 : -2147483648 ≤ (H42.1 361 4) ∧ (H42.1 361 4) ≤ 2147483647 := kn (x := kx_361) hI43 rfl 4
        have e54 : (H42.1 361 4) = (H37.1 361 4) := hw44.2 _ _ (fun q => absurd q.1 (by decide))
        have e55 : (H37.1 361 4) = (H32.1 361 4) := hw39.2 _ _ (fun q => absurd q.1 (by decide))
        have e56 : (H32.1 361 4) = (H27.1 361 4) := hw34.2 _ _ (fun q => absurd q.1 (by decide))
        have e57 : (H27.1 361 4) = (H22.1 361 4) := hw29.2 _ _ (fun q => absurd q.1 (by decide))
        have e58 : (H22.1 361 4) = (H1.1 361 4) := hw24.2 _ _ (fun q => absurd q.1 (by decide))
        exact ⟨_, rfl, (by omega), hI43, hf46⟩
    · refine k_run 0 (pc' := 74) (l' := [(0, .inr (.inr 361)), (1, .inl x1), (2, .inl x2), (3, .inl x3), (4, .inl x4), (5, .inl x5), (6, .inl x6), (7, .inl x7)]) (st' := []) rfl ?_
      refine k_run 2 (pc' := 79) (l' := [(0, .inr (.inr 361)), (1, .inl x1), (2, .inl x2), (3, .inl x3), (4, .inl x4), (5, .inl x5), (6, .inl x6), (7, .inl x7)]) (st' := [.inl 1000, .inl x6]) rfl ?_
      refine h_igt (off := 147) (t := 226) rfl rfl (by omega) (by decide) (fun c59 => ?_) (fun c59 => ?_)
      · refine k_run 0 (pc' := 226) (l' := [(0, .inr (.inr 361)), (1, .inl x1), (2, .inl x2), (3, .inl x3), (4, .inl x4), (5, .inl x5), (6, .inl x6), (7, .inl x7)]) (st' := []) rfl ?_
        refine k_run 1 (pc' := 228) (l' := [(0, .inr (.inr 361)), (1, .inl x1), (2, .inl x2), (3, .inl x3), (4, .inl x4), (5, .inl x5), (6, .inl x6), (7, .inl x7)]) (st' := [.inl x7]) rfl ?_
        refine h_zne (off := 63) (t := 291) rfl rfl (by omega) (fun c60 => ?_) (fun c60 => ?_)
        · refine k_run 0 (pc' := 291) (l' := [(0, .inr (.inr 361)), (1, .inl x1), (2, .inl x2), (3, .inl x3), (4, .inl x4), (5, .inl x5), (6, .inl x6), (7, .inl x7)]) (st' := []) rfl ?_
          refine k_run 3 (pc' := 298) (l' := [(0, .inr (.inr 361)), (1, .inl x1), (2, .inl x2), (3, .inl x3), (4, .inl x4), (5, .inl x5), (6, .inl x6), (7, .inl x7)]) (st' := [.inl (H1.1 7 5)]) rfl ?_
          have g61 : 0 ≤ (H1.1 7 5) ∧ (H1.1 7 5) ≤ 40 := kn (x := kx_7) hI1 rfl 5
          refine k_run 1 (pc' := 300) (l' := [(0, .inr (.inr 361)), (1, .inl x1), (2, .inl x2), (3, .inl x3), (4, .inl x4), (5, .inl x5), (6, .inl x6), (7, .inl x7)]) (st' := [.inl x4, .inl (H1.1 7 5)]) rfl ?_
          refine h_ile (off := 10) (t := 310) rfl rfl (by omega) (by omega) (fun c62 => ?_) (fun c62 => ?_)
          · refine k_run 0 (pc' := 310) (l' := [(0, .inr (.inr 361)), (1, .inl x1), (2, .inl x2), (3, .inl x3), (4, .inl x4), (5, .inl x5), (6, .inl x6), (7, .inl x7)]) (st' := []) rfl ?_
            refine k_run 1 (pc' := 312) (l' := [(0, .inr (.inr 361)), (1, .inl x1), (2, .inl x2), (3, .inl x3), (4, .inl x4), (5, .inl x5), (6, .inl x6), (7, .inl x7)]) (st' := [.inl x6]) rfl ?_
            refine h_reti (x := x6) rfl rfl ?_
            exact ⟨_, rfl, (by omega), hI1, hf1⟩
          · refine k_run 0 (pc' := 303) (l' := [(0, .inr (.inr 361)), (1, .inl x1), (2, .inl x2), (3, .inl x3), (4, .inl x4), (5, .inl x5), (6, .inl x6), (7, .inl x7)]) (st' := []) rfl ?_
            refine k_run 2 (pc' := 307) (l' := [(0, .inr (.inr 361)), (1, .inl x1), (2, .inl x2), (3, .inl x3), (4, .inl x4), (5, .inl x5), (6, .inl x6), (7, .inl x7)]) (st' := [.inr (.inr 7)]) rfl ?_
            refine h_cv (i := 99) (j := 39) (b := 7) (M' := mt_39) (xs := []) (rest := []) rfl rfl rfl rfl (zs_K (x := kx_7) rfl (by decide)) rfl (Nat.le_of_ble_eq_true rfl) (Nat.le_of_ble_eq_true rfl) (by omega) (k_Program_forgetProofs (by omega) hI1 ) ?_
            rintro _ H64 ⟨rfl, hI65, hq66⟩
            have hf67 : fq [(2, 5), (7, 5), (7, 6), (8, 4), (13, 4), (18, 4), (361, 3), (361, 4), (361, 5), (361, 6), (361, 7), (361, 8), (361, 9)] [4, 5, 6, 9, 10, 11, 14, 15, 16, 17, 19, 20, 21, 22, 362] true H H64 := fq_t hf1 hq66 rfl rfl rfl
            refine k_run 0 (pc' := 310) (l' := [(0, .inr (.inr 361)), (1, .inl x1), (2, .inl x2), (3, .inl x3), (4, .inl x4), (5, .inl x5), (6, .inl x6), (7, .inl x7)]) (st' := []) rfl ?_
            refine k_run 1 (pc' := 312) (l' := [(0, .inr (.inr 361)), (1, .inl x1), (2, .inl x2), (3, .inl x3), (4, .inl x4), (5, .inl x5), (6, .inl x6), (7, .inl x7)]) (st' := [.inl x6]) rfl ?_
            refine h_reti (x := x6) rfl rfl ?_
            have g68 : -2147483648 ≤ (H64.1 361 4) ∧ (H64.1 361 4) ≤ 2147483647 := kn (x := kx_361) hI65 rfl 4
            have e69 : (H64.1 361 4) = (H1.1 361 4) := (hq66.1 361 4 rfl (by decide) (by decide)).1
            exact ⟨_, rfl, (by omega), hI65, hf67⟩
        · exfalso
          omega
      · refine k_run 0 (pc' := 82) (l' := [(0, .inr (.inr 361)), (1, .inl x1), (2, .inl x2), (3, .inl x3), (4, .inl x4), (5, .inl x5), (6, .inl x6), (7, .inl x7)]) (st' := []) rfl ?_
        refine k_run 1 (pc' := 83) (l' := [(0, .inr (.inr 361)), (1, .inl x1), (2, .inl x2), (3, .inl x3), (4, .inl x4), (5, .inl x5), (6, .inl x6), (7, .inl x7)]) (st' := [.inr (.inr 361)]) rfl ?_
        refine h_cv (i := 72) (j := 83) (b := 361) (M' := mt_83) (xs := []) (rest := []) rfl rfl rfl rfl (zs_K (x := kx_361) rfl (by decide)) rfl (Nat.le_of_ble_eq_true rfl) (Nat.le_of_ble_eq_true rfl) (by omega) (f_Reader_token (by omega) hI1 ) ?_
        rintro _ _ ⟨z74, rfl, g70, rfl⟩
        refine k_run 0 (pc' := 86) (l' := [(0, .inr (.inr 361)), (1, .inl x1), (2, .inl x2), (3, .inl x3), (4, .inl x4), (5, .inl x5), (6, .inl x6), (7, .inl x7)]) (st' := [.inl z74]) rfl ?_
        refine h_zeq (off := 140) (t := 226) rfl rfl (by omega) (fun c75 => ?_) (fun c75 => ?_)
        · refine k_run 0 (pc' := 226) (l' := [(0, .inr (.inr 361)), (1, .inl x1), (2, .inl x2), (3, .inl x3), (4, .inl x4), (5, .inl x5), (6, .inl x6), (7, .inl x7)]) (st' := []) rfl ?_
          refine k_run 1 (pc' := 228) (l' := [(0, .inr (.inr 361)), (1, .inl x1), (2, .inl x2), (3, .inl x3), (4, .inl x4), (5, .inl x5), (6, .inl x6), (7, .inl x7)]) (st' := [.inl x7]) rfl ?_
          refine h_zne (off := 63) (t := 291) rfl rfl (by omega) (fun c76 => ?_) (fun c76 => ?_)
          · refine k_run 0 (pc' := 291) (l' := [(0, .inr (.inr 361)), (1, .inl x1), (2, .inl x2), (3, .inl x3), (4, .inl x4), (5, .inl x5), (6, .inl x6), (7, .inl x7)]) (st' := []) rfl ?_
            refine k_run 3 (pc' := 298) (l' := [(0, .inr (.inr 361)), (1, .inl x1), (2, .inl x2), (3, .inl x3), (4, .inl x4), (5, .inl x5), (6, .inl x6), (7, .inl x7)]) (st' := [.inl (H1.1 7 5)]) rfl ?_
            have g77 : 0 ≤ (H1.1 7 5) ∧ (H1.1 7 5) ≤ 40 := kn (x := kx_7) hI1 rfl 5
            refine k_run 1 (pc' := 300) (l' := [(0, .inr (.inr 361)), (1, .inl x1), (2, .inl x2), (3, .inl x3), (4, .inl x4), (5, .inl x5), (6, .inl x6), (7, .inl x7)]) (st' := [.inl x4, .inl (H1.1 7 5)]) rfl ?_
            refine h_ile (off := 10) (t := 310) rfl rfl (by omega) (by omega) (fun c78 => ?_) (fun c78 => ?_)
            · refine k_run 0 (pc' := 310) (l' := [(0, .inr (.inr 361)), (1, .inl x1), (2, .inl x2), (3, .inl x3), (4, .inl x4), (5, .inl x5), (6, .inl x6), (7, .inl x7)]) (st' := []) rfl ?_
              refine k_run 1 (pc' := 312) (l' := [(0, .inr (.inr 361)), (1, .inl x1), (2, .inl x2), (3, .inl x3), (4, .inl x4), (5, .inl x5), (6, .inl x6), (7, .inl x7)]) (st' := [.inl x6]) rfl ?_
              refine h_reti (x := x6) rfl rfl ?_
              exact ⟨_, rfl, (by omega), hI1, hf1⟩
            · refine k_run 0 (pc' := 303) (l' := [(0, .inr (.inr 361)), (1, .inl x1), (2, .inl x2), (3, .inl x3), (4, .inl x4), (5, .inl x5), (6, .inl x6), (7, .inl x7)]) (st' := []) rfl ?_
              refine k_run 2 (pc' := 307) (l' := [(0, .inr (.inr 361)), (1, .inl x1), (2, .inl x2), (3, .inl x3), (4, .inl x4), (5, .inl x5), (6, .inl x6), (7, .inl x7)]) (st' := [.inr (.inr 7)]) rfl ?_
              refine h_cv (i := 99) (j := 39) (b := 7) (M' := mt_39) (xs := []) (rest := []) rfl rfl rfl rfl (zs_K (x := kx_7) rfl (by decide)) rfl (Nat.le_of_ble_eq_true rfl) (Nat.le_of_ble_eq_true rfl) (by omega) (k_Program_forgetProofs (by omega) hI1 ) ?_
              rintro _ H80 ⟨rfl, hI81, hq82⟩
              have hf83 : fq [(2, 5), (7, 5), (7, 6), (8, 4), (13, 4), (18, 4), (361, 3), (361, 4), (361, 5), (361, 6), (361, 7), (361, 8), (361, 9)] [4, 5, 6, 9, 10, 11, 14, 15, 16, 17, 19, 20, 21, 22, 362] true H H80 := fq_t hf1 hq82 rfl rfl rfl
              refine k_run 0 (pc' := 310) (l' := [(0, .inr (.inr 361)), (1, .inl x1), (2, .inl x2), (3, .inl x3), (4, .inl x4), (5, .inl x5), (6, .inl x6), (7, .inl x7)]) (st' := []) rfl ?_
              refine k_run 1 (pc' := 312) (l' := [(0, .inr (.inr 361)), (1, .inl x1), (2, .inl x2), (3, .inl x3), (4, .inl x4), (5, .inl x5), (6, .inl x6), (7, .inl x7)]) (st' := [.inl x6]) rfl ?_
              refine h_reti (x := x6) rfl rfl ?_
              have g84 : -2147483648 ≤ (H80.1 361 4) ∧ (H80.1 361 4) ≤ 2147483647 := kn (x := kx_361) hI81 rfl 4
              have e85 : (H80.1 361 4) = (H1.1 361 4) := (hq82.1 361 4 rfl (by decide) (by decide)).1
              exact ⟨_, rfl, (by omega), hI81, hf83⟩
          · exfalso
            omega
        · refine k_run 0 (pc' := 89) (l' := [(0, .inr (.inr 361)), (1, .inl x1), (2, .inl x2), (3, .inl x3), (4, .inl x4), (5, .inl x5), (6, .inl x6), (7, .inl x7)]) (st' := []) rfl ?_
          refine k_run 1 (pc' := 90) (l' := [(0, .inr (.inr 361)), (1, .inl x1), (2, .inl x2), (3, .inl x3), (4, .inl x4), (5, .inl x5), (6, .inl x6), (7, .inl x7)]) (st' := [.inr (.inr 361)]) rfl ?_
          refine h_cv (i := 72) (j := 83) (b := 361) (M' := mt_83) (xs := []) (rest := []) rfl rfl rfl rfl (zs_K (x := kx_361) rfl (by decide)) rfl (Nat.le_of_ble_eq_true rfl) (Nat.le_of_ble_eq_true rfl) (by omega) (f_Reader_token (by omega) hI1 ) ?_
          rintro _ _ ⟨z90, rfl, g86, rfl⟩
          refine k_run 0 (pc' := 93) (l' := [(0, .inr (.inr 361)), (1, .inl x1), (2, .inl x2), (3, .inl x3), (4, .inl x4), (5, .inl x5), (6, .inl x6), (7, .inl x7)]) (st' := [.inl z90]) rfl ?_
          refine k_run 2 (pc' := 97) (l' := [(0, .inr (.inr 361)), (1, .inl x1), (2, .inl x2), (3, .inl x3), (4, .inl x4), (5, .inl x5), (6, .inl x6), (7, .inl x7), (8, .inl z90)]) (st' := [.inl z90]) rfl ?_
          rcases (show z90 < 4 ∨ 7 < z90 ∨ z90 = 4 ∨ z90 = 5 ∨ z90 = 6 ∨ z90 = 7 by omega) with c91 | c91 | c91 | c91 | c91 | c91
          · refine h_tout (t := 164) rfl (by omega) (Or.inl c91) rfl ?_
            refine k_run 1 (pc' := 165) (l' := [(0, .inr (.inr 361)), (1, .inl x1), (2, .inl x2), (3, .inl x3), (4, .inl x4), (5, .inl x5), (6, .inl x6), (7, .inl x7), (8, .inl z90)]) (st' := [.inr (.inr 361)]) rfl ?_
            refine h_cv (i := 89) (j := 85) (b := 361) (M' := mt_85) (xs := []) (rest := []) rfl rfl rfl rfl (zs_K (x := kx_361) rfl (by decide)) rfl (Nat.le_of_ble_eq_true rfl) (Nat.le_of_ble_eq_true rfl) (by omega) (f_Reader_misplaced (by omega) hI1 ) ?_
            rintro _ H93 ⟨z96, rfl, g92, hI94, hq95⟩
            have hf97 : fq [(2, 5), (7, 5), (7, 6), (8, 4), (13, 4), (18, 4), (361, 3), (361, 4), (361, 5), (361, 6), (361, 7), (361, 8), (361, 9)] [4, 5, 6, 9, 10, 11, 14, 15, 16, 17, 19, 20, 21, 22, 362] true H H93 := fq_t hf1 hq95 rfl rfl rfl
            refine k_run 0 (pc' := 168) (l' := [(0, .inr (.inr 361)), (1, .inl x1), (2, .inl x2), (3, .inl x3), (4, .inl x4), (5, .inl x5), (6, .inl x6), (7, .inl x7), (8, .inl z90)]) (st' := [.inl z96]) rfl ?_
            refine k_run 2 (pc' := 172) (l' := [(0, .inr (.inr 361)), (1, .inl x1), (2, .inl x2), (3, .inl x3), (4, .inl x4), (5, .inl x5), (6, .inl x6), (7, .inl z96), (8, .inl z90)]) (st' := [.inl z96]) rfl ?_
            refine h_zeq (off := 16) (t := 188) rfl rfl (by omega) (fun c98 => ?_) (fun c98 => ?_)
            · refine k_run 0 (pc' := 188) (l' := [(0, .inr (.inr 361)), (1, .inl x1), (2, .inl x2), (3, .inl x3), (4, .inl x4), (5, .inl x5), (6, .inl x6), (7, .inl z96), (8, .inl z90)]) (st' := []) rfl ?_
              refine k_run 6 (pc' := 199) (l' := [(0, .inr (.inr 361)), (1, .inl x1), (2, .inl x2), (3, .inl x3), (4, .inl x4), (5, .inl x5), (6, .inl x6), (7, .inl 0), (8, .inl z90)]) (st' := [.inl (H93.1 7 6), .inr (.inr 7)]) rfl ?_
              have g99 : 0 ≤ (H93.1 7 6) ∧ (H93.1 7 6) ≤ 16 := kn (x := kx_7) hI94 rfl 6
              have e100 : (H93.1 7 6) = (H1.1 7 6) := (hq95.1 7 6 rfl (by decide) (by decide)).1
              refine k_run 1 (pc' := 201) (l' := [(0, .inr (.inr 361)), (1, .inl x1), (2, .inl x2), (3, .inl x3), (4, .inl x4), (5, .inl x5), (6, .inl x6), (7, .inl 0), (8, .inl z90)]) (st' := [.inl 0, .inl (H93.1 7 6), .inr (.inr 7)]) rfl ?_
              refine h_zeq (off := 14) (t := 215) rfl rfl (by decide) (fun _ => ?_) (fun c => absurd c (by decide))
              refine k_run 0 (pc' := 215) (l' := [(0, .inr (.inr 361)), (1, .inl x1), (2, .inl x2), (3, .inl x3), (4, .inl x4), (5, .inl x5), (6, .inl x6), (7, .inl 0), (8, .inl z90)]) (st' := [.inl (H93.1 7 6), .inr (.inr 7)]) rfl ?_
              refine k_run 2 (pc' := 217) (l' := [(0, .inr (.inr 361)), (1, .inl x1), (2, .inl x2), (3, .inl x3), (4, .inl x4), (5, .inl x5), (6, .inl x6), (7, .inl 0), (8, .inl z90)]) (st' := [.inl ((H93.1 7 6) + 0), .inr (.inr 7)]) rfl ?_
              refine k_puti (z := ((H93.1 7 6) + 0)) (a := 7) (x := kx_7) rfl rfl rfl (by decide) (by decide) rfl rfl rfl rfl hI94 (by omega) (show 0 ≤ ((H93.1 7 6) + 0) ∧ ((H93.1 7 6) + 0) ≤ 16 by omega) (fun H101 hI102 hw103 hv104 => ?_)
              have hf105 : fq [(2, 5), (7, 5), (7, 6), (8, 4), (13, 4), (18, 4), (361, 3), (361, 4), (361, 5), (361, 6), (361, 7), (361, 8), (361, 9)] [4, 5, 6, 9, 10, 11, 14, 15, 16, 17, 19, 20, 21, 22, 362] true H H101 := fq_w hf97 hw103 (fpo (by decide) rfl)
              refine k_run 0 (pc' := 220) (l' := [(0, .inr (.inr 361)), (1, .inl x1), (2, .inl x2), (3, .inl x3), (4, .inl x4), (5, .inl x5), (6, .inl x6), (7, .inl 0), (8, .inl z90)]) (st' := []) rfl ?_
              refine k_run 2 (pc' := 69) (l' := [(0, .inr (.inr 361)), (1, .inl x1), (2, .inl x2), (3, .inl x3), (4, .inl x4), (5, .inl x5), (6, .inl (x6 + 1)), (7, .inl 0), (8, .inl z90)]) (st' := []) rfl ?_
              have g106 : -2147483648 ≤ (H101.1 361 4) ∧ (H101.1 361 4) ≤ 2147483647 := kn (x := kx_361) hI102 rfl 4
              have e107 : (H101.1 361 4) = (H93.1 361 4) := hw103.2 _ _ (fun q => absurd q.1 (by decide))
              refine h_loc [0, 1, 2, 3, 4, 5, 6, 7] rfl ?_
              exact ih H101 hI102 hf105 x1 x2 x3 x4 x5 (x6 + 1) (0 : Int) (by omega) (by omega) (by omega) (by omega) (by omega) (by omega) (by decide) (by omega) (by omega) (by omega) (by omega) (by omega) (by omega) (by omega) (by omega) (by omega)
            · refine k_run 0 (pc' := 175) (l' := [(0, .inr (.inr 361)), (1, .inl x1), (2, .inl x2), (3, .inl x3), (4, .inl x4), (5, .inl x5), (6, .inl x6), (7, .inl z96), (8, .inl z90)]) (st' := []) rfl ?_
              refine k_run 2 (pc' := 178) (l' := [(0, .inr (.inr 361)), (1, .inl x1), (2, .inl x2), (3, .inl x3), (4, .inl x4), (5, .inl x5), (6, .inl x6), (7, .inl z96), (8, .inl z90)]) (st' := [.inl 59, .inr (.inr 361)]) rfl ?_
              refine h_cv (i := 92) (j := 82) (b := 361) (M' := mt_82) (xs := [.inl 59]) (rest := []) rfl rfl rfl rfl (zs_K (x := kx_361) rfl (by decide)) rfl (Nat.le_of_ble_eq_true rfl) (Nat.le_of_ble_eq_true rfl) (by omega) (f_Reader_take (by omega) hI94 (by decide)) ?_
              rintro _ H109 ⟨z112, rfl, g108, hI110, hq111⟩
              have hf113 : fq [(2, 5), (7, 5), (7, 6), (8, 4), (13, 4), (18, 4), (361, 3), (361, 4), (361, 5), (361, 6), (361, 7), (361, 8), (361, 9)] [4, 5, 6, 9, 10, 11, 14, 15, 16, 17, 19, 20, 21, 22, 362] true H H109 := fq_t hf97 hq111 rfl rfl rfl
              refine k_run 0 (pc' := 181) (l' := [(0, .inr (.inr 361)), (1, .inl x1), (2, .inl x2), (3, .inl x3), (4, .inl x4), (5, .inl x5), (6, .inl x6), (7, .inl z96), (8, .inl z90)]) (st' := [.inl z112]) rfl ?_
              refine h_zeq (off := 7) (t := 188) rfl rfl (by omega) (fun c114 => ?_) (fun c114 => ?_)
              · refine k_run 0 (pc' := 188) (l' := [(0, .inr (.inr 361)), (1, .inl x1), (2, .inl x2), (3, .inl x3), (4, .inl x4), (5, .inl x5), (6, .inl x6), (7, .inl z96), (8, .inl z90)]) (st' := []) rfl ?_
                refine k_run 6 (pc' := 199) (l' := [(0, .inr (.inr 361)), (1, .inl x1), (2, .inl x2), (3, .inl x3), (4, .inl x4), (5, .inl x5), (6, .inl x6), (7, .inl 0), (8, .inl z90)]) (st' := [.inl (H109.1 7 6), .inr (.inr 7)]) rfl ?_
                have g115 : 0 ≤ (H109.1 7 6) ∧ (H109.1 7 6) ≤ 16 := kn (x := kx_7) hI110 rfl 6
                have e116 : (H109.1 7 6) = (H93.1 7 6) := (hq111.1 7 6 rfl (by decide) (by decide)).1
                have e117 : (H93.1 7 6) = (H1.1 7 6) := (hq95.1 7 6 rfl (by decide) (by decide)).1
                refine k_run 1 (pc' := 201) (l' := [(0, .inr (.inr 361)), (1, .inl x1), (2, .inl x2), (3, .inl x3), (4, .inl x4), (5, .inl x5), (6, .inl x6), (7, .inl 0), (8, .inl z90)]) (st' := [.inl 0, .inl (H109.1 7 6), .inr (.inr 7)]) rfl ?_
                refine h_zeq (off := 14) (t := 215) rfl rfl (by decide) (fun _ => ?_) (fun c => absurd c (by decide))
                refine k_run 0 (pc' := 215) (l' := [(0, .inr (.inr 361)), (1, .inl x1), (2, .inl x2), (3, .inl x3), (4, .inl x4), (5, .inl x5), (6, .inl x6), (7, .inl 0), (8, .inl z90)]) (st' := [.inl (H109.1 7 6), .inr (.inr 7)]) rfl ?_
                refine k_run 2 (pc' := 217) (l' := [(0, .inr (.inr 361)), (1, .inl x1), (2, .inl x2), (3, .inl x3), (4, .inl x4), (5, .inl x5), (6, .inl x6), (7, .inl 0), (8, .inl z90)]) (st' := [.inl ((H109.1 7 6) + 0), .inr (.inr 7)]) rfl ?_
                refine k_puti (z := ((H109.1 7 6) + 0)) (a := 7) (x := kx_7) rfl rfl rfl (by decide) (by decide) rfl rfl rfl rfl hI110 (by omega) (show 0 ≤ ((H109.1 7 6) + 0) ∧ ((H109.1 7 6) + 0) ≤ 16 by omega) (fun H118 hI119 hw120 hv121 => ?_)
                have hf122 : fq [(2, 5), (7, 5), (7, 6), (8, 4), (13, 4), (18, 4), (361, 3), (361, 4), (361, 5), (361, 6), (361, 7), (361, 8), (361, 9)] [4, 5, 6, 9, 10, 11, 14, 15, 16, 17, 19, 20, 21, 22, 362] true H H118 := fq_w hf113 hw120 (fpo (by decide) rfl)
                refine k_run 0 (pc' := 220) (l' := [(0, .inr (.inr 361)), (1, .inl x1), (2, .inl x2), (3, .inl x3), (4, .inl x4), (5, .inl x5), (6, .inl x6), (7, .inl 0), (8, .inl z90)]) (st' := []) rfl ?_
                refine k_run 2 (pc' := 69) (l' := [(0, .inr (.inr 361)), (1, .inl x1), (2, .inl x2), (3, .inl x3), (4, .inl x4), (5, .inl x5), (6, .inl (x6 + 1)), (7, .inl 0), (8, .inl z90)]) (st' := []) rfl ?_
                have g123 : -2147483648 ≤ (H118.1 361 4) ∧ (H118.1 361 4) ≤ 2147483647 := kn (x := kx_361) hI119 rfl 4
                have e124 : (H118.1 361 4) = (H109.1 361 4) := hw120.2 _ _ (fun q => absurd q.1 (by decide))
                refine h_loc [0, 1, 2, 3, 4, 5, 6, 7] rfl ?_
                exact ih H118 hI119 hf122 x1 x2 x3 x4 x5 (x6 + 1) (0 : Int) (by omega) (by omega) (by omega) (by omega) (by omega) (by omega) (by decide) (by omega) (by omega) (by omega) (by omega) (by omega) (by omega) (by omega) (by omega) (by omega)
              · refine k_run 0 (pc' := 184) (l' := [(0, .inr (.inr 361)), (1, .inl x1), (2, .inl x2), (3, .inl x3), (4, .inl x4), (5, .inl x5), (6, .inl x6), (7, .inl z96), (8, .inl z90)]) (st' := []) rfl ?_
                refine k_run 7 (pc' := 199) (l' := [(0, .inr (.inr 361)), (1, .inl x1), (2, .inl x2), (3, .inl x3), (4, .inl x4), (5, .inl x5), (6, .inl x6), (7, .inl 1), (8, .inl z90)]) (st' := [.inl (H109.1 7 6), .inr (.inr 7)]) rfl ?_
                have g125 : 0 ≤ (H109.1 7 6) ∧ (H109.1 7 6) ≤ 16 := kn (x := kx_7) hI110 rfl 6
                have e126 : (H109.1 7 6) = (H93.1 7 6) := (hq111.1 7 6 rfl (by decide) (by decide)).1
                have e127 : (H93.1 7 6) = (H1.1 7 6) := (hq95.1 7 6 rfl (by decide) (by decide)).1
                refine k_run 1 (pc' := 201) (l' := [(0, .inr (.inr 361)), (1, .inl x1), (2, .inl x2), (3, .inl x3), (4, .inl x4), (5, .inl x5), (6, .inl x6), (7, .inl 1), (8, .inl z90)]) (st' := [.inl 1, .inl (H109.1 7 6), .inr (.inr 7)]) rfl ?_
                refine h_zeq (off := 14) (t := 215) rfl rfl (by decide) (fun c => absurd c (by decide)) (fun _ => ?_)
                refine k_run 0 (pc' := 204) (l' := [(0, .inr (.inr 361)), (1, .inl x1), (2, .inl x2), (3, .inl x3), (4, .inl x4), (5, .inl x5), (6, .inl x6), (7, .inl 1), (8, .inl z90)]) (st' := [.inl (H109.1 7 6), .inr (.inr 7)]) rfl ?_
                refine k_run 2 (pc' := 208) (l' := [(0, .inr (.inr 361)), (1, .inl x1), (2, .inl x2), (3, .inl x3), (4, .inl x4), (5, .inl x5), (6, .inl x6), (7, .inl 1), (8, .inl z90)]) (st' := [.inl 7, .inl z90, .inl (H109.1 7 6), .inr (.inr 7)]) rfl ?_
                refine h_ine (off := 7) (t := 215) rfl rfl (by omega) (by decide) (fun c128 => ?_) (fun c128 => ?_)
                · refine k_run 0 (pc' := 215) (l' := [(0, .inr (.inr 361)), (1, .inl x1), (2, .inl x2), (3, .inl x3), (4, .inl x4), (5, .inl x5), (6, .inl x6), (7, .inl 1), (8, .inl z90)]) (st' := [.inl (H109.1 7 6), .inr (.inr 7)]) rfl ?_
                  refine k_run 2 (pc' := 217) (l' := [(0, .inr (.inr 361)), (1, .inl x1), (2, .inl x2), (3, .inl x3), (4, .inl x4), (5, .inl x5), (6, .inl x6), (7, .inl 1), (8, .inl z90)]) (st' := [.inl ((H109.1 7 6) + 0), .inr (.inr 7)]) rfl ?_
                  refine k_puti (z := ((H109.1 7 6) + 0)) (a := 7) (x := kx_7) rfl rfl rfl (by decide) (by decide) rfl rfl rfl rfl hI110 (by omega) (show 0 ≤ ((H109.1 7 6) + 0) ∧ ((H109.1 7 6) + 0) ≤ 16 by omega) (fun H129 hI130 hw131 hv132 => ?_)
                  have hf133 : fq [(2, 5), (7, 5), (7, 6), (8, 4), (13, 4), (18, 4), (361, 3), (361, 4), (361, 5), (361, 6), (361, 7), (361, 8), (361, 9)] [4, 5, 6, 9, 10, 11, 14, 15, 16, 17, 19, 20, 21, 22, 362] true H H129 := fq_w hf113 hw131 (fpo (by decide) rfl)
                  refine k_run 0 (pc' := 220) (l' := [(0, .inr (.inr 361)), (1, .inl x1), (2, .inl x2), (3, .inl x3), (4, .inl x4), (5, .inl x5), (6, .inl x6), (7, .inl 1), (8, .inl z90)]) (st' := []) rfl ?_
                  refine k_run 2 (pc' := 69) (l' := [(0, .inr (.inr 361)), (1, .inl x1), (2, .inl x2), (3, .inl x3), (4, .inl x4), (5, .inl x5), (6, .inl (x6 + 1)), (7, .inl 1), (8, .inl z90)]) (st' := []) rfl ?_
                  have g134 : -2147483648 ≤ (H129.1 361 4) ∧ (H129.1 361 4) ≤ 2147483647 := kn (x := kx_361) hI130 rfl 4
                  have e135 : (H129.1 361 4) = (H109.1 361 4) := hw131.2 _ _ (fun q => absurd q.1 (by decide))
                  refine h_loc [0, 1, 2, 3, 4, 5, 6, 7] rfl ?_
                  exact ih H129 hI130 hf133 x1 x2 x3 x4 x5 (x6 + 1) (1 : Int) (by omega) (by omega) (by omega) (by omega) (by omega) (by omega) (by decide) (by omega) (by omega) (by omega) (by omega) (by omega) (by omega) (by omega) (by omega) (by omega)
                · refine k_run 0 (pc' := 211) (l' := [(0, .inr (.inr 361)), (1, .inl x1), (2, .inl x2), (3, .inl x3), (4, .inl x4), (5, .inl x5), (6, .inl x6), (7, .inl 1), (8, .inl z90)]) (st' := [.inl (H109.1 7 6), .inr (.inr 7)]) rfl ?_
                  refine k_run 3 (pc' := 217) (l' := [(0, .inr (.inr 361)), (1, .inl x1), (2, .inl x2), (3, .inl x3), (4, .inl x4), (5, .inl x5), (6, .inl x6), (7, .inl 1), (8, .inl z90)]) (st' := [.inl ((H109.1 7 6) + 1), .inr (.inr 7)]) rfl ?_
                  refine k_puti (z := ((H109.1 7 6) + 1)) (a := 7) (x := kx_7) rfl rfl rfl (by decide) (by decide) rfl rfl rfl rfl hI110 (by omega) (show 0 ≤ ((H109.1 7 6) + 1) ∧ ((H109.1 7 6) + 1) ≤ 16 by omega) (fun H136 hI137 hw138 hv139 => ?_)
                  have hf140 : fq [(2, 5), (7, 5), (7, 6), (8, 4), (13, 4), (18, 4), (361, 3), (361, 4), (361, 5), (361, 6), (361, 7), (361, 8), (361, 9)] [4, 5, 6, 9, 10, 11, 14, 15, 16, 17, 19, 20, 21, 22, 362] true H H136 := fq_w hf113 hw138 (fpo (by decide) rfl)
                  refine k_run 0 (pc' := 220) (l' := [(0, .inr (.inr 361)), (1, .inl x1), (2, .inl x2), (3, .inl x3), (4, .inl x4), (5, .inl x5), (6, .inl x6), (7, .inl 1), (8, .inl z90)]) (st' := []) rfl ?_
                  refine k_run 2 (pc' := 69) (l' := [(0, .inr (.inr 361)), (1, .inl x1), (2, .inl x2), (3, .inl x3), (4, .inl x4), (5, .inl x5), (6, .inl (x6 + 1)), (7, .inl 1), (8, .inl z90)]) (st' := []) rfl ?_
                  have g141 : -2147483648 ≤ (H136.1 361 4) ∧ (H136.1 361 4) ≤ 2147483647 := kn (x := kx_361) hI137 rfl 4
                  have e142 : (H136.1 361 4) = (H109.1 361 4) := hw138.2 _ _ (fun q => absurd q.1 (by decide))
                  refine h_loc [0, 1, 2, 3, 4, 5, 6, 7] rfl ?_
                  exact ih H136 hI137 hf140 x1 x2 x3 x4 x5 (x6 + 1) (1 : Int) (by omega) (by omega) (by omega) (by omega) (by omega) (by omega) (by decide) (by omega) (by omega) (by omega) (by omega) (by omega) (by omega) (by omega) (by omega) (by omega)
          · refine h_tout (t := 164) rfl (by omega) (Or.inr c91) rfl ?_
            refine k_run 1 (pc' := 165) (l' := [(0, .inr (.inr 361)), (1, .inl x1), (2, .inl x2), (3, .inl x3), (4, .inl x4), (5, .inl x5), (6, .inl x6), (7, .inl x7), (8, .inl z90)]) (st' := [.inr (.inr 361)]) rfl ?_
            refine h_cv (i := 89) (j := 85) (b := 361) (M' := mt_85) (xs := []) (rest := []) rfl rfl rfl rfl (zs_K (x := kx_361) rfl (by decide)) rfl (Nat.le_of_ble_eq_true rfl) (Nat.le_of_ble_eq_true rfl) (by omega) (f_Reader_misplaced (by omega) hI1 ) ?_
            rintro _ H144 ⟨z147, rfl, g143, hI145, hq146⟩
            have hf148 : fq [(2, 5), (7, 5), (7, 6), (8, 4), (13, 4), (18, 4), (361, 3), (361, 4), (361, 5), (361, 6), (361, 7), (361, 8), (361, 9)] [4, 5, 6, 9, 10, 11, 14, 15, 16, 17, 19, 20, 21, 22, 362] true H H144 := fq_t hf1 hq146 rfl rfl rfl
            refine k_run 0 (pc' := 168) (l' := [(0, .inr (.inr 361)), (1, .inl x1), (2, .inl x2), (3, .inl x3), (4, .inl x4), (5, .inl x5), (6, .inl x6), (7, .inl x7), (8, .inl z90)]) (st' := [.inl z147]) rfl ?_
            refine k_run 2 (pc' := 172) (l' := [(0, .inr (.inr 361)), (1, .inl x1), (2, .inl x2), (3, .inl x3), (4, .inl x4), (5, .inl x5), (6, .inl x6), (7, .inl z147), (8, .inl z90)]) (st' := [.inl z147]) rfl ?_
            refine h_zeq (off := 16) (t := 188) rfl rfl (by omega) (fun c149 => ?_) (fun c149 => ?_)
            · refine k_run 0 (pc' := 188) (l' := [(0, .inr (.inr 361)), (1, .inl x1), (2, .inl x2), (3, .inl x3), (4, .inl x4), (5, .inl x5), (6, .inl x6), (7, .inl z147), (8, .inl z90)]) (st' := []) rfl ?_
              refine k_run 6 (pc' := 199) (l' := [(0, .inr (.inr 361)), (1, .inl x1), (2, .inl x2), (3, .inl x3), (4, .inl x4), (5, .inl x5), (6, .inl x6), (7, .inl 0), (8, .inl z90)]) (st' := [.inl (H144.1 7 6), .inr (.inr 7)]) rfl ?_
              have g150 : 0 ≤ (H144.1 7 6) ∧ (H144.1 7 6) ≤ 16 := kn (x := kx_7) hI145 rfl 6
              have e151 : (H144.1 7 6) = (H1.1 7 6) := (hq146.1 7 6 rfl (by decide) (by decide)).1
              refine k_run 1 (pc' := 201) (l' := [(0, .inr (.inr 361)), (1, .inl x1), (2, .inl x2), (3, .inl x3), (4, .inl x4), (5, .inl x5), (6, .inl x6), (7, .inl 0), (8, .inl z90)]) (st' := [.inl 0, .inl (H144.1 7 6), .inr (.inr 7)]) rfl ?_
              refine h_zeq (off := 14) (t := 215) rfl rfl (by decide) (fun _ => ?_) (fun c => absurd c (by decide))
              refine k_run 0 (pc' := 215) (l' := [(0, .inr (.inr 361)), (1, .inl x1), (2, .inl x2), (3, .inl x3), (4, .inl x4), (5, .inl x5), (6, .inl x6), (7, .inl 0), (8, .inl z90)]) (st' := [.inl (H144.1 7 6), .inr (.inr 7)]) rfl ?_
              refine k_run 2 (pc' := 217) (l' := [(0, .inr (.inr 361)), (1, .inl x1), (2, .inl x2), (3, .inl x3), (4, .inl x4), (5, .inl x5), (6, .inl x6), (7, .inl 0), (8, .inl z90)]) (st' := [.inl ((H144.1 7 6) + 0), .inr (.inr 7)]) rfl ?_
              refine k_puti (z := ((H144.1 7 6) + 0)) (a := 7) (x := kx_7) rfl rfl rfl (by decide) (by decide) rfl rfl rfl rfl hI145 (by omega) (show 0 ≤ ((H144.1 7 6) + 0) ∧ ((H144.1 7 6) + 0) ≤ 16 by omega) (fun H152 hI153 hw154 hv155 => ?_)
              have hf156 : fq [(2, 5), (7, 5), (7, 6), (8, 4), (13, 4), (18, 4), (361, 3), (361, 4), (361, 5), (361, 6), (361, 7), (361, 8), (361, 9)] [4, 5, 6, 9, 10, 11, 14, 15, 16, 17, 19, 20, 21, 22, 362] true H H152 := fq_w hf148 hw154 (fpo (by decide) rfl)
              refine k_run 0 (pc' := 220) (l' := [(0, .inr (.inr 361)), (1, .inl x1), (2, .inl x2), (3, .inl x3), (4, .inl x4), (5, .inl x5), (6, .inl x6), (7, .inl 0), (8, .inl z90)]) (st' := []) rfl ?_
              refine k_run 2 (pc' := 69) (l' := [(0, .inr (.inr 361)), (1, .inl x1), (2, .inl x2), (3, .inl x3), (4, .inl x4), (5, .inl x5), (6, .inl (x6 + 1)), (7, .inl 0), (8, .inl z90)]) (st' := []) rfl ?_
              have g157 : -2147483648 ≤ (H152.1 361 4) ∧ (H152.1 361 4) ≤ 2147483647 := kn (x := kx_361) hI153 rfl 4
              have e158 : (H152.1 361 4) = (H144.1 361 4) := hw154.2 _ _ (fun q => absurd q.1 (by decide))
              refine h_loc [0, 1, 2, 3, 4, 5, 6, 7] rfl ?_
              exact ih H152 hI153 hf156 x1 x2 x3 x4 x5 (x6 + 1) (0 : Int) (by omega) (by omega) (by omega) (by omega) (by omega) (by omega) (by decide) (by omega) (by omega) (by omega) (by omega) (by omega) (by omega) (by omega) (by omega) (by omega)
            · refine k_run 0 (pc' := 175) (l' := [(0, .inr (.inr 361)), (1, .inl x1), (2, .inl x2), (3, .inl x3), (4, .inl x4), (5, .inl x5), (6, .inl x6), (7, .inl z147), (8, .inl z90)]) (st' := []) rfl ?_
              refine k_run 2 (pc' := 178) (l' := [(0, .inr (.inr 361)), (1, .inl x1), (2, .inl x2), (3, .inl x3), (4, .inl x4), (5, .inl x5), (6, .inl x6), (7, .inl z147), (8, .inl z90)]) (st' := [.inl 59, .inr (.inr 361)]) rfl ?_
              refine h_cv (i := 92) (j := 82) (b := 361) (M' := mt_82) (xs := [.inl 59]) (rest := []) rfl rfl rfl rfl (zs_K (x := kx_361) rfl (by decide)) rfl (Nat.le_of_ble_eq_true rfl) (Nat.le_of_ble_eq_true rfl) (by omega) (f_Reader_take (by omega) hI145 (by decide)) ?_
              rintro _ H160 ⟨z163, rfl, g159, hI161, hq162⟩
              have hf164 : fq [(2, 5), (7, 5), (7, 6), (8, 4), (13, 4), (18, 4), (361, 3), (361, 4), (361, 5), (361, 6), (361, 7), (361, 8), (361, 9)] [4, 5, 6, 9, 10, 11, 14, 15, 16, 17, 19, 20, 21, 22, 362] true H H160 := fq_t hf148 hq162 rfl rfl rfl
              refine k_run 0 (pc' := 181) (l' := [(0, .inr (.inr 361)), (1, .inl x1), (2, .inl x2), (3, .inl x3), (4, .inl x4), (5, .inl x5), (6, .inl x6), (7, .inl z147), (8, .inl z90)]) (st' := [.inl z163]) rfl ?_
              refine h_zeq (off := 7) (t := 188) rfl rfl (by omega) (fun c165 => ?_) (fun c165 => ?_)
              · refine k_run 0 (pc' := 188) (l' := [(0, .inr (.inr 361)), (1, .inl x1), (2, .inl x2), (3, .inl x3), (4, .inl x4), (5, .inl x5), (6, .inl x6), (7, .inl z147), (8, .inl z90)]) (st' := []) rfl ?_
                refine k_run 6 (pc' := 199) (l' := [(0, .inr (.inr 361)), (1, .inl x1), (2, .inl x2), (3, .inl x3), (4, .inl x4), (5, .inl x5), (6, .inl x6), (7, .inl 0), (8, .inl z90)]) (st' := [.inl (H160.1 7 6), .inr (.inr 7)]) rfl ?_
                have g166 : 0 ≤ (H160.1 7 6) ∧ (H160.1 7 6) ≤ 16 := kn (x := kx_7) hI161 rfl 6
                have e167 : (H160.1 7 6) = (H144.1 7 6) := (hq162.1 7 6 rfl (by decide) (by decide)).1
                have e168 : (H144.1 7 6) = (H1.1 7 6) := (hq146.1 7 6 rfl (by decide) (by decide)).1
                refine k_run 1 (pc' := 201) (l' := [(0, .inr (.inr 361)), (1, .inl x1), (2, .inl x2), (3, .inl x3), (4, .inl x4), (5, .inl x5), (6, .inl x6), (7, .inl 0), (8, .inl z90)]) (st' := [.inl 0, .inl (H160.1 7 6), .inr (.inr 7)]) rfl ?_
                refine h_zeq (off := 14) (t := 215) rfl rfl (by decide) (fun _ => ?_) (fun c => absurd c (by decide))
                refine k_run 0 (pc' := 215) (l' := [(0, .inr (.inr 361)), (1, .inl x1), (2, .inl x2), (3, .inl x3), (4, .inl x4), (5, .inl x5), (6, .inl x6), (7, .inl 0), (8, .inl z90)]) (st' := [.inl (H160.1 7 6), .inr (.inr 7)]) rfl ?_
                refine k_run 2 (pc' := 217) (l' := [(0, .inr (.inr 361)), (1, .inl x1), (2, .inl x2), (3, .inl x3), (4, .inl x4), (5, .inl x5), (6, .inl x6), (7, .inl 0), (8, .inl z90)]) (st' := [.inl ((H160.1 7 6) + 0), .inr (.inr 7)]) rfl ?_
                refine k_puti (z := ((H160.1 7 6) + 0)) (a := 7) (x := kx_7) rfl rfl rfl (by decide) (by decide) rfl rfl rfl rfl hI161 (by omega) (show 0 ≤ ((H160.1 7 6) + 0) ∧ ((H160.1 7 6) + 0) ≤ 16 by omega) (fun H169 hI170 hw171 hv172 => ?_)
                have hf173 : fq [(2, 5), (7, 5), (7, 6), (8, 4), (13, 4), (18, 4), (361, 3), (361, 4), (361, 5), (361, 6), (361, 7), (361, 8), (361, 9)] [4, 5, 6, 9, 10, 11, 14, 15, 16, 17, 19, 20, 21, 22, 362] true H H169 := fq_w hf164 hw171 (fpo (by decide) rfl)
                refine k_run 0 (pc' := 220) (l' := [(0, .inr (.inr 361)), (1, .inl x1), (2, .inl x2), (3, .inl x3), (4, .inl x4), (5, .inl x5), (6, .inl x6), (7, .inl 0), (8, .inl z90)]) (st' := []) rfl ?_
                refine k_run 2 (pc' := 69) (l' := [(0, .inr (.inr 361)), (1, .inl x1), (2, .inl x2), (3, .inl x3), (4, .inl x4), (5, .inl x5), (6, .inl (x6 + 1)), (7, .inl 0), (8, .inl z90)]) (st' := []) rfl ?_
                have g174 : -2147483648 ≤ (H169.1 361 4) ∧ (H169.1 361 4) ≤ 2147483647 := kn (x := kx_361) hI170 rfl 4
                have e175 : (H169.1 361 4) = (H160.1 361 4) := hw171.2 _ _ (fun q => absurd q.1 (by decide))
                refine h_loc [0, 1, 2, 3, 4, 5, 6, 7] rfl ?_
                exact ih H169 hI170 hf173 x1 x2 x3 x4 x5 (x6 + 1) (0 : Int) (by omega) (by omega) (by omega) (by omega) (by omega) (by omega) (by decide) (by omega) (by omega) (by omega) (by omega) (by omega) (by omega) (by omega) (by omega) (by omega)
              · refine k_run 0 (pc' := 184) (l' := [(0, .inr (.inr 361)), (1, .inl x1), (2, .inl x2), (3, .inl x3), (4, .inl x4), (5, .inl x5), (6, .inl x6), (7, .inl z147), (8, .inl z90)]) (st' := []) rfl ?_
                refine k_run 7 (pc' := 199) (l' := [(0, .inr (.inr 361)), (1, .inl x1), (2, .inl x2), (3, .inl x3), (4, .inl x4), (5, .inl x5), (6, .inl x6), (7, .inl 1), (8, .inl z90)]) (st' := [.inl (H160.1 7 6), .inr (.inr 7)]) rfl ?_
                have g176 : 0 ≤ (H160.1 7 6) ∧ (H160.1 7 6) ≤ 16 := kn (x := kx_7) hI161 rfl 6
                have e177 : (H160.1 7 6) = (H144.1 7 6) := (hq162.1 7 6 rfl (by decide) (by decide)).1
                have e178 : (H144.1 7 6) = (H1.1 7 6) := (hq146.1 7 6 rfl (by decide) (by decide)).1
                refine k_run 1 (pc' := 201) (l' := [(0, .inr (.inr 361)), (1, .inl x1), (2, .inl x2), (3, .inl x3), (4, .inl x4), (5, .inl x5), (6, .inl x6), (7, .inl 1), (8, .inl z90)]) (st' := [.inl 1, .inl (H160.1 7 6), .inr (.inr 7)]) rfl ?_
                refine h_zeq (off := 14) (t := 215) rfl rfl (by decide) (fun c => absurd c (by decide)) (fun _ => ?_)
                refine k_run 0 (pc' := 204) (l' := [(0, .inr (.inr 361)), (1, .inl x1), (2, .inl x2), (3, .inl x3), (4, .inl x4), (5, .inl x5), (6, .inl x6), (7, .inl 1), (8, .inl z90)]) (st' := [.inl (H160.1 7 6), .inr (.inr 7)]) rfl ?_
                refine k_run 2 (pc' := 208) (l' := [(0, .inr (.inr 361)), (1, .inl x1), (2, .inl x2), (3, .inl x3), (4, .inl x4), (5, .inl x5), (6, .inl x6), (7, .inl 1), (8, .inl z90)]) (st' := [.inl 7, .inl z90, .inl (H160.1 7 6), .inr (.inr 7)]) rfl ?_
                refine h_ine (off := 7) (t := 215) rfl rfl (by omega) (by decide) (fun c179 => ?_) (fun c179 => ?_)
                · refine k_run 0 (pc' := 215) (l' := [(0, .inr (.inr 361)), (1, .inl x1), (2, .inl x2), (3, .inl x3), (4, .inl x4), (5, .inl x5), (6, .inl x6), (7, .inl 1), (8, .inl z90)]) (st' := [.inl (H160.1 7 6), .inr (.inr 7)]) rfl ?_
                  refine k_run 2 (pc' := 217) (l' := [(0, .inr (.inr 361)), (1, .inl x1), (2, .inl x2), (3, .inl x3), (4, .inl x4), (5, .inl x5), (6, .inl x6), (7, .inl 1), (8, .inl z90)]) (st' := [.inl ((H160.1 7 6) + 0), .inr (.inr 7)]) rfl ?_
                  refine k_puti (z := ((H160.1 7 6) + 0)) (a := 7) (x := kx_7) rfl rfl rfl (by decide) (by decide) rfl rfl rfl rfl hI161 (by omega) (show 0 ≤ ((H160.1 7 6) + 0) ∧ ((H160.1 7 6) + 0) ≤ 16 by omega) (fun H180 hI181 hw182 hv183 => ?_)
                  have hf184 : fq [(2, 5), (7, 5), (7, 6), (8, 4), (13, 4), (18, 4), (361, 3), (361, 4), (361, 5), (361, 6), (361, 7), (361, 8), (361, 9)] [4, 5, 6, 9, 10, 11, 14, 15, 16, 17, 19, 20, 21, 22, 362] true H H180 := fq_w hf164 hw182 (fpo (by decide) rfl)
                  refine k_run 0 (pc' := 220) (l' := [(0, .inr (.inr 361)), (1, .inl x1), (2, .inl x2), (3, .inl x3), (4, .inl x4), (5, .inl x5), (6, .inl x6), (7, .inl 1), (8, .inl z90)]) (st' := []) rfl ?_
                  refine k_run 2 (pc' := 69) (l' := [(0, .inr (.inr 361)), (1, .inl x1), (2, .inl x2), (3, .inl x3), (4, .inl x4), (5, .inl x5), (6, .inl (x6 + 1)), (7, .inl 1), (8, .inl z90)]) (st' := []) rfl ?_
                  have g185 : -2147483648 ≤ (H180.1 361 4) ∧ (H180.1 361 4) ≤ 2147483647 := kn (x := kx_361) hI181 rfl 4
                  have e186 : (H180.1 361 4) = (H160.1 361 4) := hw182.2 _ _ (fun q => absurd q.1 (by decide))
                  refine h_loc [0, 1, 2, 3, 4, 5, 6, 7] rfl ?_
                  exact ih H180 hI181 hf184 x1 x2 x3 x4 x5 (x6 + 1) (1 : Int) (by omega) (by omega) (by omega) (by omega) (by omega) (by omega) (by decide) (by omega) (by omega) (by omega) (by omega) (by omega) (by omega) (by omega) (by omega) (by omega)
                · refine k_run 0 (pc' := 211) (l' := [(0, .inr (.inr 361)), (1, .inl x1), (2, .inl x2), (3, .inl x3), (4, .inl x4), (5, .inl x5), (6, .inl x6), (7, .inl 1), (8, .inl z90)]) (st' := [.inl (H160.1 7 6), .inr (.inr 7)]) rfl ?_
                  refine k_run 3 (pc' := 217) (l' := [(0, .inr (.inr 361)), (1, .inl x1), (2, .inl x2), (3, .inl x3), (4, .inl x4), (5, .inl x5), (6, .inl x6), (7, .inl 1), (8, .inl z90)]) (st' := [.inl ((H160.1 7 6) + 1), .inr (.inr 7)]) rfl ?_
                  refine k_puti (z := ((H160.1 7 6) + 1)) (a := 7) (x := kx_7) rfl rfl rfl (by decide) (by decide) rfl rfl rfl rfl hI161 (by omega) (show 0 ≤ ((H160.1 7 6) + 1) ∧ ((H160.1 7 6) + 1) ≤ 16 by omega) (fun H187 hI188 hw189 hv190 => ?_)
                  have hf191 : fq [(2, 5), (7, 5), (7, 6), (8, 4), (13, 4), (18, 4), (361, 3), (361, 4), (361, 5), (361, 6), (361, 7), (361, 8), (361, 9)] [4, 5, 6, 9, 10, 11, 14, 15, 16, 17, 19, 20, 21, 22, 362] true H H187 := fq_w hf164 hw189 (fpo (by decide) rfl)
                  refine k_run 0 (pc' := 220) (l' := [(0, .inr (.inr 361)), (1, .inl x1), (2, .inl x2), (3, .inl x3), (4, .inl x4), (5, .inl x5), (6, .inl x6), (7, .inl 1), (8, .inl z90)]) (st' := []) rfl ?_
                  refine k_run 2 (pc' := 69) (l' := [(0, .inr (.inr 361)), (1, .inl x1), (2, .inl x2), (3, .inl x3), (4, .inl x4), (5, .inl x5), (6, .inl (x6 + 1)), (7, .inl 1), (8, .inl z90)]) (st' := []) rfl ?_
                  have g192 : -2147483648 ≤ (H187.1 361 4) ∧ (H187.1 361 4) ≤ 2147483647 := kn (x := kx_361) hI188 rfl 4
                  have e193 : (H187.1 361 4) = (H160.1 361 4) := hw189.2 _ _ (fun q => absurd q.1 (by decide))
                  refine h_loc [0, 1, 2, 3, 4, 5, 6, 7] rfl ?_
                  exact ih H187 hI188 hf191 x1 x2 x3 x4 x5 (x6 + 1) (1 : Int) (by omega) (by omega) (by omega) (by omega) (by omega) (by omega) (by decide) (by omega) (by omega) (by omega) (by omega) (by omega) (by omega) (by omega) (by omega) (by omega)
          · refine h_tin (k := 0) (t := 128) rfl (by omega) (show z90 = 4 + ((0 : Nat) : Int) by omega) (by decide) rfl rfl ?_
            refine k_run 1 (pc' := 129) (l' := [(0, .inr (.inr 361)), (1, .inl x1), (2, .inl x2), (3, .inl x3), (4, .inl x4), (5, .inl x5), (6, .inl x6), (7, .inl x7), (8, .inl z90)]) (st' := [.inr (.inr 361)]) rfl ?_
            refine h_cv (i := 76) (j := 64) (b := 361) (M' := mt_64) (xs := []) (rest := []) rfl rfl rfl rfl (zs_K (x := kx_361) rfl (by decide)) rfl (Nat.le_of_ble_eq_true rfl) (Nat.le_of_ble_eq_true rfl) (by omega) (f_Reader_readData (by omega) hI1 ) ?_
            rintro _ H195 ⟨z198, rfl, g194, hI196, hq197⟩
            have hf199 : fq [(2, 5), (7, 5), (7, 6), (8, 4), (13, 4), (18, 4), (361, 3), (361, 4), (361, 5), (361, 6), (361, 7), (361, 8), (361, 9)] [4, 5, 6, 9, 10, 11, 14, 15, 16, 17, 19, 20, 21, 22, 362] true H H195 := fq_t hf1 hq197 rfl rfl rfl
            refine k_run 0 (pc' := 132) (l' := [(0, .inr (.inr 361)), (1, .inl x1), (2, .inl x2), (3, .inl x3), (4, .inl x4), (5, .inl x5), (6, .inl x6), (7, .inl x7), (8, .inl z90)]) (st' := [.inl z198]) rfl ?_
            refine k_run 3 (pc' := 172) (l' := [(0, .inr (.inr 361)), (1, .inl x1), (2, .inl x2), (3, .inl x3), (4, .inl x4), (5, .inl x5), (6, .inl x6), (7, .inl z198), (8, .inl z90)]) (st' := [.inl z198]) rfl ?_
            refine h_zeq (off := 16) (t := 188) rfl rfl (by omega) (fun c200 => ?_) (fun c200 => ?_)
            · refine k_run 0 (pc' := 188) (l' := [(0, .inr (.inr 361)), (1, .inl x1), (2, .inl x2), (3, .inl x3), (4, .inl x4), (5, .inl x5), (6, .inl x6), (7, .inl z198), (8, .inl z90)]) (st' := []) rfl ?_
              refine k_run 6 (pc' := 199) (l' := [(0, .inr (.inr 361)), (1, .inl x1), (2, .inl x2), (3, .inl x3), (4, .inl x4), (5, .inl x5), (6, .inl x6), (7, .inl 0), (8, .inl z90)]) (st' := [.inl (H195.1 7 6), .inr (.inr 7)]) rfl ?_
              have g201 : 0 ≤ (H195.1 7 6) ∧ (H195.1 7 6) ≤ 16 := kn (x := kx_7) hI196 rfl 6
              have e202 : (H195.1 7 6) = (H1.1 7 6) := (hq197.1 7 6 rfl (by decide) (by decide)).1
              refine k_run 1 (pc' := 201) (l' := [(0, .inr (.inr 361)), (1, .inl x1), (2, .inl x2), (3, .inl x3), (4, .inl x4), (5, .inl x5), (6, .inl x6), (7, .inl 0), (8, .inl z90)]) (st' := [.inl 0, .inl (H195.1 7 6), .inr (.inr 7)]) rfl ?_
              refine h_zeq (off := 14) (t := 215) rfl rfl (by decide) (fun _ => ?_) (fun c => absurd c (by decide))
              refine k_run 0 (pc' := 215) (l' := [(0, .inr (.inr 361)), (1, .inl x1), (2, .inl x2), (3, .inl x3), (4, .inl x4), (5, .inl x5), (6, .inl x6), (7, .inl 0), (8, .inl z90)]) (st' := [.inl (H195.1 7 6), .inr (.inr 7)]) rfl ?_
              refine k_run 2 (pc' := 217) (l' := [(0, .inr (.inr 361)), (1, .inl x1), (2, .inl x2), (3, .inl x3), (4, .inl x4), (5, .inl x5), (6, .inl x6), (7, .inl 0), (8, .inl z90)]) (st' := [.inl ((H195.1 7 6) + 0), .inr (.inr 7)]) rfl ?_
              refine k_puti (z := ((H195.1 7 6) + 0)) (a := 7) (x := kx_7) rfl rfl rfl (by decide) (by decide) rfl rfl rfl rfl hI196 (by omega) (show 0 ≤ ((H195.1 7 6) + 0) ∧ ((H195.1 7 6) + 0) ≤ 16 by omega) (fun H203 hI204 hw205 hv206 => ?_)
              have hf207 : fq [(2, 5), (7, 5), (7, 6), (8, 4), (13, 4), (18, 4), (361, 3), (361, 4), (361, 5), (361, 6), (361, 7), (361, 8), (361, 9)] [4, 5, 6, 9, 10, 11, 14, 15, 16, 17, 19, 20, 21, 22, 362] true H H203 := fq_w hf199 hw205 (fpo (by decide) rfl)
              refine k_run 0 (pc' := 220) (l' := [(0, .inr (.inr 361)), (1, .inl x1), (2, .inl x2), (3, .inl x3), (4, .inl x4), (5, .inl x5), (6, .inl x6), (7, .inl 0), (8, .inl z90)]) (st' := []) rfl ?_
              refine k_run 2 (pc' := 69) (l' := [(0, .inr (.inr 361)), (1, .inl x1), (2, .inl x2), (3, .inl x3), (4, .inl x4), (5, .inl x5), (6, .inl (x6 + 1)), (7, .inl 0), (8, .inl z90)]) (st' := []) rfl ?_
              have g208 : -2147483648 ≤ (H203.1 361 4) ∧ (H203.1 361 4) ≤ 2147483647 := kn (x := kx_361) hI204 rfl 4
              have e209 : (H203.1 361 4) = (H195.1 361 4) := hw205.2 _ _ (fun q => absurd q.1 (by decide))
              refine h_loc [0, 1, 2, 3, 4, 5, 6, 7] rfl ?_
              exact ih H203 hI204 hf207 x1 x2 x3 x4 x5 (x6 + 1) (0 : Int) (by omega) (by omega) (by omega) (by omega) (by omega) (by omega) (by decide) (by omega) (by omega) (by omega) (by omega) (by omega) (by omega) (by omega) (by omega) (by omega)
            · refine k_run 0 (pc' := 175) (l' := [(0, .inr (.inr 361)), (1, .inl x1), (2, .inl x2), (3, .inl x3), (4, .inl x4), (5, .inl x5), (6, .inl x6), (7, .inl z198), (8, .inl z90)]) (st' := []) rfl ?_
              refine k_run 2 (pc' := 178) (l' := [(0, .inr (.inr 361)), (1, .inl x1), (2, .inl x2), (3, .inl x3), (4, .inl x4), (5, .inl x5), (6, .inl x6), (7, .inl z198), (8, .inl z90)]) (st' := [.inl 59, .inr (.inr 361)]) rfl ?_
              refine h_cv (i := 92) (j := 82) (b := 361) (M' := mt_82) (xs := [.inl 59]) (rest := []) rfl rfl rfl rfl (zs_K (x := kx_361) rfl (by decide)) rfl (Nat.le_of_ble_eq_true rfl) (Nat.le_of_ble_eq_true rfl) (by omega) (f_Reader_take (by omega) hI196 (by decide)) ?_
              rintro _ H211 ⟨z214, rfl, g210, hI212, hq213⟩
              have hf215 : fq [(2, 5), (7, 5), (7, 6), (8, 4), (13, 4), (18, 4), (361, 3), (361, 4), (361, 5), (361, 6), (361, 7), (361, 8), (361, 9)] [4, 5, 6, 9, 10, 11, 14, 15, 16, 17, 19, 20, 21, 22, 362] true H H211 := fq_t hf199 hq213 rfl rfl rfl
              refine k_run 0 (pc' := 181) (l' := [(0, .inr (.inr 361)), (1, .inl x1), (2, .inl x2), (3, .inl x3), (4, .inl x4), (5, .inl x5), (6, .inl x6), (7, .inl z198), (8, .inl z90)]) (st' := [.inl z214]) rfl ?_
              refine h_zeq (off := 7) (t := 188) rfl rfl (by omega) (fun c216 => ?_) (fun c216 => ?_)
              · refine k_run 0 (pc' := 188) (l' := [(0, .inr (.inr 361)), (1, .inl x1), (2, .inl x2), (3, .inl x3), (4, .inl x4), (5, .inl x5), (6, .inl x6), (7, .inl z198), (8, .inl z90)]) (st' := []) rfl ?_
                refine k_run 6 (pc' := 199) (l' := [(0, .inr (.inr 361)), (1, .inl x1), (2, .inl x2), (3, .inl x3), (4, .inl x4), (5, .inl x5), (6, .inl x6), (7, .inl 0), (8, .inl z90)]) (st' := [.inl (H211.1 7 6), .inr (.inr 7)]) rfl ?_
                have g217 : 0 ≤ (H211.1 7 6) ∧ (H211.1 7 6) ≤ 16 := kn (x := kx_7) hI212 rfl 6
                have e218 : (H211.1 7 6) = (H195.1 7 6) := (hq213.1 7 6 rfl (by decide) (by decide)).1
                have e219 : (H195.1 7 6) = (H1.1 7 6) := (hq197.1 7 6 rfl (by decide) (by decide)).1
                refine k_run 1 (pc' := 201) (l' := [(0, .inr (.inr 361)), (1, .inl x1), (2, .inl x2), (3, .inl x3), (4, .inl x4), (5, .inl x5), (6, .inl x6), (7, .inl 0), (8, .inl z90)]) (st' := [.inl 0, .inl (H211.1 7 6), .inr (.inr 7)]) rfl ?_
                refine h_zeq (off := 14) (t := 215) rfl rfl (by decide) (fun _ => ?_) (fun c => absurd c (by decide))
                refine k_run 0 (pc' := 215) (l' := [(0, .inr (.inr 361)), (1, .inl x1), (2, .inl x2), (3, .inl x3), (4, .inl x4), (5, .inl x5), (6, .inl x6), (7, .inl 0), (8, .inl z90)]) (st' := [.inl (H211.1 7 6), .inr (.inr 7)]) rfl ?_
                refine k_run 2 (pc' := 217) (l' := [(0, .inr (.inr 361)), (1, .inl x1), (2, .inl x2), (3, .inl x3), (4, .inl x4), (5, .inl x5), (6, .inl x6), (7, .inl 0), (8, .inl z90)]) (st' := [.inl ((H211.1 7 6) + 0), .inr (.inr 7)]) rfl ?_
                refine k_puti (z := ((H211.1 7 6) + 0)) (a := 7) (x := kx_7) rfl rfl rfl (by decide) (by decide) rfl rfl rfl rfl hI212 (by omega) (show 0 ≤ ((H211.1 7 6) + 0) ∧ ((H211.1 7 6) + 0) ≤ 16 by omega) (fun H220 hI221 hw222 hv223 => ?_)
                have hf224 : fq [(2, 5), (7, 5), (7, 6), (8, 4), (13, 4), (18, 4), (361, 3), (361, 4), (361, 5), (361, 6), (361, 7), (361, 8), (361, 9)] [4, 5, 6, 9, 10, 11, 14, 15, 16, 17, 19, 20, 21, 22, 362] true H H220 := fq_w hf215 hw222 (fpo (by decide) rfl)
                refine k_run 0 (pc' := 220) (l' := [(0, .inr (.inr 361)), (1, .inl x1), (2, .inl x2), (3, .inl x3), (4, .inl x4), (5, .inl x5), (6, .inl x6), (7, .inl 0), (8, .inl z90)]) (st' := []) rfl ?_
                refine k_run 2 (pc' := 69) (l' := [(0, .inr (.inr 361)), (1, .inl x1), (2, .inl x2), (3, .inl x3), (4, .inl x4), (5, .inl x5), (6, .inl (x6 + 1)), (7, .inl 0), (8, .inl z90)]) (st' := []) rfl ?_
                have g225 : -2147483648 ≤ (H220.1 361 4) ∧ (H220.1 361 4) ≤ 2147483647 := kn (x := kx_361) hI221 rfl 4
                have e226 : (H220.1 361 4) = (H211.1 361 4) := hw222.2 _ _ (fun q => absurd q.1 (by decide))
                refine h_loc [0, 1, 2, 3, 4, 5, 6, 7] rfl ?_
                exact ih H220 hI221 hf224 x1 x2 x3 x4 x5 (x6 + 1) (0 : Int) (by omega) (by omega) (by omega) (by omega) (by omega) (by omega) (by decide) (by omega) (by omega) (by omega) (by omega) (by omega) (by omega) (by omega) (by omega) (by omega)
              · refine k_run 0 (pc' := 184) (l' := [(0, .inr (.inr 361)), (1, .inl x1), (2, .inl x2), (3, .inl x3), (4, .inl x4), (5, .inl x5), (6, .inl x6), (7, .inl z198), (8, .inl z90)]) (st' := []) rfl ?_
                refine k_run 7 (pc' := 199) (l' := [(0, .inr (.inr 361)), (1, .inl x1), (2, .inl x2), (3, .inl x3), (4, .inl x4), (5, .inl x5), (6, .inl x6), (7, .inl 1), (8, .inl z90)]) (st' := [.inl (H211.1 7 6), .inr (.inr 7)]) rfl ?_
                have g227 : 0 ≤ (H211.1 7 6) ∧ (H211.1 7 6) ≤ 16 := kn (x := kx_7) hI212 rfl 6
                have e228 : (H211.1 7 6) = (H195.1 7 6) := (hq213.1 7 6 rfl (by decide) (by decide)).1
                have e229 : (H195.1 7 6) = (H1.1 7 6) := (hq197.1 7 6 rfl (by decide) (by decide)).1
                refine k_run 1 (pc' := 201) (l' := [(0, .inr (.inr 361)), (1, .inl x1), (2, .inl x2), (3, .inl x3), (4, .inl x4), (5, .inl x5), (6, .inl x6), (7, .inl 1), (8, .inl z90)]) (st' := [.inl 1, .inl (H211.1 7 6), .inr (.inr 7)]) rfl ?_
                refine h_zeq (off := 14) (t := 215) rfl rfl (by decide) (fun c => absurd c (by decide)) (fun _ => ?_)
                refine k_run 0 (pc' := 204) (l' := [(0, .inr (.inr 361)), (1, .inl x1), (2, .inl x2), (3, .inl x3), (4, .inl x4), (5, .inl x5), (6, .inl x6), (7, .inl 1), (8, .inl z90)]) (st' := [.inl (H211.1 7 6), .inr (.inr 7)]) rfl ?_
                refine k_run 2 (pc' := 208) (l' := [(0, .inr (.inr 361)), (1, .inl x1), (2, .inl x2), (3, .inl x3), (4, .inl x4), (5, .inl x5), (6, .inl x6), (7, .inl 1), (8, .inl z90)]) (st' := [.inl 7, .inl z90, .inl (H211.1 7 6), .inr (.inr 7)]) rfl ?_
                refine h_ine (off := 7) (t := 215) rfl rfl (by omega) (by decide) (fun c230 => ?_) (fun c230 => ?_)
                · refine k_run 0 (pc' := 215) (l' := [(0, .inr (.inr 361)), (1, .inl x1), (2, .inl x2), (3, .inl x3), (4, .inl x4), (5, .inl x5), (6, .inl x6), (7, .inl 1), (8, .inl z90)]) (st' := [.inl (H211.1 7 6), .inr (.inr 7)]) rfl ?_
                  refine k_run 2 (pc' := 217) (l' := [(0, .inr (.inr 361)), (1, .inl x1), (2, .inl x2), (3, .inl x3), (4, .inl x4), (5, .inl x5), (6, .inl x6), (7, .inl 1), (8, .inl z90)]) (st' := [.inl ((H211.1 7 6) + 0), .inr (.inr 7)]) rfl ?_
                  refine k_puti (z := ((H211.1 7 6) + 0)) (a := 7) (x := kx_7) rfl rfl rfl (by decide) (by decide) rfl rfl rfl rfl hI212 (by omega) (show 0 ≤ ((H211.1 7 6) + 0) ∧ ((H211.1 7 6) + 0) ≤ 16 by omega) (fun H231 hI232 hw233 hv234 => ?_)
                  have hf235 : fq [(2, 5), (7, 5), (7, 6), (8, 4), (13, 4), (18, 4), (361, 3), (361, 4), (361, 5), (361, 6), (361, 7), (361, 8), (361, 9)] [4, 5, 6, 9, 10, 11, 14, 15, 16, 17, 19, 20, 21, 22, 362] true H H231 := fq_w hf215 hw233 (fpo (by decide) rfl)
                  refine k_run 0 (pc' := 220) (l' := [(0, .inr (.inr 361)), (1, .inl x1), (2, .inl x2), (3, .inl x3), (4, .inl x4), (5, .inl x5), (6, .inl x6), (7, .inl 1), (8, .inl z90)]) (st' := []) rfl ?_
                  refine k_run 2 (pc' := 69) (l' := [(0, .inr (.inr 361)), (1, .inl x1), (2, .inl x2), (3, .inl x3), (4, .inl x4), (5, .inl x5), (6, .inl (x6 + 1)), (7, .inl 1), (8, .inl z90)]) (st' := []) rfl ?_
                  have g236 : -2147483648 ≤ (H231.1 361 4) ∧ (H231.1 361 4) ≤ 2147483647 := kn (x := kx_361) hI232 rfl 4
                  have e237 : (H231.1 361 4) = (H211.1 361 4) := hw233.2 _ _ (fun q => absurd q.1 (by decide))
                  refine h_loc [0, 1, 2, 3, 4, 5, 6, 7] rfl ?_
                  exact ih H231 hI232 hf235 x1 x2 x3 x4 x5 (x6 + 1) (1 : Int) (by omega) (by omega) (by omega) (by omega) (by omega) (by omega) (by decide) (by omega) (by omega) (by omega) (by omega) (by omega) (by omega) (by omega) (by omega) (by omega)
                · refine k_run 0 (pc' := 211) (l' := [(0, .inr (.inr 361)), (1, .inl x1), (2, .inl x2), (3, .inl x3), (4, .inl x4), (5, .inl x5), (6, .inl x6), (7, .inl 1), (8, .inl z90)]) (st' := [.inl (H211.1 7 6), .inr (.inr 7)]) rfl ?_
                  refine k_run 3 (pc' := 217) (l' := [(0, .inr (.inr 361)), (1, .inl x1), (2, .inl x2), (3, .inl x3), (4, .inl x4), (5, .inl x5), (6, .inl x6), (7, .inl 1), (8, .inl z90)]) (st' := [.inl ((H211.1 7 6) + 1), .inr (.inr 7)]) rfl ?_
                  refine k_puti (z := ((H211.1 7 6) + 1)) (a := 7) (x := kx_7) rfl rfl rfl (by decide) (by decide) rfl rfl rfl rfl hI212 (by omega) (show 0 ≤ ((H211.1 7 6) + 1) ∧ ((H211.1 7 6) + 1) ≤ 16 by omega) (fun H238 hI239 hw240 hv241 => ?_)
                  have hf242 : fq [(2, 5), (7, 5), (7, 6), (8, 4), (13, 4), (18, 4), (361, 3), (361, 4), (361, 5), (361, 6), (361, 7), (361, 8), (361, 9)] [4, 5, 6, 9, 10, 11, 14, 15, 16, 17, 19, 20, 21, 22, 362] true H H238 := fq_w hf215 hw240 (fpo (by decide) rfl)
                  refine k_run 0 (pc' := 220) (l' := [(0, .inr (.inr 361)), (1, .inl x1), (2, .inl x2), (3, .inl x3), (4, .inl x4), (5, .inl x5), (6, .inl x6), (7, .inl 1), (8, .inl z90)]) (st' := []) rfl ?_
                  refine k_run 2 (pc' := 69) (l' := [(0, .inr (.inr 361)), (1, .inl x1), (2, .inl x2), (3, .inl x3), (4, .inl x4), (5, .inl x5), (6, .inl (x6 + 1)), (7, .inl 1), (8, .inl z90)]) (st' := []) rfl ?_
                  have g243 : -2147483648 ≤ (H238.1 361 4) ∧ (H238.1 361 4) ≤ 2147483647 := kn (x := kx_361) hI239 rfl 4
                  have e244 : (H238.1 361 4) = (H211.1 361 4) := hw240.2 _ _ (fun q => absurd q.1 (by decide))
                  refine h_loc [0, 1, 2, 3, 4, 5, 6, 7] rfl ?_
                  exact ih H238 hI239 hf242 x1 x2 x3 x4 x5 (x6 + 1) (1 : Int) (by omega) (by omega) (by omega) (by omega) (by omega) (by omega) (by decide) (by omega) (by omega) (by omega) (by omega) (by omega) (by omega) (by omega) (by omega) (by omega)
          · refine h_tin (k := 1) (t := 137) rfl (by omega) (show z90 = 4 + ((1 : Nat) : Int) by omega) (by decide) rfl rfl ?_
            refine k_run 1 (pc' := 138) (l' := [(0, .inr (.inr 361)), (1, .inl x1), (2, .inl x2), (3, .inl x3), (4, .inl x4), (5, .inl x5), (6, .inl x6), (7, .inl x7), (8, .inl z90)]) (st' := [.inr (.inr 361)]) rfl ?_
            refine h_cv (i := 80) (j := 66) (b := 361) (M' := mt_66) (xs := []) (rest := []) rfl rfl rfl rfl (zs_K (x := kx_361) rfl (by decide)) rfl (Nat.le_of_ble_eq_true rfl) (Nat.le_of_ble_eq_true rfl) (by omega) (f_Reader_readFunction (by omega) hI1 ) ?_
            rintro _ H246 ⟨z249, rfl, g245, hI247, hq248⟩
            have hf250 : fq [(2, 5), (7, 5), (7, 6), (8, 4), (13, 4), (18, 4), (361, 3), (361, 4), (361, 5), (361, 6), (361, 7), (361, 8), (361, 9)] [4, 5, 6, 9, 10, 11, 14, 15, 16, 17, 19, 20, 21, 22, 362] true H H246 := fq_t hf1 hq248 rfl rfl rfl
            refine k_run 0 (pc' := 141) (l' := [(0, .inr (.inr 361)), (1, .inl x1), (2, .inl x2), (3, .inl x3), (4, .inl x4), (5, .inl x5), (6, .inl x6), (7, .inl x7), (8, .inl z90)]) (st' := [.inl z249]) rfl ?_
            refine k_run 3 (pc' := 172) (l' := [(0, .inr (.inr 361)), (1, .inl x1), (2, .inl x2), (3, .inl x3), (4, .inl x4), (5, .inl x5), (6, .inl x6), (7, .inl z249), (8, .inl z90)]) (st' := [.inl z249]) rfl ?_
            refine h_zeq (off := 16) (t := 188) rfl rfl (by omega) (fun c251 => ?_) (fun c251 => ?_)
            · refine k_run 0 (pc' := 188) (l' := [(0, .inr (.inr 361)), (1, .inl x1), (2, .inl x2), (3, .inl x3), (4, .inl x4), (5, .inl x5), (6, .inl x6), (7, .inl z249), (8, .inl z90)]) (st' := []) rfl ?_
              refine k_run 6 (pc' := 199) (l' := [(0, .inr (.inr 361)), (1, .inl x1), (2, .inl x2), (3, .inl x3), (4, .inl x4), (5, .inl x5), (6, .inl x6), (7, .inl 0), (8, .inl z90)]) (st' := [.inl (H246.1 7 6), .inr (.inr 7)]) rfl ?_
              have g252 : 0 ≤ (H246.1 7 6) ∧ (H246.1 7 6) ≤ 16 := kn (x := kx_7) hI247 rfl 6
              have e253 : (H246.1 7 6) = (H1.1 7 6) := (hq248.1 7 6 rfl (by decide) (by decide)).1
              refine k_run 1 (pc' := 201) (l' := [(0, .inr (.inr 361)), (1, .inl x1), (2, .inl x2), (3, .inl x3), (4, .inl x4), (5, .inl x5), (6, .inl x6), (7, .inl 0), (8, .inl z90)]) (st' := [.inl 0, .inl (H246.1 7 6), .inr (.inr 7)]) rfl ?_
              refine h_zeq (off := 14) (t := 215) rfl rfl (by decide) (fun _ => ?_) (fun c => absurd c (by decide))
              refine k_run 0 (pc' := 215) (l' := [(0, .inr (.inr 361)), (1, .inl x1), (2, .inl x2), (3, .inl x3), (4, .inl x4), (5, .inl x5), (6, .inl x6), (7, .inl 0), (8, .inl z90)]) (st' := [.inl (H246.1 7 6), .inr (.inr 7)]) rfl ?_
              refine k_run 2 (pc' := 217) (l' := [(0, .inr (.inr 361)), (1, .inl x1), (2, .inl x2), (3, .inl x3), (4, .inl x4), (5, .inl x5), (6, .inl x6), (7, .inl 0), (8, .inl z90)]) (st' := [.inl ((H246.1 7 6) + 0), .inr (.inr 7)]) rfl ?_
              refine k_puti (z := ((H246.1 7 6) + 0)) (a := 7) (x := kx_7) rfl rfl rfl (by decide) (by decide) rfl rfl rfl rfl hI247 (by omega) (show 0 ≤ ((H246.1 7 6) + 0) ∧ ((H246.1 7 6) + 0) ≤ 16 by omega) (fun H254 hI255 hw256 hv257 => ?_)
              have hf258 : fq [(2, 5), (7, 5), (7, 6), (8, 4), (13, 4), (18, 4), (361, 3), (361, 4), (361, 5), (361, 6), (361, 7), (361, 8), (361, 9)] [4, 5, 6, 9, 10, 11, 14, 15, 16, 17, 19, 20, 21, 22, 362] true H H254 := fq_w hf250 hw256 (fpo (by decide) rfl)
              refine k_run 0 (pc' := 220) (l' := [(0, .inr (.inr 361)), (1, .inl x1), (2, .inl x2), (3, .inl x3), (4, .inl x4), (5, .inl x5), (6, .inl x6), (7, .inl 0), (8, .inl z90)]) (st' := []) rfl ?_
              refine k_run 2 (pc' := 69) (l' := [(0, .inr (.inr 361)), (1, .inl x1), (2, .inl x2), (3, .inl x3), (4, .inl x4), (5, .inl x5), (6, .inl (x6 + 1)), (7, .inl 0), (8, .inl z90)]) (st' := []) rfl ?_
              have g259 : -2147483648 ≤ (H254.1 361 4) ∧ (H254.1 361 4) ≤ 2147483647 := kn (x := kx_361) hI255 rfl 4
              have e260 : (H254.1 361 4) = (H246.1 361 4) := hw256.2 _ _ (fun q => absurd q.1 (by decide))
              refine h_loc [0, 1, 2, 3, 4, 5, 6, 7] rfl ?_
              exact ih H254 hI255 hf258 x1 x2 x3 x4 x5 (x6 + 1) (0 : Int) (by omega) (by omega) (by omega) (by omega) (by omega) (by omega) (by decide) (by omega) (by omega) (by omega) (by omega) (by omega) (by omega) (by omega) (by omega) (by omega)
            · refine k_run 0 (pc' := 175) (l' := [(0, .inr (.inr 361)), (1, .inl x1), (2, .inl x2), (3, .inl x3), (4, .inl x4), (5, .inl x5), (6, .inl x6), (7, .inl z249), (8, .inl z90)]) (st' := []) rfl ?_
              refine k_run 2 (pc' := 178) (l' := [(0, .inr (.inr 361)), (1, .inl x1), (2, .inl x2), (3, .inl x3), (4, .inl x4), (5, .inl x5), (6, .inl x6), (7, .inl z249), (8, .inl z90)]) (st' := [.inl 59, .inr (.inr 361)]) rfl ?_
              refine h_cv (i := 92) (j := 82) (b := 361) (M' := mt_82) (xs := [.inl 59]) (rest := []) rfl rfl rfl rfl (zs_K (x := kx_361) rfl (by decide)) rfl (Nat.le_of_ble_eq_true rfl) (Nat.le_of_ble_eq_true rfl) (by omega) (f_Reader_take (by omega) hI247 (by decide)) ?_
              rintro _ H262 ⟨z265, rfl, g261, hI263, hq264⟩
              have hf266 : fq [(2, 5), (7, 5), (7, 6), (8, 4), (13, 4), (18, 4), (361, 3), (361, 4), (361, 5), (361, 6), (361, 7), (361, 8), (361, 9)] [4, 5, 6, 9, 10, 11, 14, 15, 16, 17, 19, 20, 21, 22, 362] true H H262 := fq_t hf250 hq264 rfl rfl rfl
              refine k_run 0 (pc' := 181) (l' := [(0, .inr (.inr 361)), (1, .inl x1), (2, .inl x2), (3, .inl x3), (4, .inl x4), (5, .inl x5), (6, .inl x6), (7, .inl z249), (8, .inl z90)]) (st' := [.inl z265]) rfl ?_
              refine h_zeq (off := 7) (t := 188) rfl rfl (by omega) (fun c267 => ?_) (fun c267 => ?_)
              · refine k_run 0 (pc' := 188) (l' := [(0, .inr (.inr 361)), (1, .inl x1), (2, .inl x2), (3, .inl x3), (4, .inl x4), (5, .inl x5), (6, .inl x6), (7, .inl z249), (8, .inl z90)]) (st' := []) rfl ?_
                refine k_run 6 (pc' := 199) (l' := [(0, .inr (.inr 361)), (1, .inl x1), (2, .inl x2), (3, .inl x3), (4, .inl x4), (5, .inl x5), (6, .inl x6), (7, .inl 0), (8, .inl z90)]) (st' := [.inl (H262.1 7 6), .inr (.inr 7)]) rfl ?_
                have g268 : 0 ≤ (H262.1 7 6) ∧ (H262.1 7 6) ≤ 16 := kn (x := kx_7) hI263 rfl 6
                have e269 : (H262.1 7 6) = (H246.1 7 6) := (hq264.1 7 6 rfl (by decide) (by decide)).1
                have e270 : (H246.1 7 6) = (H1.1 7 6) := (hq248.1 7 6 rfl (by decide) (by decide)).1
                refine k_run 1 (pc' := 201) (l' := [(0, .inr (.inr 361)), (1, .inl x1), (2, .inl x2), (3, .inl x3), (4, .inl x4), (5, .inl x5), (6, .inl x6), (7, .inl 0), (8, .inl z90)]) (st' := [.inl 0, .inl (H262.1 7 6), .inr (.inr 7)]) rfl ?_
                refine h_zeq (off := 14) (t := 215) rfl rfl (by decide) (fun _ => ?_) (fun c => absurd c (by decide))
                refine k_run 0 (pc' := 215) (l' := [(0, .inr (.inr 361)), (1, .inl x1), (2, .inl x2), (3, .inl x3), (4, .inl x4), (5, .inl x5), (6, .inl x6), (7, .inl 0), (8, .inl z90)]) (st' := [.inl (H262.1 7 6), .inr (.inr 7)]) rfl ?_
                refine k_run 2 (pc' := 217) (l' := [(0, .inr (.inr 361)), (1, .inl x1), (2, .inl x2), (3, .inl x3), (4, .inl x4), (5, .inl x5), (6, .inl x6), (7, .inl 0), (8, .inl z90)]) (st' := [.inl ((H262.1 7 6) + 0), .inr (.inr 7)]) rfl ?_
                refine k_puti (z := ((H262.1 7 6) + 0)) (a := 7) (x := kx_7) rfl rfl rfl (by decide) (by decide) rfl rfl rfl rfl hI263 (by omega) (show 0 ≤ ((H262.1 7 6) + 0) ∧ ((H262.1 7 6) + 0) ≤ 16 by omega) (fun H271 hI272 hw273 hv274 => ?_)
                have hf275 : fq [(2, 5), (7, 5), (7, 6), (8, 4), (13, 4), (18, 4), (361, 3), (361, 4), (361, 5), (361, 6), (361, 7), (361, 8), (361, 9)] [4, 5, 6, 9, 10, 11, 14, 15, 16, 17, 19, 20, 21, 22, 362] true H H271 := fq_w hf266 hw273 (fpo (by decide) rfl)
                refine k_run 0 (pc' := 220) (l' := [(0, .inr (.inr 361)), (1, .inl x1), (2, .inl x2), (3, .inl x3), (4, .inl x4), (5, .inl x5), (6, .inl x6), (7, .inl 0), (8, .inl z90)]) (st' := []) rfl ?_
                refine k_run 2 (pc' := 69) (l' := [(0, .inr (.inr 361)), (1, .inl x1), (2, .inl x2), (3, .inl x3), (4, .inl x4), (5, .inl x5), (6, .inl (x6 + 1)), (7, .inl 0), (8, .inl z90)]) (st' := []) rfl ?_
                have g276 : -2147483648 ≤ (H271.1 361 4) ∧ (H271.1 361 4) ≤ 2147483647 := kn (x := kx_361) hI272 rfl 4
                have e277 : (H271.1 361 4) = (H262.1 361 4) := hw273.2 _ _ (fun q => absurd q.1 (by decide))
                refine h_loc [0, 1, 2, 3, 4, 5, 6, 7] rfl ?_
                exact ih H271 hI272 hf275 x1 x2 x3 x4 x5 (x6 + 1) (0 : Int) (by omega) (by omega) (by omega) (by omega) (by omega) (by omega) (by decide) (by omega) (by omega) (by omega) (by omega) (by omega) (by omega) (by omega) (by omega) (by omega)
              · refine k_run 0 (pc' := 184) (l' := [(0, .inr (.inr 361)), (1, .inl x1), (2, .inl x2), (3, .inl x3), (4, .inl x4), (5, .inl x5), (6, .inl x6), (7, .inl z249), (8, .inl z90)]) (st' := []) rfl ?_
                refine k_run 7 (pc' := 199) (l' := [(0, .inr (.inr 361)), (1, .inl x1), (2, .inl x2), (3, .inl x3), (4, .inl x4), (5, .inl x5), (6, .inl x6), (7, .inl 1), (8, .inl z90)]) (st' := [.inl (H262.1 7 6), .inr (.inr 7)]) rfl ?_
                have g278 : 0 ≤ (H262.1 7 6) ∧ (H262.1 7 6) ≤ 16 := kn (x := kx_7) hI263 rfl 6
                have e279 : (H262.1 7 6) = (H246.1 7 6) := (hq264.1 7 6 rfl (by decide) (by decide)).1
                have e280 : (H246.1 7 6) = (H1.1 7 6) := (hq248.1 7 6 rfl (by decide) (by decide)).1
                refine k_run 1 (pc' := 201) (l' := [(0, .inr (.inr 361)), (1, .inl x1), (2, .inl x2), (3, .inl x3), (4, .inl x4), (5, .inl x5), (6, .inl x6), (7, .inl 1), (8, .inl z90)]) (st' := [.inl 1, .inl (H262.1 7 6), .inr (.inr 7)]) rfl ?_
                refine h_zeq (off := 14) (t := 215) rfl rfl (by decide) (fun c => absurd c (by decide)) (fun _ => ?_)
                refine k_run 0 (pc' := 204) (l' := [(0, .inr (.inr 361)), (1, .inl x1), (2, .inl x2), (3, .inl x3), (4, .inl x4), (5, .inl x5), (6, .inl x6), (7, .inl 1), (8, .inl z90)]) (st' := [.inl (H262.1 7 6), .inr (.inr 7)]) rfl ?_
                refine k_run 2 (pc' := 208) (l' := [(0, .inr (.inr 361)), (1, .inl x1), (2, .inl x2), (3, .inl x3), (4, .inl x4), (5, .inl x5), (6, .inl x6), (7, .inl 1), (8, .inl z90)]) (st' := [.inl 7, .inl z90, .inl (H262.1 7 6), .inr (.inr 7)]) rfl ?_
                refine h_ine (off := 7) (t := 215) rfl rfl (by omega) (by decide) (fun c281 => ?_) (fun c281 => ?_)
                · refine k_run 0 (pc' := 215) (l' := [(0, .inr (.inr 361)), (1, .inl x1), (2, .inl x2), (3, .inl x3), (4, .inl x4), (5, .inl x5), (6, .inl x6), (7, .inl 1), (8, .inl z90)]) (st' := [.inl (H262.1 7 6), .inr (.inr 7)]) rfl ?_
                  refine k_run 2 (pc' := 217) (l' := [(0, .inr (.inr 361)), (1, .inl x1), (2, .inl x2), (3, .inl x3), (4, .inl x4), (5, .inl x5), (6, .inl x6), (7, .inl 1), (8, .inl z90)]) (st' := [.inl ((H262.1 7 6) + 0), .inr (.inr 7)]) rfl ?_
                  refine k_puti (z := ((H262.1 7 6) + 0)) (a := 7) (x := kx_7) rfl rfl rfl (by decide) (by decide) rfl rfl rfl rfl hI263 (by omega) (show 0 ≤ ((H262.1 7 6) + 0) ∧ ((H262.1 7 6) + 0) ≤ 16 by omega) (fun H282 hI283 hw284 hv285 => ?_)
                  have hf286 : fq [(2, 5), (7, 5), (7, 6), (8, 4), (13, 4), (18, 4), (361, 3), (361, 4), (361, 5), (361, 6), (361, 7), (361, 8), (361, 9)] [4, 5, 6, 9, 10, 11, 14, 15, 16, 17, 19, 20, 21, 22, 362] true H H282 := fq_w hf266 hw284 (fpo (by decide) rfl)
                  refine k_run 0 (pc' := 220) (l' := [(0, .inr (.inr 361)), (1, .inl x1), (2, .inl x2), (3, .inl x3), (4, .inl x4), (5, .inl x5), (6, .inl x6), (7, .inl 1), (8, .inl z90)]) (st' := []) rfl ?_
                  refine k_run 2 (pc' := 69) (l' := [(0, .inr (.inr 361)), (1, .inl x1), (2, .inl x2), (3, .inl x3), (4, .inl x4), (5, .inl x5), (6, .inl (x6 + 1)), (7, .inl 1), (8, .inl z90)]) (st' := []) rfl ?_
                  have g287 : -2147483648 ≤ (H282.1 361 4) ∧ (H282.1 361 4) ≤ 2147483647 := kn (x := kx_361) hI283 rfl 4
                  have e288 : (H282.1 361 4) = (H262.1 361 4) := hw284.2 _ _ (fun q => absurd q.1 (by decide))
                  refine h_loc [0, 1, 2, 3, 4, 5, 6, 7] rfl ?_
                  exact ih H282 hI283 hf286 x1 x2 x3 x4 x5 (x6 + 1) (1 : Int) (by omega) (by omega) (by omega) (by omega) (by omega) (by omega) (by decide) (by omega) (by omega) (by omega) (by omega) (by omega) (by omega) (by omega) (by omega) (by omega)
                · refine k_run 0 (pc' := 211) (l' := [(0, .inr (.inr 361)), (1, .inl x1), (2, .inl x2), (3, .inl x3), (4, .inl x4), (5, .inl x5), (6, .inl x6), (7, .inl 1), (8, .inl z90)]) (st' := [.inl (H262.1 7 6), .inr (.inr 7)]) rfl ?_
                  refine k_run 3 (pc' := 217) (l' := [(0, .inr (.inr 361)), (1, .inl x1), (2, .inl x2), (3, .inl x3), (4, .inl x4), (5, .inl x5), (6, .inl x6), (7, .inl 1), (8, .inl z90)]) (st' := [.inl ((H262.1 7 6) + 1), .inr (.inr 7)]) rfl ?_
                  refine k_puti (z := ((H262.1 7 6) + 1)) (a := 7) (x := kx_7) rfl rfl rfl (by decide) (by decide) rfl rfl rfl rfl hI263 (by omega) (show 0 ≤ ((H262.1 7 6) + 1) ∧ ((H262.1 7 6) + 1) ≤ 16 by omega) (fun H289 hI290 hw291 hv292 => ?_)
                  have hf293 : fq [(2, 5), (7, 5), (7, 6), (8, 4), (13, 4), (18, 4), (361, 3), (361, 4), (361, 5), (361, 6), (361, 7), (361, 8), (361, 9)] [4, 5, 6, 9, 10, 11, 14, 15, 16, 17, 19, 20, 21, 22, 362] true H H289 := fq_w hf266 hw291 (fpo (by decide) rfl)
                  refine k_run 0 (pc' := 220) (l' := [(0, .inr (.inr 361)), (1, .inl x1), (2, .inl x2), (3, .inl x3), (4, .inl x4), (5, .inl x5), (6, .inl x6), (7, .inl 1), (8, .inl z90)]) (st' := []) rfl ?_
                  refine k_run 2 (pc' := 69) (l' := [(0, .inr (.inr 361)), (1, .inl x1), (2, .inl x2), (3, .inl x3), (4, .inl x4), (5, .inl x5), (6, .inl (x6 + 1)), (7, .inl 1), (8, .inl z90)]) (st' := []) rfl ?_
                  have g294 : -2147483648 ≤ (H289.1 361 4) ∧ (H289.1 361 4) ≤ 2147483647 := kn (x := kx_361) hI290 rfl 4
                  have e295 : (H289.1 361 4) = (H262.1 361 4) := hw291.2 _ _ (fun q => absurd q.1 (by decide))
                  refine h_loc [0, 1, 2, 3, 4, 5, 6, 7] rfl ?_
                  exact ih H289 hI290 hf293 x1 x2 x3 x4 x5 (x6 + 1) (1 : Int) (by omega) (by omega) (by omega) (by omega) (by omega) (by omega) (by decide) (by omega) (by omega) (by omega) (by omega) (by omega) (by omega) (by omega) (by omega) (by omega)
          · refine h_tin (k := 2) (t := 146) rfl (by omega) (show z90 = 4 + ((2 : Nat) : Int) by omega) (by decide) rfl rfl ?_
            refine k_run 1 (pc' := 147) (l' := [(0, .inr (.inr 361)), (1, .inl x1), (2, .inl x2), (3, .inl x3), (4, .inl x4), (5, .inl x5), (6, .inl x6), (7, .inl x7), (8, .inl z90)]) (st' := [.inr (.inr 361)]) rfl ?_
            refine h_cv (i := 83) (j := 68) (b := 361) (M' := mt_68) (xs := []) (rest := []) rfl rfl rfl rfl (zs_K (x := kx_361) rfl (by decide)) rfl (Nat.le_of_ble_eq_true rfl) (Nat.le_of_ble_eq_true rfl) (by omega) (f_Reader_readRule (by omega) hI1 ) ?_
            rintro _ H297 ⟨z300, rfl, g296, hI298, hq299⟩
            have hf301 : fq [(2, 5), (7, 5), (7, 6), (8, 4), (13, 4), (18, 4), (361, 3), (361, 4), (361, 5), (361, 6), (361, 7), (361, 8), (361, 9)] [4, 5, 6, 9, 10, 11, 14, 15, 16, 17, 19, 20, 21, 22, 362] true H H297 := fq_t hf1 hq299 rfl rfl rfl
            refine k_run 0 (pc' := 150) (l' := [(0, .inr (.inr 361)), (1, .inl x1), (2, .inl x2), (3, .inl x3), (4, .inl x4), (5, .inl x5), (6, .inl x6), (7, .inl x7), (8, .inl z90)]) (st' := [.inl z300]) rfl ?_
            refine k_run 3 (pc' := 172) (l' := [(0, .inr (.inr 361)), (1, .inl x1), (2, .inl x2), (3, .inl x3), (4, .inl x4), (5, .inl x5), (6, .inl x6), (7, .inl z300), (8, .inl z90)]) (st' := [.inl z300]) rfl ?_
            refine h_zeq (off := 16) (t := 188) rfl rfl (by omega) (fun c302 => ?_) (fun c302 => ?_)
            · refine k_run 0 (pc' := 188) (l' := [(0, .inr (.inr 361)), (1, .inl x1), (2, .inl x2), (3, .inl x3), (4, .inl x4), (5, .inl x5), (6, .inl x6), (7, .inl z300), (8, .inl z90)]) (st' := []) rfl ?_
              refine k_run 6 (pc' := 199) (l' := [(0, .inr (.inr 361)), (1, .inl x1), (2, .inl x2), (3, .inl x3), (4, .inl x4), (5, .inl x5), (6, .inl x6), (7, .inl 0), (8, .inl z90)]) (st' := [.inl (H297.1 7 6), .inr (.inr 7)]) rfl ?_
              have g303 : 0 ≤ (H297.1 7 6) ∧ (H297.1 7 6) ≤ 16 := kn (x := kx_7) hI298 rfl 6
              have e304 : (H297.1 7 6) = (H1.1 7 6) := (hq299.1 7 6 rfl (by decide) (by decide)).1
              refine k_run 1 (pc' := 201) (l' := [(0, .inr (.inr 361)), (1, .inl x1), (2, .inl x2), (3, .inl x3), (4, .inl x4), (5, .inl x5), (6, .inl x6), (7, .inl 0), (8, .inl z90)]) (st' := [.inl 0, .inl (H297.1 7 6), .inr (.inr 7)]) rfl ?_
              refine h_zeq (off := 14) (t := 215) rfl rfl (by decide) (fun _ => ?_) (fun c => absurd c (by decide))
              refine k_run 0 (pc' := 215) (l' := [(0, .inr (.inr 361)), (1, .inl x1), (2, .inl x2), (3, .inl x3), (4, .inl x4), (5, .inl x5), (6, .inl x6), (7, .inl 0), (8, .inl z90)]) (st' := [.inl (H297.1 7 6), .inr (.inr 7)]) rfl ?_
              refine k_run 2 (pc' := 217) (l' := [(0, .inr (.inr 361)), (1, .inl x1), (2, .inl x2), (3, .inl x3), (4, .inl x4), (5, .inl x5), (6, .inl x6), (7, .inl 0), (8, .inl z90)]) (st' := [.inl ((H297.1 7 6) + 0), .inr (.inr 7)]) rfl ?_
              refine k_puti (z := ((H297.1 7 6) + 0)) (a := 7) (x := kx_7) rfl rfl rfl (by decide) (by decide) rfl rfl rfl rfl hI298 (by omega) (show 0 ≤ ((H297.1 7 6) + 0) ∧ ((H297.1 7 6) + 0) ≤ 16 by omega) (fun H305 hI306 hw307 hv308 => ?_)
              have hf309 : fq [(2, 5), (7, 5), (7, 6), (8, 4), (13, 4), (18, 4), (361, 3), (361, 4), (361, 5), (361, 6), (361, 7), (361, 8), (361, 9)] [4, 5, 6, 9, 10, 11, 14, 15, 16, 17, 19, 20, 21, 22, 362] true H H305 := fq_w hf301 hw307 (fpo (by decide) rfl)
              refine k_run 0 (pc' := 220) (l' := [(0, .inr (.inr 361)), (1, .inl x1), (2, .inl x2), (3, .inl x3), (4, .inl x4), (5, .inl x5), (6, .inl x6), (7, .inl 0), (8, .inl z90)]) (st' := []) rfl ?_
              refine k_run 2 (pc' := 69) (l' := [(0, .inr (.inr 361)), (1, .inl x1), (2, .inl x2), (3, .inl x3), (4, .inl x4), (5, .inl x5), (6, .inl (x6 + 1)), (7, .inl 0), (8, .inl z90)]) (st' := []) rfl ?_
              have g310 : -2147483648 ≤ (H305.1 361 4) ∧ (H305.1 361 4) ≤ 2147483647 := kn (x := kx_361) hI306 rfl 4
              have e311 : (H305.1 361 4) = (H297.1 361 4) := hw307.2 _ _ (fun q => absurd q.1 (by decide))
              refine h_loc [0, 1, 2, 3, 4, 5, 6, 7] rfl ?_
              exact ih H305 hI306 hf309 x1 x2 x3 x4 x5 (x6 + 1) (0 : Int) (by omega) (by omega) (by omega) (by omega) (by omega) (by omega) (by decide) (by omega) (by omega) (by omega) (by omega) (by omega) (by omega) (by omega) (by omega) (by omega)
            · refine k_run 0 (pc' := 175) (l' := [(0, .inr (.inr 361)), (1, .inl x1), (2, .inl x2), (3, .inl x3), (4, .inl x4), (5, .inl x5), (6, .inl x6), (7, .inl z300), (8, .inl z90)]) (st' := []) rfl ?_
              refine k_run 2 (pc' := 178) (l' := [(0, .inr (.inr 361)), (1, .inl x1), (2, .inl x2), (3, .inl x3), (4, .inl x4), (5, .inl x5), (6, .inl x6), (7, .inl z300), (8, .inl z90)]) (st' := [.inl 59, .inr (.inr 361)]) rfl ?_
              refine h_cv (i := 92) (j := 82) (b := 361) (M' := mt_82) (xs := [.inl 59]) (rest := []) rfl rfl rfl rfl (zs_K (x := kx_361) rfl (by decide)) rfl (Nat.le_of_ble_eq_true rfl) (Nat.le_of_ble_eq_true rfl) (by omega) (f_Reader_take (by omega) hI298 (by decide)) ?_
              rintro _ H313 ⟨z316, rfl, g312, hI314, hq315⟩
              have hf317 : fq [(2, 5), (7, 5), (7, 6), (8, 4), (13, 4), (18, 4), (361, 3), (361, 4), (361, 5), (361, 6), (361, 7), (361, 8), (361, 9)] [4, 5, 6, 9, 10, 11, 14, 15, 16, 17, 19, 20, 21, 22, 362] true H H313 := fq_t hf301 hq315 rfl rfl rfl
              refine k_run 0 (pc' := 181) (l' := [(0, .inr (.inr 361)), (1, .inl x1), (2, .inl x2), (3, .inl x3), (4, .inl x4), (5, .inl x5), (6, .inl x6), (7, .inl z300), (8, .inl z90)]) (st' := [.inl z316]) rfl ?_
              refine h_zeq (off := 7) (t := 188) rfl rfl (by omega) (fun c318 => ?_) (fun c318 => ?_)
              · refine k_run 0 (pc' := 188) (l' := [(0, .inr (.inr 361)), (1, .inl x1), (2, .inl x2), (3, .inl x3), (4, .inl x4), (5, .inl x5), (6, .inl x6), (7, .inl z300), (8, .inl z90)]) (st' := []) rfl ?_
                refine k_run 6 (pc' := 199) (l' := [(0, .inr (.inr 361)), (1, .inl x1), (2, .inl x2), (3, .inl x3), (4, .inl x4), (5, .inl x5), (6, .inl x6), (7, .inl 0), (8, .inl z90)]) (st' := [.inl (H313.1 7 6), .inr (.inr 7)]) rfl ?_
                have g319 : 0 ≤ (H313.1 7 6) ∧ (H313.1 7 6) ≤ 16 := kn (x := kx_7) hI314 rfl 6
                have e320 : (H313.1 7 6) = (H297.1 7 6) := (hq315.1 7 6 rfl (by decide) (by decide)).1
                have e321 : (H297.1 7 6) = (H1.1 7 6) := (hq299.1 7 6 rfl (by decide) (by decide)).1
                refine k_run 1 (pc' := 201) (l' := [(0, .inr (.inr 361)), (1, .inl x1), (2, .inl x2), (3, .inl x3), (4, .inl x4), (5, .inl x5), (6, .inl x6), (7, .inl 0), (8, .inl z90)]) (st' := [.inl 0, .inl (H313.1 7 6), .inr (.inr 7)]) rfl ?_
                refine h_zeq (off := 14) (t := 215) rfl rfl (by decide) (fun _ => ?_) (fun c => absurd c (by decide))
                refine k_run 0 (pc' := 215) (l' := [(0, .inr (.inr 361)), (1, .inl x1), (2, .inl x2), (3, .inl x3), (4, .inl x4), (5, .inl x5), (6, .inl x6), (7, .inl 0), (8, .inl z90)]) (st' := [.inl (H313.1 7 6), .inr (.inr 7)]) rfl ?_
                refine k_run 2 (pc' := 217) (l' := [(0, .inr (.inr 361)), (1, .inl x1), (2, .inl x2), (3, .inl x3), (4, .inl x4), (5, .inl x5), (6, .inl x6), (7, .inl 0), (8, .inl z90)]) (st' := [.inl ((H313.1 7 6) + 0), .inr (.inr 7)]) rfl ?_
                refine k_puti (z := ((H313.1 7 6) + 0)) (a := 7) (x := kx_7) rfl rfl rfl (by decide) (by decide) rfl rfl rfl rfl hI314 (by omega) (show 0 ≤ ((H313.1 7 6) + 0) ∧ ((H313.1 7 6) + 0) ≤ 16 by omega) (fun H322 hI323 hw324 hv325 => ?_)
                have hf326 : fq [(2, 5), (7, 5), (7, 6), (8, 4), (13, 4), (18, 4), (361, 3), (361, 4), (361, 5), (361, 6), (361, 7), (361, 8), (361, 9)] [4, 5, 6, 9, 10, 11, 14, 15, 16, 17, 19, 20, 21, 22, 362] true H H322 := fq_w hf317 hw324 (fpo (by decide) rfl)
                refine k_run 0 (pc' := 220) (l' := [(0, .inr (.inr 361)), (1, .inl x1), (2, .inl x2), (3, .inl x3), (4, .inl x4), (5, .inl x5), (6, .inl x6), (7, .inl 0), (8, .inl z90)]) (st' := []) rfl ?_
                refine k_run 2 (pc' := 69) (l' := [(0, .inr (.inr 361)), (1, .inl x1), (2, .inl x2), (3, .inl x3), (4, .inl x4), (5, .inl x5), (6, .inl (x6 + 1)), (7, .inl 0), (8, .inl z90)]) (st' := []) rfl ?_
                have g327 : -2147483648 ≤ (H322.1 361 4) ∧ (H322.1 361 4) ≤ 2147483647 := kn (x := kx_361) hI323 rfl 4
                have e328 : (H322.1 361 4) = (H313.1 361 4) := hw324.2 _ _ (fun q => absurd q.1 (by decide))
                refine h_loc [0, 1, 2, 3, 4, 5, 6, 7] rfl ?_
                exact ih H322 hI323 hf326 x1 x2 x3 x4 x5 (x6 + 1) (0 : Int) (by omega) (by omega) (by omega) (by omega) (by omega) (by omega) (by decide) (by omega) (by omega) (by omega) (by omega) (by omega) (by omega) (by omega) (by omega) (by omega)
              · refine k_run 0 (pc' := 184) (l' := [(0, .inr (.inr 361)), (1, .inl x1), (2, .inl x2), (3, .inl x3), (4, .inl x4), (5, .inl x5), (6, .inl x6), (7, .inl z300), (8, .inl z90)]) (st' := []) rfl ?_
                refine k_run 7 (pc' := 199) (l' := [(0, .inr (.inr 361)), (1, .inl x1), (2, .inl x2), (3, .inl x3), (4, .inl x4), (5, .inl x5), (6, .inl x6), (7, .inl 1), (8, .inl z90)]) (st' := [.inl (H313.1 7 6), .inr (.inr 7)]) rfl ?_
                have g329 : 0 ≤ (H313.1 7 6) ∧ (H313.1 7 6) ≤ 16 := kn (x := kx_7) hI314 rfl 6
                have e330 : (H313.1 7 6) = (H297.1 7 6) := (hq315.1 7 6 rfl (by decide) (by decide)).1
                have e331 : (H297.1 7 6) = (H1.1 7 6) := (hq299.1 7 6 rfl (by decide) (by decide)).1
                refine k_run 1 (pc' := 201) (l' := [(0, .inr (.inr 361)), (1, .inl x1), (2, .inl x2), (3, .inl x3), (4, .inl x4), (5, .inl x5), (6, .inl x6), (7, .inl 1), (8, .inl z90)]) (st' := [.inl 1, .inl (H313.1 7 6), .inr (.inr 7)]) rfl ?_
                refine h_zeq (off := 14) (t := 215) rfl rfl (by decide) (fun c => absurd c (by decide)) (fun _ => ?_)
                refine k_run 0 (pc' := 204) (l' := [(0, .inr (.inr 361)), (1, .inl x1), (2, .inl x2), (3, .inl x3), (4, .inl x4), (5, .inl x5), (6, .inl x6), (7, .inl 1), (8, .inl z90)]) (st' := [.inl (H313.1 7 6), .inr (.inr 7)]) rfl ?_
                refine k_run 2 (pc' := 208) (l' := [(0, .inr (.inr 361)), (1, .inl x1), (2, .inl x2), (3, .inl x3), (4, .inl x4), (5, .inl x5), (6, .inl x6), (7, .inl 1), (8, .inl z90)]) (st' := [.inl 7, .inl z90, .inl (H313.1 7 6), .inr (.inr 7)]) rfl ?_
                refine h_ine (off := 7) (t := 215) rfl rfl (by omega) (by decide) (fun c332 => ?_) (fun c332 => ?_)
                · refine k_run 0 (pc' := 215) (l' := [(0, .inr (.inr 361)), (1, .inl x1), (2, .inl x2), (3, .inl x3), (4, .inl x4), (5, .inl x5), (6, .inl x6), (7, .inl 1), (8, .inl z90)]) (st' := [.inl (H313.1 7 6), .inr (.inr 7)]) rfl ?_
                  refine k_run 2 (pc' := 217) (l' := [(0, .inr (.inr 361)), (1, .inl x1), (2, .inl x2), (3, .inl x3), (4, .inl x4), (5, .inl x5), (6, .inl x6), (7, .inl 1), (8, .inl z90)]) (st' := [.inl ((H313.1 7 6) + 0), .inr (.inr 7)]) rfl ?_
                  refine k_puti (z := ((H313.1 7 6) + 0)) (a := 7) (x := kx_7) rfl rfl rfl (by decide) (by decide) rfl rfl rfl rfl hI314 (by omega) (show 0 ≤ ((H313.1 7 6) + 0) ∧ ((H313.1 7 6) + 0) ≤ 16 by omega) (fun H333 hI334 hw335 hv336 => ?_)
                  have hf337 : fq [(2, 5), (7, 5), (7, 6), (8, 4), (13, 4), (18, 4), (361, 3), (361, 4), (361, 5), (361, 6), (361, 7), (361, 8), (361, 9)] [4, 5, 6, 9, 10, 11, 14, 15, 16, 17, 19, 20, 21, 22, 362] true H H333 := fq_w hf317 hw335 (fpo (by decide) rfl)
                  refine k_run 0 (pc' := 220) (l' := [(0, .inr (.inr 361)), (1, .inl x1), (2, .inl x2), (3, .inl x3), (4, .inl x4), (5, .inl x5), (6, .inl x6), (7, .inl 1), (8, .inl z90)]) (st' := []) rfl ?_
                  refine k_run 2 (pc' := 69) (l' := [(0, .inr (.inr 361)), (1, .inl x1), (2, .inl x2), (3, .inl x3), (4, .inl x4), (5, .inl x5), (6, .inl (x6 + 1)), (7, .inl 1), (8, .inl z90)]) (st' := []) rfl ?_
                  have g338 : -2147483648 ≤ (H333.1 361 4) ∧ (H333.1 361 4) ≤ 2147483647 := kn (x := kx_361) hI334 rfl 4
                  have e339 : (H333.1 361 4) = (H313.1 361 4) := hw335.2 _ _ (fun q => absurd q.1 (by decide))
                  refine h_loc [0, 1, 2, 3, 4, 5, 6, 7] rfl ?_
                  exact ih H333 hI334 hf337 x1 x2 x3 x4 x5 (x6 + 1) (1 : Int) (by omega) (by omega) (by omega) (by omega) (by omega) (by omega) (by decide) (by omega) (by omega) (by omega) (by omega) (by omega) (by omega) (by omega) (by omega) (by omega)
                · refine k_run 0 (pc' := 211) (l' := [(0, .inr (.inr 361)), (1, .inl x1), (2, .inl x2), (3, .inl x3), (4, .inl x4), (5, .inl x5), (6, .inl x6), (7, .inl 1), (8, .inl z90)]) (st' := [.inl (H313.1 7 6), .inr (.inr 7)]) rfl ?_
                  refine k_run 3 (pc' := 217) (l' := [(0, .inr (.inr 361)), (1, .inl x1), (2, .inl x2), (3, .inl x3), (4, .inl x4), (5, .inl x5), (6, .inl x6), (7, .inl 1), (8, .inl z90)]) (st' := [.inl ((H313.1 7 6) + 1), .inr (.inr 7)]) rfl ?_
                  refine k_puti (z := ((H313.1 7 6) + 1)) (a := 7) (x := kx_7) rfl rfl rfl (by decide) (by decide) rfl rfl rfl rfl hI314 (by omega) (show 0 ≤ ((H313.1 7 6) + 1) ∧ ((H313.1 7 6) + 1) ≤ 16 by omega) (fun H340 hI341 hw342 hv343 => ?_)
                  have hf344 : fq [(2, 5), (7, 5), (7, 6), (8, 4), (13, 4), (18, 4), (361, 3), (361, 4), (361, 5), (361, 6), (361, 7), (361, 8), (361, 9)] [4, 5, 6, 9, 10, 11, 14, 15, 16, 17, 19, 20, 21, 22, 362] true H H340 := fq_w hf317 hw342 (fpo (by decide) rfl)
                  refine k_run 0 (pc' := 220) (l' := [(0, .inr (.inr 361)), (1, .inl x1), (2, .inl x2), (3, .inl x3), (4, .inl x4), (5, .inl x5), (6, .inl x6), (7, .inl 1), (8, .inl z90)]) (st' := []) rfl ?_
                  refine k_run 2 (pc' := 69) (l' := [(0, .inr (.inr 361)), (1, .inl x1), (2, .inl x2), (3, .inl x3), (4, .inl x4), (5, .inl x5), (6, .inl (x6 + 1)), (7, .inl 1), (8, .inl z90)]) (st' := []) rfl ?_
                  have g345 : -2147483648 ≤ (H340.1 361 4) ∧ (H340.1 361 4) ≤ 2147483647 := kn (x := kx_361) hI341 rfl 4
                  have e346 : (H340.1 361 4) = (H313.1 361 4) := hw342.2 _ _ (fun q => absurd q.1 (by decide))
                  refine h_loc [0, 1, 2, 3, 4, 5, 6, 7] rfl ?_
                  exact ih H340 hI341 hf344 x1 x2 x3 x4 x5 (x6 + 1) (1 : Int) (by omega) (by omega) (by omega) (by omega) (by omega) (by omega) (by decide) (by omega) (by omega) (by omega) (by omega) (by omega) (by omega) (by omega) (by omega) (by omega)
          · refine h_tin (k := 3) (t := 155) rfl (by omega) (show z90 = 4 + ((3 : Nat) : Int) by omega) (by decide) rfl rfl ?_
            refine k_run 1 (pc' := 156) (l' := [(0, .inr (.inr 361)), (1, .inl x1), (2, .inl x2), (3, .inl x3), (4, .inl x4), (5, .inl x5), (6, .inl x6), (7, .inl x7), (8, .inl z90)]) (st' := [.inr (.inr 361)]) rfl ?_
            refine h_cv (i := 86) (j := 69) (b := 361) (M' := mt_69) (xs := []) (rest := []) rfl rfl rfl rfl (zs_K (x := kx_361) rfl (by decide)) rfl (Nat.le_of_ble_eq_true rfl) (Nat.le_of_ble_eq_true rfl) (by omega) (f_Reader_readLaw (by omega) hI1 ) ?_
            rintro _ H348 ⟨z351, rfl, g347, hI349, hq350⟩
            have hf352 : fq [(2, 5), (7, 5), (7, 6), (8, 4), (13, 4), (18, 4), (361, 3), (361, 4), (361, 5), (361, 6), (361, 7), (361, 8), (361, 9)] [4, 5, 6, 9, 10, 11, 14, 15, 16, 17, 19, 20, 21, 22, 362] true H H348 := fq_t hf1 hq350 rfl rfl rfl
            refine k_run 0 (pc' := 159) (l' := [(0, .inr (.inr 361)), (1, .inl x1), (2, .inl x2), (3, .inl x3), (4, .inl x4), (5, .inl x5), (6, .inl x6), (7, .inl x7), (8, .inl z90)]) (st' := [.inl z351]) rfl ?_
            refine k_run 3 (pc' := 172) (l' := [(0, .inr (.inr 361)), (1, .inl x1), (2, .inl x2), (3, .inl x3), (4, .inl x4), (5, .inl x5), (6, .inl x6), (7, .inl z351), (8, .inl z90)]) (st' := [.inl z351]) rfl ?_
            refine h_zeq (off := 16) (t := 188) rfl rfl (by omega) (fun c353 => ?_) (fun c353 => ?_)
            · refine k_run 0 (pc' := 188) (l' := [(0, .inr (.inr 361)), (1, .inl x1), (2, .inl x2), (3, .inl x3), (4, .inl x4), (5, .inl x5), (6, .inl x6), (7, .inl z351), (8, .inl z90)]) (st' := []) rfl ?_
              refine k_run 6 (pc' := 199) (l' := [(0, .inr (.inr 361)), (1, .inl x1), (2, .inl x2), (3, .inl x3), (4, .inl x4), (5, .inl x5), (6, .inl x6), (7, .inl 0), (8, .inl z90)]) (st' := [.inl (H348.1 7 6), .inr (.inr 7)]) rfl ?_
              have g354 : 0 ≤ (H348.1 7 6) ∧ (H348.1 7 6) ≤ 16 := kn (x := kx_7) hI349 rfl 6
              have e355 : (H348.1 7 6) = (H1.1 7 6) := (hq350.1 7 6 rfl (by decide) (by decide)).1
              refine k_run 1 (pc' := 201) (l' := [(0, .inr (.inr 361)), (1, .inl x1), (2, .inl x2), (3, .inl x3), (4, .inl x4), (5, .inl x5), (6, .inl x6), (7, .inl 0), (8, .inl z90)]) (st' := [.inl 0, .inl (H348.1 7 6), .inr (.inr 7)]) rfl ?_
              refine h_zeq (off := 14) (t := 215) rfl rfl (by decide) (fun _ => ?_) (fun c => absurd c (by decide))
              refine k_run 0 (pc' := 215) (l' := [(0, .inr (.inr 361)), (1, .inl x1), (2, .inl x2), (3, .inl x3), (4, .inl x4), (5, .inl x5), (6, .inl x6), (7, .inl 0), (8, .inl z90)]) (st' := [.inl (H348.1 7 6), .inr (.inr 7)]) rfl ?_
              refine k_run 2 (pc' := 217) (l' := [(0, .inr (.inr 361)), (1, .inl x1), (2, .inl x2), (3, .inl x3), (4, .inl x4), (5, .inl x5), (6, .inl x6), (7, .inl 0), (8, .inl z90)]) (st' := [.inl ((H348.1 7 6) + 0), .inr (.inr 7)]) rfl ?_
              refine k_puti (z := ((H348.1 7 6) + 0)) (a := 7) (x := kx_7) rfl rfl rfl (by decide) (by decide) rfl rfl rfl rfl hI349 (by omega) (show 0 ≤ ((H348.1 7 6) + 0) ∧ ((H348.1 7 6) + 0) ≤ 16 by omega) (fun H356 hI357 hw358 hv359 => ?_)
              have hf360 : fq [(2, 5), (7, 5), (7, 6), (8, 4), (13, 4), (18, 4), (361, 3), (361, 4), (361, 5), (361, 6), (361, 7), (361, 8), (361, 9)] [4, 5, 6, 9, 10, 11, 14, 15, 16, 17, 19, 20, 21, 22, 362] true H H356 := fq_w hf352 hw358 (fpo (by decide) rfl)
              refine k_run 0 (pc' := 220) (l' := [(0, .inr (.inr 361)), (1, .inl x1), (2, .inl x2), (3, .inl x3), (4, .inl x4), (5, .inl x5), (6, .inl x6), (7, .inl 0), (8, .inl z90)]) (st' := []) rfl ?_
              refine k_run 2 (pc' := 69) (l' := [(0, .inr (.inr 361)), (1, .inl x1), (2, .inl x2), (3, .inl x3), (4, .inl x4), (5, .inl x5), (6, .inl (x6 + 1)), (7, .inl 0), (8, .inl z90)]) (st' := []) rfl ?_
              have g361 : -2147483648 ≤ (H356.1 361 4) ∧ (H356.1 361 4) ≤ 2147483647 := kn (x := kx_361) hI357 rfl 4
              have e362 : (H356.1 361 4) = (H348.1 361 4) := hw358.2 _ _ (fun q => absurd q.1 (by decide))
              refine h_loc [0, 1, 2, 3, 4, 5, 6, 7] rfl ?_
              exact ih H356 hI357 hf360 x1 x2 x3 x4 x5 (x6 + 1) (0 : Int) (by omega) (by omega) (by omega) (by omega) (by omega) (by omega) (by decide) (by omega) (by omega) (by omega) (by omega) (by omega) (by omega) (by omega) (by omega) (by omega)
            · refine k_run 0 (pc' := 175) (l' := [(0, .inr (.inr 361)), (1, .inl x1), (2, .inl x2), (3, .inl x3), (4, .inl x4), (5, .inl x5), (6, .inl x6), (7, .inl z351), (8, .inl z90)]) (st' := []) rfl ?_
              refine k_run 2 (pc' := 178) (l' := [(0, .inr (.inr 361)), (1, .inl x1), (2, .inl x2), (3, .inl x3), (4, .inl x4), (5, .inl x5), (6, .inl x6), (7, .inl z351), (8, .inl z90)]) (st' := [.inl 59, .inr (.inr 361)]) rfl ?_
              refine h_cv (i := 92) (j := 82) (b := 361) (M' := mt_82) (xs := [.inl 59]) (rest := []) rfl rfl rfl rfl (zs_K (x := kx_361) rfl (by decide)) rfl (Nat.le_of_ble_eq_true rfl) (Nat.le_of_ble_eq_true rfl) (by omega) (f_Reader_take (by omega) hI349 (by decide)) ?_
              rintro _ H364 ⟨z367, rfl, g363, hI365, hq366⟩
              have hf368 : fq [(2, 5), (7, 5), (7, 6), (8, 4), (13, 4), (18, 4), (361, 3), (361, 4), (361, 5), (361, 6), (361, 7), (361, 8), (361, 9)] [4, 5, 6, 9, 10, 11, 14, 15, 16, 17, 19, 20, 21, 22, 362] true H H364 := fq_t hf352 hq366 rfl rfl rfl
              refine k_run 0 (pc' := 181) (l' := [(0, .inr (.inr 361)), (1, .inl x1), (2, .inl x2), (3, .inl x3), (4, .inl x4), (5, .inl x5), (6, .inl x6), (7, .inl z351), (8, .inl z90)]) (st' := [.inl z367]) rfl ?_
              refine h_zeq (off := 7) (t := 188) rfl rfl (by omega) (fun c369 => ?_) (fun c369 => ?_)
              · refine k_run 0 (pc' := 188) (l' := [(0, .inr (.inr 361)), (1, .inl x1), (2, .inl x2), (3, .inl x3), (4, .inl x4), (5, .inl x5), (6, .inl x6), (7, .inl z351), (8, .inl z90)]) (st' := []) rfl ?_
                refine k_run 6 (pc' := 199) (l' := [(0, .inr (.inr 361)), (1, .inl x1), (2, .inl x2), (3, .inl x3), (4, .inl x4), (5, .inl x5), (6, .inl x6), (7, .inl 0), (8, .inl z90)]) (st' := [.inl (H364.1 7 6), .inr (.inr 7)]) rfl ?_
                have g370 : 0 ≤ (H364.1 7 6) ∧ (H364.1 7 6) ≤ 16 := kn (x := kx_7) hI365 rfl 6
                have e371 : (H364.1 7 6) = (H348.1 7 6) := (hq366.1 7 6 rfl (by decide) (by decide)).1
                have e372 : (H348.1 7 6) = (H1.1 7 6) := (hq350.1 7 6 rfl (by decide) (by decide)).1
                refine k_run 1 (pc' := 201) (l' := [(0, .inr (.inr 361)), (1, .inl x1), (2, .inl x2), (3, .inl x3), (4, .inl x4), (5, .inl x5), (6, .inl x6), (7, .inl 0), (8, .inl z90)]) (st' := [.inl 0, .inl (H364.1 7 6), .inr (.inr 7)]) rfl ?_
                refine h_zeq (off := 14) (t := 215) rfl rfl (by decide) (fun _ => ?_) (fun c => absurd c (by decide))
                refine k_run 0 (pc' := 215) (l' := [(0, .inr (.inr 361)), (1, .inl x1), (2, .inl x2), (3, .inl x3), (4, .inl x4), (5, .inl x5), (6, .inl x6), (7, .inl 0), (8, .inl z90)]) (st' := [.inl (H364.1 7 6), .inr (.inr 7)]) rfl ?_
                refine k_run 2 (pc' := 217) (l' := [(0, .inr (.inr 361)), (1, .inl x1), (2, .inl x2), (3, .inl x3), (4, .inl x4), (5, .inl x5), (6, .inl x6), (7, .inl 0), (8, .inl z90)]) (st' := [.inl ((H364.1 7 6) + 0), .inr (.inr 7)]) rfl ?_
                refine k_puti (z := ((H364.1 7 6) + 0)) (a := 7) (x := kx_7) rfl rfl rfl (by decide) (by decide) rfl rfl rfl rfl hI365 (by omega) (show 0 ≤ ((H364.1 7 6) + 0) ∧ ((H364.1 7 6) + 0) ≤ 16 by omega) (fun H373 hI374 hw375 hv376 => ?_)
                have hf377 : fq [(2, 5), (7, 5), (7, 6), (8, 4), (13, 4), (18, 4), (361, 3), (361, 4), (361, 5), (361, 6), (361, 7), (361, 8), (361, 9)] [4, 5, 6, 9, 10, 11, 14, 15, 16, 17, 19, 20, 21, 22, 362] true H H373 := fq_w hf368 hw375 (fpo (by decide) rfl)
                refine k_run 0 (pc' := 220) (l' := [(0, .inr (.inr 361)), (1, .inl x1), (2, .inl x2), (3, .inl x3), (4, .inl x4), (5, .inl x5), (6, .inl x6), (7, .inl 0), (8, .inl z90)]) (st' := []) rfl ?_
                refine k_run 2 (pc' := 69) (l' := [(0, .inr (.inr 361)), (1, .inl x1), (2, .inl x2), (3, .inl x3), (4, .inl x4), (5, .inl x5), (6, .inl (x6 + 1)), (7, .inl 0), (8, .inl z90)]) (st' := []) rfl ?_
                have g378 : -2147483648 ≤ (H373.1 361 4) ∧ (H373.1 361 4) ≤ 2147483647 := kn (x := kx_361) hI374 rfl 4
                have e379 : (H373.1 361 4) = (H364.1 361 4) := hw375.2 _ _ (fun q => absurd q.1 (by decide))
                refine h_loc [0, 1, 2, 3, 4, 5, 6, 7] rfl ?_
                exact ih H373 hI374 hf377 x1 x2 x3 x4 x5 (x6 + 1) (0 : Int) (by omega) (by omega) (by omega) (by omega) (by omega) (by omega) (by decide) (by omega) (by omega) (by omega) (by omega) (by omega) (by omega) (by omega) (by omega) (by omega)
              · refine k_run 0 (pc' := 184) (l' := [(0, .inr (.inr 361)), (1, .inl x1), (2, .inl x2), (3, .inl x3), (4, .inl x4), (5, .inl x5), (6, .inl x6), (7, .inl z351), (8, .inl z90)]) (st' := []) rfl ?_
                refine k_run 7 (pc' := 199) (l' := [(0, .inr (.inr 361)), (1, .inl x1), (2, .inl x2), (3, .inl x3), (4, .inl x4), (5, .inl x5), (6, .inl x6), (7, .inl 1), (8, .inl z90)]) (st' := [.inl (H364.1 7 6), .inr (.inr 7)]) rfl ?_
                have g380 : 0 ≤ (H364.1 7 6) ∧ (H364.1 7 6) ≤ 16 := kn (x := kx_7) hI365 rfl 6
                have e381 : (H364.1 7 6) = (H348.1 7 6) := (hq366.1 7 6 rfl (by decide) (by decide)).1
                have e382 : (H348.1 7 6) = (H1.1 7 6) := (hq350.1 7 6 rfl (by decide) (by decide)).1
                refine k_run 1 (pc' := 201) (l' := [(0, .inr (.inr 361)), (1, .inl x1), (2, .inl x2), (3, .inl x3), (4, .inl x4), (5, .inl x5), (6, .inl x6), (7, .inl 1), (8, .inl z90)]) (st' := [.inl 1, .inl (H364.1 7 6), .inr (.inr 7)]) rfl ?_
                refine h_zeq (off := 14) (t := 215) rfl rfl (by decide) (fun c => absurd c (by decide)) (fun _ => ?_)
                refine k_run 0 (pc' := 204) (l' := [(0, .inr (.inr 361)), (1, .inl x1), (2, .inl x2), (3, .inl x3), (4, .inl x4), (5, .inl x5), (6, .inl x6), (7, .inl 1), (8, .inl z90)]) (st' := [.inl (H364.1 7 6), .inr (.inr 7)]) rfl ?_
                refine k_run 2 (pc' := 208) (l' := [(0, .inr (.inr 361)), (1, .inl x1), (2, .inl x2), (3, .inl x3), (4, .inl x4), (5, .inl x5), (6, .inl x6), (7, .inl 1), (8, .inl z90)]) (st' := [.inl 7, .inl z90, .inl (H364.1 7 6), .inr (.inr 7)]) rfl ?_
                refine h_ine (off := 7) (t := 215) rfl rfl (by omega) (by decide) (fun c383 => ?_) (fun c383 => ?_)
                · refine k_run 0 (pc' := 215) (l' := [(0, .inr (.inr 361)), (1, .inl x1), (2, .inl x2), (3, .inl x3), (4, .inl x4), (5, .inl x5), (6, .inl x6), (7, .inl 1), (8, .inl z90)]) (st' := [.inl (H364.1 7 6), .inr (.inr 7)]) rfl ?_
                  refine k_run 2 (pc' := 217) (l' := [(0, .inr (.inr 361)), (1, .inl x1), (2, .inl x2), (3, .inl x3), (4, .inl x4), (5, .inl x5), (6, .inl x6), (7, .inl 1), (8, .inl z90)]) (st' := [.inl ((H364.1 7 6) + 0), .inr (.inr 7)]) rfl ?_
                  refine k_puti (z := ((H364.1 7 6) + 0)) (a := 7) (x := kx_7) rfl rfl rfl (by decide) (by decide) rfl rfl rfl rfl hI365 (by omega) (show 0 ≤ ((H364.1 7 6) + 0) ∧ ((H364.1 7 6) + 0) ≤ 16 by omega) (fun H384 hI385 hw386 hv387 => ?_)
                  have hf388 : fq [(2, 5), (7, 5), (7, 6), (8, 4), (13, 4), (18, 4), (361, 3), (361, 4), (361, 5), (361, 6), (361, 7), (361, 8), (361, 9)] [4, 5, 6, 9, 10, 11, 14, 15, 16, 17, 19, 20, 21, 22, 362] true H H384 := fq_w hf368 hw386 (fpo (by decide) rfl)
                  refine k_run 0 (pc' := 220) (l' := [(0, .inr (.inr 361)), (1, .inl x1), (2, .inl x2), (3, .inl x3), (4, .inl x4), (5, .inl x5), (6, .inl x6), (7, .inl 1), (8, .inl z90)]) (st' := []) rfl ?_
                  refine k_run 2 (pc' := 69) (l' := [(0, .inr (.inr 361)), (1, .inl x1), (2, .inl x2), (3, .inl x3), (4, .inl x4), (5, .inl x5), (6, .inl (x6 + 1)), (7, .inl 1), (8, .inl z90)]) (st' := []) rfl ?_
                  have g389 : -2147483648 ≤ (H384.1 361 4) ∧ (H384.1 361 4) ≤ 2147483647 := kn (x := kx_361) hI385 rfl 4
                  have e390 : (H384.1 361 4) = (H364.1 361 4) := hw386.2 _ _ (fun q => absurd q.1 (by decide))
                  refine h_loc [0, 1, 2, 3, 4, 5, 6, 7] rfl ?_
                  exact ih H384 hI385 hf388 x1 x2 x3 x4 x5 (x6 + 1) (1 : Int) (by omega) (by omega) (by omega) (by omega) (by omega) (by omega) (by decide) (by omega) (by omega) (by omega) (by omega) (by omega) (by omega) (by omega) (by omega) (by omega)
                · refine k_run 0 (pc' := 211) (l' := [(0, .inr (.inr 361)), (1, .inl x1), (2, .inl x2), (3, .inl x3), (4, .inl x4), (5, .inl x5), (6, .inl x6), (7, .inl 1), (8, .inl z90)]) (st' := [.inl (H364.1 7 6), .inr (.inr 7)]) rfl ?_
                  refine k_run 3 (pc' := 217) (l' := [(0, .inr (.inr 361)), (1, .inl x1), (2, .inl x2), (3, .inl x3), (4, .inl x4), (5, .inl x5), (6, .inl x6), (7, .inl 1), (8, .inl z90)]) (st' := [.inl ((H364.1 7 6) + 1), .inr (.inr 7)]) rfl ?_
                  refine k_puti (z := ((H364.1 7 6) + 1)) (a := 7) (x := kx_7) rfl rfl rfl (by decide) (by decide) rfl rfl rfl rfl hI365 (by omega) (show 0 ≤ ((H364.1 7 6) + 1) ∧ ((H364.1 7 6) + 1) ≤ 16 by omega) (fun H391 hI392 hw393 hv394 => ?_)
                  have hf395 : fq [(2, 5), (7, 5), (7, 6), (8, 4), (13, 4), (18, 4), (361, 3), (361, 4), (361, 5), (361, 6), (361, 7), (361, 8), (361, 9)] [4, 5, 6, 9, 10, 11, 14, 15, 16, 17, 19, 20, 21, 22, 362] true H H391 := fq_w hf368 hw393 (fpo (by decide) rfl)
                  refine k_run 0 (pc' := 220) (l' := [(0, .inr (.inr 361)), (1, .inl x1), (2, .inl x2), (3, .inl x3), (4, .inl x4), (5, .inl x5), (6, .inl x6), (7, .inl 1), (8, .inl z90)]) (st' := []) rfl ?_
                  refine k_run 2 (pc' := 69) (l' := [(0, .inr (.inr 361)), (1, .inl x1), (2, .inl x2), (3, .inl x3), (4, .inl x4), (5, .inl x5), (6, .inl (x6 + 1)), (7, .inl 1), (8, .inl z90)]) (st' := []) rfl ?_
                  have g396 : -2147483648 ≤ (H391.1 361 4) ∧ (H391.1 361 4) ≤ 2147483647 := kn (x := kx_361) hI392 rfl 4
                  have e397 : (H391.1 361 4) = (H364.1 361 4) := hw393.2 _ _ (fun q => absurd q.1 (by decide))
                  refine h_loc [0, 1, 2, 3, 4, 5, 6, 7] rfl ?_
                  exact ih H391 hI392 hf395 x1 x2 x3 x4 x5 (x6 + 1) (1 : Int) (by omega) (by omega) (by omega) (by omega) (by omega) (by omega) (by decide) (by omega) (by omega) (by omega) (by omega) (by omega) (by omega) (by omega) (by omega) (by omega)
set_option maxRecDepth 100000 in
theorem f_Reader_readText {d : Nat} (hd : 42 ≤ d) {H : hp} (hI : Inv H)   : hG (zs zK) d mt_62 0 (zargs 0 [.inr (.inr 361)]) [] H (fun r9 H9 => ∃ z : Int, r9 = some (.inl z) ∧ ((-2147483648 ≤ z ∧ z ≤ 2147483647) ∧ (z < 0 ∨ H9.1 361 4 = H.1 361 4)) ∧ Inv H9 ∧ fq [(2, 5), (7, 5), (7, 6), (8, 4), (13, 4), (18, 4), (361, 3), (361, 4), (361, 5), (361, 6), (361, 7), (361, 8), (361, 9)] [4, 5, 6, 9, 10, 11, 14, 15, 16, 17, 19, 20, 21, 22, 362] true H H9) := by
  refine k_run 0 (pc' := 0) (l' := [(0, .inr (.inr 361))]) (st' := []) rfl ?_
  refine k_run 4 (pc' := 10) (l' := [(0, .inr (.inr 361))]) (st' := [.inl (H.1 8 4)]) rfl ?_
  have g1 : 0 ≤ (H.1 8 4) ∧ (H.1 8 4) ≤ 6 := kn (x := kx_8) hI rfl 4
  refine k_run 5 (pc' := 21) (l' := [(0, .inr (.inr 361)), (1, .inl (H.1 8 4))]) (st' := [.inl (H.1 13 4)]) rfl ?_
  have g2 : 0 ≤ (H.1 13 4) ∧ (H.1 13 4) ≤ 16 := kn (x := kx_13) hI rfl 4
  refine k_run 5 (pc' := 32) (l' := [(0, .inr (.inr 361)), (1, .inl (H.1 8 4)), (2, .inl (H.1 13 4))]) (st' := [.inl (H.1 18 4)]) rfl ?_
  have g3 : 0 ≤ (H.1 18 4) ∧ (H.1 18 4) ≤ 16 := kn (x := kx_18) hI rfl 4
  refine k_run 4 (pc' := 40) (l' := [(0, .inr (.inr 361)), (1, .inl (H.1 8 4)), (2, .inl (H.1 13 4)), (3, .inl (H.1 18 4))]) (st' := [.inl (H.1 7 5)]) rfl ?_
  have g4 : 0 ≤ (H.1 7 5) ∧ (H.1 7 5) ≤ 40 := kn (x := kx_7) hI rfl 5
  refine k_run 4 (pc' := 49) (l' := [(0, .inr (.inr 361)), (1, .inl (H.1 8 4)), (2, .inl (H.1 13 4)), (3, .inl (H.1 18 4)), (4, .inl (H.1 7 5))]) (st' := [.inl (H.1 7 6)]) rfl ?_
  have g5 : 0 ≤ (H.1 7 6) ∧ (H.1 7 6) ≤ 16 := kn (x := kx_7) hI rfl 6
  refine k_run 3 (pc' := 55) (l' := [(0, .inr (.inr 361)), (1, .inl (H.1 8 4)), (2, .inl (H.1 13 4)), (3, .inl (H.1 18 4)), (4, .inl (H.1 7 5)), (5, .inl (H.1 7 6))]) (st' := [.inr (.inr 2)]) rfl ?_
  refine h_cv (i := 64) (j := 27) (b := 2) (M' := mt_27) (xs := []) (rest := []) rfl rfl rfl rfl (zs_K (x := kx_2) rfl (by decide)) rfl (Nat.le_of_ble_eq_true rfl) (Nat.le_of_ble_eq_true rfl) (by omega) (k_Tape_cut (by omega) hI ) ?_
  rintro _ H7 ⟨rfl, hI8, hq9⟩
  have hf10 : fq [(2, 5), (7, 5), (7, 6), (8, 4), (13, 4), (18, 4), (361, 3), (361, 4), (361, 5), (361, 6), (361, 7), (361, 8), (361, 9)] [4, 5, 6, 9, 10, 11, 14, 15, 16, 17, 19, 20, 21, 22, 362] true H H7 := fq_t (fq_rf _ _ _ _) hq9 rfl rfl rfl
  refine k_run 0 (pc' := 58) (l' := [(0, .inr (.inr 361)), (1, .inl (H.1 8 4)), (2, .inl (H.1 13 4)), (3, .inl (H.1 18 4)), (4, .inl (H.1 7 5)), (5, .inl (H.1 7 6))]) (st' := []) rfl ?_
  refine k_run 2 (pc' := 60) (l' := [(0, .inr (.inr 361)), (1, .inl (H.1 8 4)), (2, .inl (H.1 13 4)), (3, .inl (H.1 18 4)), (4, .inl (H.1 7 5)), (5, .inl (H.1 7 6))]) (st' := [.inl 0, .inr (.inr 361)]) rfl ?_
  refine k_putw (a := 361) (x := kx_361) rfl rfl rfl (by decide) (by decide) rfl rfl rfl rfl hI8 rfl (fun H11 hI12 hw13 => ?_)
  have hf15 : fq [(2, 5), (7, 5), (7, 6), (8, 4), (13, 4), (18, 4), (361, 3), (361, 4), (361, 5), (361, 6), (361, 7), (361, 8), (361, 9)] [4, 5, 6, 9, 10, 11, 14, 15, 16, 17, 19, 20, 21, 22, 362] true H H11 := fq_w hf10 hw13 (fpo (by decide) rfl)
  refine k_run 0 (pc' := 63) (l' := [(0, .inr (.inr 361)), (1, .inl (H.1 8 4)), (2, .inl (H.1 13 4)), (3, .inl (H.1 18 4)), (4, .inl (H.1 7 5)), (5, .inl (H.1 7 6))]) (st' := []) rfl ?_
  refine k_run 4 (pc' := 69) (l' := [(0, .inr (.inr 361)), (1, .inl (H.1 8 4)), (2, .inl (H.1 13 4)), (3, .inl (H.1 18 4)), (4, .inl (H.1 7 5)), (5, .inl (H.1 7 6)), (6, .inl 0), (7, .inl 1)]) (st' := []) rfl ?_
  have g16 : -2147483648 ≤ (H11.1 361 4) ∧ (H11.1 361 4) ≤ 2147483647 := kn (x := kx_361) hI12 rfl 4
  have e17 : (H11.1 361 4) = (H7.1 361 4) := hw13.2 _ _ (fun q => absurd q.2 (by decide))
  have e18 : (H7.1 361 4) = (H.1 361 4) := (hq9.1 361 4 rfl (by decide) (by decide)).1
  exact (f_Reader_readText_cut hd hI  _) H11 hI12 hf15 (H.1 8 4) (H.1 13 4) (H.1 18 4) (H.1 7 5) (H.1 7 6) (0 : Int) (1 : Int) (by omega) (by omega) (by omega) (by omega) (by omega) (by decide) (by decide) (by omega) (by omega) (by omega) (by omega) (by omega) (by omega) (by omega) (by omega) (Nat.lt_succ_self _)

/-! read -/
set_option maxRecDepth 100000 in
theorem f_read {d : Nat} (hd : 43 ≤ d) {H : hp} (hI : Inv H)   : hG (zs zK) d mt_3 0 (zargs 0 [.inr (.inr 1)]) [] H (fun r9 H9 => ∃ z : Int, r9 = some (.inl z) ∧ ((-2147483648 ≤ z ∧ z ≤ 2147483647) ∧ (z < 0 ∨ H9.1 361 4 = H.1 361 4)) ∧ Inv H9 ∧ fq [(2, 1), (2, 5), (7, 5), (7, 6), (8, 4), (13, 4), (18, 4), (361, 3), (361, 4), (361, 5), (361, 6), (361, 7), (361, 8), (361, 9), (407, 2), (407, 3)] [4, 5, 6, 9, 10, 11, 14, 15, 16, 17, 19, 20, 21, 22, 362] true H H9) := by
  refine k_run 0 (pc' := 0) (l' := [(0, .inr (.inr 1))]) (st' := []) rfl ?_
  refine k_run 2 (pc' := 4) (l' := [(0, .inr (.inr 1))]) (st' := [.inr (.inr 361)]) rfl ?_
  refine h_cv (i := 92) (j := 62) (b := 361) (M' := mt_62) (xs := []) (rest := []) rfl rfl rfl rfl (zs_K (x := kx_361) rfl (by decide)) rfl (Nat.le_of_ble_eq_true rfl) (Nat.le_of_ble_eq_true rfl) (by omega) (f_Reader_readText (by omega) hI ) ?_
  rintro _ H2 ⟨z5, rfl, g1, hI3, hq4⟩
  have hf6 : fq [(2, 1), (2, 5), (7, 5), (7, 6), (8, 4), (13, 4), (18, 4), (361, 3), (361, 4), (361, 5), (361, 6), (361, 7), (361, 8), (361, 9), (407, 2), (407, 3)] [4, 5, 6, 9, 10, 11, 14, 15, 16, 17, 19, 20, 21, 22, 362] true H H2 := fq_t (fq_rf _ _ _ _) hq4 rfl rfl rfl
  refine k_run 0 (pc' := 7) (l' := [(0, .inr (.inr 1))]) (st' := [.inl z5]) rfl ?_
  refine k_run 4 (pc' := 13) (l' := [(0, .inr (.inr 1)), (1, .inl z5)]) (st' := [.inl 0, .inr (.inr 2)]) rfl ?_
  refine k_puti (z := 0) (a := 2) (x := kx_2) rfl rfl rfl (by decide) (by decide) rfl rfl rfl rfl hI3 (by decide) (show 0 ≤ (0 : Int) ∧ (0 : Int) ≤ 1000 by omega) (fun H7 hI8 hw9 hv10 => ?_)
  have hf11 : fq [(2, 1), (2, 5), (7, 5), (7, 6), (8, 4), (13, 4), (18, 4), (361, 3), (361, 4), (361, 5), (361, 6), (361, 7), (361, 8), (361, 9), (407, 2), (407, 3)] [4, 5, 6, 9, 10, 11, 14, 15, 16, 17, 19, 20, 21, 22, 362] true H H7 := fq_w hf6 hw9 (fpo (by decide) rfl)
  refine k_run 0 (pc' := 16) (l' := [(0, .inr (.inr 1)), (1, .inl z5)]) (st' := []) rfl ?_
  refine k_run 1 (pc' := 17) (l' := [(0, .inr (.inr 1)), (1, .inl z5)]) (st' := [.inl z5]) rfl ?_
  refine h_zlt (off := 13) (t := 30) rfl rfl (by omega) (fun c12 => ?_) (fun c12 => ?_)
  · refine k_run 0 (pc' := 30) (l' := [(0, .inr (.inr 1)), (1, .inl z5)]) (st' := []) rfl ?_
    refine k_run 1 (pc' := 31) (l' := [(0, .inr (.inr 1)), (1, .inl z5)]) (st' := [.inl z5]) rfl ?_
    refine h_reti (x := z5) rfl rfl ?_
    have g13 : -2147483648 ≤ (H7.1 361 4) ∧ (H7.1 361 4) ≤ 2147483647 := kn (x := kx_361) hI8 rfl 4
    have e14 : (H7.1 361 4) = (H2.1 361 4) := hw9.2 _ _ (fun q => absurd q.1 (by decide))
    exact ⟨_, rfl, (by omega), hI8, hf11⟩
  · refine k_run 0 (pc' := 20) (l' := [(0, .inr (.inr 1)), (1, .inl z5)]) (st' := []) rfl ?_
    refine k_run 3 (pc' := 27) (l' := [(0, .inr (.inr 1)), (1, .inl z5)]) (st' := [.inr (.inr 407)]) rfl ?_
    refine h_cv (i := 100) (j := 144) (b := 407) (M' := mt_144) (xs := []) (rest := []) rfl rfl rfl rfl (zs_K (x := kx_407) rfl (by decide)) rfl (Nat.le_of_ble_eq_true rfl) (Nat.le_of_ble_eq_true rfl) (by omega) (k_Proof_forget (by omega) hI8 ) ?_
    rintro _ H16 ⟨rfl, hI17, hq18⟩
    have hf19 : fq [(2, 1), (2, 5), (7, 5), (7, 6), (8, 4), (13, 4), (18, 4), (361, 3), (361, 4), (361, 5), (361, 6), (361, 7), (361, 8), (361, 9), (407, 2), (407, 3)] [4, 5, 6, 9, 10, 11, 14, 15, 16, 17, 19, 20, 21, 22, 362] true H H16 := fq_t hf11 hq18 rfl rfl rfl
    refine k_run 0 (pc' := 30) (l' := [(0, .inr (.inr 1)), (1, .inl z5)]) (st' := []) rfl ?_
    refine k_run 1 (pc' := 31) (l' := [(0, .inr (.inr 1)), (1, .inl z5)]) (st' := [.inl z5]) rfl ?_
    refine h_reti (x := z5) rfl rfl ?_
    have g20 : -2147483648 ≤ (H16.1 361 4) ∧ (H16.1 361 4) ≤ 2147483647 := kn (x := kx_361) hI17 rfl 4
    have e21 : (H16.1 361 4) = (H7.1 361 4) := (hq18.1 361 4 rfl (by decide) (by decide)).1
    have e22 : (H7.1 361 4) = (H2.1 361 4) := hw9.2 _ _ (fun q => absurd q.1 (by decide))
    exact ⟨_, rfl, (by omega), hI17, hf19⟩

/-! fault -/
set_option maxRecDepth 100000 in
theorem kb_fault {d : Nat} (hd : 1 ≤ d) {H : hp} (hI : Inv H)   : hG (zs zK) d mt_4 0 (zargs 0 [.inr (.inr 1)]) [] H (fun r9 H9 => ∃ z : Int, r9 = some (.inl z) ∧ ((-2147483648 ≤ z ∧ z ≤ 2147483647) ∧ (z = H.1 361 4)) ∧ H = H9) := by
  refine k_run 0 (pc' := 0) (l' := [(0, .inr (.inr 1))]) (st' := []) rfl ?_
  refine k_run 3 (pc' := 7) (l' := [(0, .inr (.inr 1))]) (st' := [.inl (H.1 361 4)]) rfl ?_
  have g1 : -2147483648 ≤ (H.1 361 4) ∧ (H.1 361 4) ≤ 2147483647 := kn (x := kx_361) hI rfl 4
  refine h_reti (x := (H.1 361 4)) rfl rfl ?_
  exact ⟨_, rfl, (by omega), rfl⟩
