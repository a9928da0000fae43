/-! the class: the reader -/
/-! Reader.token -/
set_option maxRecDepth 100000 in
theorem f_Reader_token {d : Nat} (hd : 1 ≤ d) {H : hp} (hI : Inv H)   : hG (zs zK) d mt_83 0 (zargs 0 [.inr (.inr 361)]) [] H (fun r9 H9 => ∃ z : Int, r9 = some (.inl z) ∧ ((-2147483648 ≤ z ∧ z ≤ 2147483647)) ∧ H = H9) := by
  refine k_run 0 (pc' := 0) (l' := [(0, .inr (.inr 361))]) (st' := []) rfl ?_
  refine k_run 2 (pc' := 4) (l' := [(0, .inr (.inr 361))]) (st' := [.inl (H.1 361 3)]) rfl ?_
  have g1 : -2147483648 ≤ (H.1 361 3) ∧ (H.1 361 3) ≤ 2147483647 := kn (x := kx_361) hI rfl 3
  refine h_zlt (off := 32) (t := 36) rfl rfl (by omega) (fun c2 => ?_) (fun c2 => ?_)
  · refine k_run 0 (pc' := 36) (l' := [(0, .inr (.inr 361))]) (st' := []) rfl ?_
    refine k_run 1 (pc' := 37) (l' := [(0, .inr (.inr 361))]) (st' := [.inl 0]) rfl ?_
    refine h_reti (x := 0) rfl rfl ?_
    exact ⟨_, rfl, (by omega), rfl⟩
  · refine k_run 0 (pc' := 7) (l' := [(0, .inr (.inr 361))]) (st' := []) rfl ?_
    refine k_run 5 (pc' := 18) (l' := [(0, .inr (.inr 361))]) (st' := [.inl (H.1 2 5), .inl (H.1 361 3)]) rfl ?_
    have g3 : 0 ≤ (H.1 2 5) ∧ (H.1 2 5) ≤ 1001 := kn (x := kx_2) hI rfl 5
    refine h_ige (off := 18) (t := 36) rfl rfl (by omega) (by omega) (fun c4 => ?_) (fun c4 => ?_)
    · refine k_run 0 (pc' := 36) (l' := [(0, .inr (.inr 361))]) (st' := []) rfl ?_
      refine k_run 1 (pc' := 37) (l' := [(0, .inr (.inr 361))]) (st' := [.inl 0]) rfl ?_
      refine h_reti (x := 0) rfl rfl ?_
      exact ⟨_, rfl, (by omega), rfl⟩
    · refine k_run 0 (pc' := 21) (l' := [(0, .inr (.inr 361))]) (st' := []) rfl ?_
      refine k_run 5 (pc' := 32) (l' := [(0, .inr (.inr 361))]) (st' := [.inl (H.1 361 3), .inr (.inr 4)]) rfl ?_
      refine k_ild (c := 4) (j := ((H.1 361 3)).toNat) (i := (H.1 361 3)) (x := kx_4) rfl rfl (by decide) rfl (by decide) (by omega) (by omega) ?_
      have g5 : -2147483648 ≤ (H.1 4 ((H.1 361 3)).toNat) ∧ (H.1 4 ((H.1 361 3)).toNat) ≤ 2147483647 := kn (x := kx_4) hI rfl ((H.1 361 3)).toNat
      refine k_run 0 (pc' := 33) (l' := [(0, .inr (.inr 361))]) (st' := [.inl (H.1 4 ((H.1 361 3)).toNat)]) rfl ?_
      refine k_run 1 (pc' := 37) (l' := [(0, .inr (.inr 361))]) (st' := [.inl (H.1 4 ((H.1 361 3)).toNat)]) rfl ?_
      refine h_reti (x := (H.1 4 ((H.1 361 3)).toNat)) rfl rfl ?_
      exact ⟨_, rfl, (by omega), rfl⟩

/-! Reader.name -/
set_option maxRecDepth 100000 in
theorem f_Reader_name {d : Nat} (hd : 1 ≤ d) {H : hp} (hI : Inv H)   : hG (zs zK) d mt_84 0 (zargs 0 [.inr (.inr 361)]) [] H (fun r9 H9 => ∃ z : Int, r9 = some (.inr (.inl z)) ∧ (-9223372036854775808 ≤ z ∧ z ≤ 9223372036854775807) ∧ H = H9) := by
  refine k_run 0 (pc' := 0) (l' := [(0, .inr (.inr 361))]) (st' := []) rfl ?_
  refine k_run 2 (pc' := 4) (l' := [(0, .inr (.inr 361))]) (st' := [.inl (H.1 361 3)]) rfl ?_
  have g1 : -2147483648 ≤ (H.1 361 3) ∧ (H.1 361 3) ≤ 2147483647 := kn (x := kx_361) hI rfl 3
  refine h_zlt (off := 32) (t := 36) rfl rfl (by omega) (fun c2 => ?_) (fun c2 => ?_)
  · refine k_run 0 (pc' := 36) (l' := [(0, .inr (.inr 361))]) (st' := []) rfl ?_
    refine k_run 1 (pc' := 37) (l' := [(0, .inr (.inr 361))]) (st' := [.inr (.inl 0)]) rfl ?_
    refine h_retl (x := 0) rfl rfl ?_
    exact ⟨_, rfl, (by decide), rfl⟩
  · refine k_run 0 (pc' := 7) (l' := [(0, .inr (.inr 361))]) (st' := []) rfl ?_
    refine k_run 5 (pc' := 18) (l' := [(0, .inr (.inr 361))]) (st' := [.inl (H.1 2 5), .inl (H.1 361 3)]) rfl ?_
    have g3 : 0 ≤ (H.1 2 5) ∧ (H.1 2 5) ≤ 1001 := kn (x := kx_2) hI rfl 5
    refine h_ige (off := 18) (t := 36) rfl rfl (by omega) (by omega) (fun c4 => ?_) (fun c4 => ?_)
    · refine k_run 0 (pc' := 36) (l' := [(0, .inr (.inr 361))]) (st' := []) rfl ?_
      refine k_run 1 (pc' := 37) (l' := [(0, .inr (.inr 361))]) (st' := [.inr (.inl 0)]) rfl ?_
      refine h_retl (x := 0) rfl rfl ?_
      exact ⟨_, rfl, (by decide), rfl⟩
    · refine k_run 0 (pc' := 21) (l' := [(0, .inr (.inr 361))]) (st' := []) rfl ?_
      refine k_run 5 (pc' := 32) (l' := [(0, .inr (.inr 361))]) (st' := [.inl (H.1 361 3), .inr (.inr 6)]) rfl ?_
      refine k_lld (c := 6) (j := ((H.1 361 3)).toNat) (i := (H.1 361 3)) (x := kx_6) rfl rfl (by decide) rfl (by decide) (by omega) (by omega) ?_
      have g5 : -9223372036854775808 ≤ (H.1 6 ((H.1 361 3)).toNat) ∧ (H.1 6 ((H.1 361 3)).toNat) ≤ 9223372036854775807 := kn (x := kx_6) hI rfl ((H.1 361 3)).toNat
      refine k_run 0 (pc' := 33) (l' := [(0, .inr (.inr 361))]) (st' := [.inr (.inl (H.1 6 ((H.1 361 3)).toNat))]) rfl ?_
      refine k_run 1 (pc' := 37) (l' := [(0, .inr (.inr 361))]) (st' := [.inr (.inl (H.1 6 ((H.1 361 3)).toNat))]) rfl ?_
      refine h_retl (x := (H.1 6 ((H.1 361 3)).toNat)) rfl rfl ?_
      exact ⟨_, rfl, (by omega), rfl⟩

/-! Reader.fails -/
set_option maxRecDepth 100000 in
theorem f_Reader_fails {d : Nat} (hd : 1 ≤ d) {H : hp} (hI : Inv H) {a : Int} (ha : -2147483648 ≤ a ∧ a ≤ 2147483647) : hG (zs zK) d mt_86 0 (zargs 0 [.inr (.inr 361), .inl a]) [] H (fun r9 H9 => ∃ z : Int, r9 = some (.inl z) ∧ ((0 ≤ z ∧ z ≤ 1) ∧ (z = 0)) ∧ Inv H9 ∧ fq [(361, 4), (361, 5)] [] false H H9) := by
  refine k_run 0 (pc' := 0) (l' := [(0, .inr (.inr 361)), (1, .inl a)]) (st' := []) rfl ?_
  refine k_run 2 (pc' := 2) (l' := [(0, .inr (.inr 361)), (1, .inl a)]) (st' := [.inl a, .inr (.inr 361)]) rfl ?_
  refine k_putw (a := 361) (x := kx_361) rfl rfl rfl (by decide) (by decide) rfl rfl rfl rfl hI rfl (fun H1 hI2 hw3 => ?_)
  have hf5 : fq [(361, 4), (361, 5)] [] false H H1 := fq_w (fq_rf _ _ _ _) hw3 (fpo (by decide) rfl)
  refine k_run 0 (pc' := 5) (l' := [(0, .inr (.inr 361)), (1, .inl a)]) (st' := []) rfl ?_
  refine k_run 3 (pc' := 10) (l' := [(0, .inr (.inr 361)), (1, .inl a)]) (st' := [.inl (H1.1 361 3), .inr (.inr 361)]) rfl ?_
  have g6 : -2147483648 ≤ (H1.1 361 3) ∧ (H1.1 361 3) ≤ 2147483647 := kn (x := kx_361) hI2 rfl 3
  have e7 : (H1.1 361 3) = (H.1 361 3) := hw3.2 _ _ (fun q => absurd q.2 (by decide))
  refine h_zlt (off := 32) (t := 42) rfl rfl (by omega) (fun c8 => ?_) (fun c8 => ?_)
  · refine k_run 0 (pc' := 42) (l' := [(0, .inr (.inr 361)), (1, .inl a)]) (st' := [.inr (.inr 361)]) rfl ?_
    refine k_run 3 (pc' := 49) (l' := [(0, .inr (.inr 361)), (1, .inl a)]) (st' := [.inl (H1.1 2 1), .inr (.inr 361)]) rfl ?_
    have g9 : 0 ≤ (H1.1 2 1) ∧ (H1.1 2 1) ≤ 1000 := kn (x := kx_2) hI2 rfl 1
    have e10 : (H1.1 2 1) = (H.1 2 1) := hw3.2 _ _ (fun q => absurd q.1 (by decide))
    refine k_puti (z := (H1.1 2 1)) (a := 361) (x := kx_361) rfl rfl rfl (by decide) (by decide) rfl rfl rfl rfl hI2 (by omega) (show 0 ≤ (H1.1 2 1) ∧ (H1.1 2 1) ≤ 1000 by omega) (fun H11 hI12 hw13 hv14 => ?_)
    have hf15 : fq [(361, 4), (361, 5)] [] false H H11 := fq_w hf5 hw13 (fpo (by decide) rfl)
    refine k_run 0 (pc' := 52) (l' := [(0, .inr (.inr 361)), (1, .inl a)]) (st' := []) rfl ?_
    refine k_run 1 (pc' := 53) (l' := [(0, .inr (.inr 361)), (1, .inl a)]) (st' := [.inl 0]) rfl ?_
    refine h_retz (x := 0) rfl rfl (by decide) ?_
    have g16 : -2147483648 ≤ (H11.1 361 4) ∧ (H11.1 361 4) ≤ 2147483647 := kn (x := kx_361) hI12 rfl 4
    have e17 : (H11.1 361 4) = (H1.1 361 4) := hw13.2 _ _ (fun q => absurd q.2 (by decide))
    exact ⟨_, rfl, (by omega), hI12, hf15⟩
  · refine k_run 0 (pc' := 13) (l' := [(0, .inr (.inr 361)), (1, .inl a)]) (st' := [.inr (.inr 361)]) rfl ?_
    refine k_run 5 (pc' := 24) (l' := [(0, .inr (.inr 361)), (1, .inl a)]) (st' := [.inl (H1.1 2 5), .inl (H1.1 361 3), .inr (.inr 361)]) rfl ?_
    have g18 : 0 ≤ (H1.1 2 5) ∧ (H1.1 2 5) ≤ 1001 := kn (x := kx_2) hI2 rfl 5
    have e19 : (H1.1 2 5) = (H.1 2 5) := hw3.2 _ _ (fun q => absurd q.1 (by decide))
    refine h_ige (off := 18) (t := 42) rfl rfl (by omega) (by omega) (fun c20 => ?_) (fun c20 => ?_)
    · refine k_run 0 (pc' := 42) (l' := [(0, .inr (.inr 361)), (1, .inl a)]) (st' := [.inr (.inr 361)]) rfl ?_
      refine k_run 3 (pc' := 49) (l' := [(0, .inr (.inr 361)), (1, .inl a)]) (st' := [.inl (H1.1 2 1), .inr (.inr 361)]) rfl ?_
      have g21 : 0 ≤ (H1.1 2 1) ∧ (H1.1 2 1) ≤ 1000 := kn (x := kx_2) hI2 rfl 1
      have e22 : (H1.1 2 1) = (H.1 2 1) := hw3.2 _ _ (fun q => absurd q.1 (by decide))
      refine k_puti (z := (H1.1 2 1)) (a := 361) (x := kx_361) rfl rfl rfl (by decide) (by decide) rfl rfl rfl rfl hI2 (by omega) (show 0 ≤ (H1.1 2 1) ∧ (H1.1 2 1) ≤ 1000 by omega) (fun H23 hI24 hw25 hv26 => ?_)
      have hf27 : fq [(361, 4), (361, 5)] [] false H H23 := fq_w hf5 hw25 (fpo (by decide) rfl)
      refine k_run 0 (pc' := 52) (l' := [(0, .inr (.inr 361)), (1, .inl a)]) (st' := []) rfl ?_
      refine k_run 1 (pc' := 53) (l' := [(0, .inr (.inr 361)), (1, .inl a)]) (st' := [.inl 0]) rfl ?_
      refine h_retz (x := 0) rfl rfl (by decide) ?_
      have g28 : -2147483648 ≤ (H23.1 361 4) ∧ (H23.1 361 4) ≤ 2147483647 := kn (x := kx_361) hI24 rfl 4
      have e29 : (H23.1 361 4) = (H1.1 361 4) := hw25.2 _ _ (fun q => absurd q.2 (by decide))
      exact ⟨_, rfl, (by omega), hI24, hf27⟩
    · refine k_run 0 (pc' := 27) (l' := [(0, .inr (.inr 361)), (1, .inl a)]) (st' := [.inr (.inr 361)]) rfl ?_
      refine k_run 5 (pc' := 38) (l' := [(0, .inr (.inr 361)), (1, .inl a)]) (st' := [.inl (H1.1 361 3), .inr (.inr 5), .inr (.inr 361)]) rfl ?_
      refine k_ild (c := 5) (j := ((H1.1 361 3)).toNat) (i := (H1.1 361 3)) (x := kx_5) rfl rfl (by decide) rfl (by decide) (by omega) (by omega) ?_
      have g30 : 0 ≤ (H1.1 5 ((H1.1 361 3)).toNat) ∧ (H1.1 5 ((H1.1 361 3)).toNat) ≤ 1000 := kn (x := kx_5) hI2 rfl ((H1.1 361 3)).toNat
      have e31 : (H1.1 5 ((H1.1 361 3)).toNat) = (H.1 5 ((H1.1 361 3)).toNat) := hw3.2 _ _ (fun q => absurd q.1 (by decide))
      refine k_run 0 (pc' := 39) (l' := [(0, .inr (.inr 361)), (1, .inl a)]) (st' := [.inl (H1.1 5 ((H1.1 361 3)).toNat), .inr (.inr 361)]) rfl ?_
      refine k_run 1 (pc' := 49) (l' := [(0, .inr (.inr 361)), (1, .inl a)]) (st' := [.inl (H1.1 5 ((H1.1 361 3)).toNat), .inr (.inr 361)]) rfl ?_
      refine k_puti (z := (H1.1 5 ((H1.1 361 3)).toNat)) (a := 361) (x := kx_361) rfl rfl rfl (by decide) (by decide) rfl rfl rfl rfl hI2 (by omega) (show 0 ≤ (H1.1 5 ((H1.1 361 3)).toNat) ∧ (H1.1 5 ((H1.1 361 3)).toNat) ≤ 1000 by omega) (fun H32 hI33 hw34 hv35 => ?_)
      have hf36 : fq [(361, 4), (361, 5)] [] false H H32 := fq_w hf5 hw34 (fpo (by decide) rfl)
      refine k_run 0 (pc' := 52) (l' := [(0, .inr (.inr 361)), (1, .inl a)]) (st' := []) rfl ?_
      refine k_run 1 (pc' := 53) (l' := [(0, .inr (.inr 361)), (1, .inl a)]) (st' := [.inl 0]) rfl ?_
      refine h_retz (x := 0) rfl rfl (by decide) ?_
      have g37 : -2147483648 ≤ (H32.1 361 4) ∧ (H32.1 361 4) ≤ 2147483647 := kn (x := kx_361) hI33 rfl 4
      have e38 : (H32.1 361 4) = (H1.1 361 4) := hw34.2 _ _ (fun q => absurd q.2 (by decide))
      exact ⟨_, rfl, (by omega), hI33, hf36⟩

/-! Reader.misplaced -/
set_option maxRecDepth 100000 in
theorem f_Reader_misplaced {d : Nat} (hd : 2 ≤ d) {H : hp} (hI : Inv H)   : hG (zs zK) d mt_85 0 (zargs 0 [.inr (.inr 361)]) [] H (fun r9 H9 => ∃ z : Int, r9 = some (.inl z) ∧ ((0 ≤ z ∧ z ≤ 1) ∧ (z = 0)) ∧ Inv H9 ∧ fq [(361, 4), (361, 5)] [] false H H9) := by
  refine k_run 0 (pc' := 0) (l' := [(0, .inr (.inr 361))]) (st' := []) rfl ?_
  refine k_run 2 (pc' := 2) (l' := [(0, .inr (.inr 361))]) (st' := [.inr (.inr 361), .inr (.inr 361)]) rfl ?_
  refine h_cv (i := 72) (j := 83) (b := 361) (M' := mt_83) (xs := []) (rest := [.inr (.inr 361)]) rfl rfl rfl rfl (zs_K (x := kx_361) rfl (by decide)) rfl (Nat.le_of_ble_eq_true rfl) (Nat.le_of_ble_eq_true rfl) (by omega) (f_Reader_token (by omega) hI ) ?_
  rintro _ _ ⟨z5, rfl, g1, rfl⟩
  refine k_run 0 (pc' := 5) (l' := [(0, .inr (.inr 361))]) (st' := [.inl z5, .inr (.inr 361)]) rfl ?_
  refine k_run 1 (pc' := 6) (l' := [(0, .inr (.inr 361))]) (st' := [.inl 1, .inl z5, .inr (.inr 361)]) rfl ?_
  refine h_ine (off := 7) (t := 13) rfl rfl (by omega) (by decide) (fun c6 => ?_) (fun c6 => ?_)
  · refine k_run 0 (pc' := 13) (l' := [(0, .inr (.inr 361))]) (st' := [.inr (.inr 361)]) rfl ?_
    refine k_run 1 (pc' := 14) (l' := [(0, .inr (.inr 361))]) (st' := [.inl 2, .inr (.inr 361)]) rfl ?_
    have g7 : -2147483648 ≤ (H.1 361 4) ∧ (H.1 361 4) ≤ 2147483647 := kn (x := kx_361) hI rfl 4
    refine h_cv (i := 128) (j := 86) (b := 361) (M' := mt_86) (xs := [.inl 2]) (rest := []) rfl rfl rfl rfl (zs_K (x := kx_361) rfl (by decide)) rfl (Nat.le_of_ble_eq_true rfl) (Nat.le_of_ble_eq_true rfl) (by omega) (f_Reader_fails (by omega) hI (by decide)) ?_
    rintro _ H9 ⟨z12, rfl, g8, hI10, hq11⟩
    have hf13 : fq [(361, 4), (361, 5)] [] false H H9 := fq_t (fq_rf _ _ _ _) hq11 rfl rfl rfl
    refine k_run 0 (pc' := 17) (l' := [(0, .inr (.inr 361))]) (st' := [.inl z12]) rfl ?_
    refine h_retz (x := z12) rfl rfl (by omega) ?_
    have g14 : -2147483648 ≤ (H9.1 361 4) ∧ (H9.1 361 4) ≤ 2147483647 := kn (x := kx_361) hI10 rfl 4
    exact ⟨_, rfl, (by omega), hI10, hf13⟩
  · refine k_run 0 (pc' := 9) (l' := [(0, .inr (.inr 361))]) (st' := [.inr (.inr 361)]) rfl ?_
    refine k_run 2 (pc' := 14) (l' := [(0, .inr (.inr 361))]) (st' := [.inl 1, .inr (.inr 361)]) rfl ?_
    have g15 : -2147483648 ≤ (H.1 361 4) ∧ (H.1 361 4) ≤ 2147483647 := kn (x := kx_361) hI rfl 4
    refine h_cv (i := 128) (j := 86) (b := 361) (M' := mt_86) (xs := [.inl 1]) (rest := []) rfl rfl rfl rfl (zs_K (x := kx_361) rfl (by decide)) rfl (Nat.le_of_ble_eq_true rfl) (Nat.le_of_ble_eq_true rfl) (by omega) (f_Reader_fails (by omega) hI (by decide)) ?_
    rintro _ H17 ⟨z20, rfl, g16, hI18, hq19⟩
    have hf21 : fq [(361, 4), (361, 5)] [] false H H17 := fq_t (fq_rf _ _ _ _) hq19 rfl rfl rfl
    refine k_run 0 (pc' := 17) (l' := [(0, .inr (.inr 361))]) (st' := [.inl z20]) rfl ?_
    refine h_retz (x := z20) rfl rfl (by omega) ?_
    have g22 : -2147483648 ≤ (H17.1 361 4) ∧ (H17.1 361 4) ≤ 2147483647 := kn (x := kx_361) hI18 rfl 4
    exact ⟨_, rfl, (by omega), hI18, hf21⟩

/-! Reader.take -/
set_option maxRecDepth 100000 in
theorem f_Reader_take {d : Nat} (hd : 3 ≤ d) {H : hp} (hI : Inv H) {a : Int} (ha : -2147483648 ≤ a ∧ a ≤ 2147483647) : hG (zs zK) d mt_82 0 (zargs 0 [.inr (.inr 361), .inl a]) [] H (fun r9 H9 => ∃ z : Int, r9 = some (.inl z) ∧ ((0 ≤ z ∧ z ≤ 1) ∧ ((z = 0 ∨ H9.1 361 4 = H.1 361 4))) ∧ Inv H9 ∧ fq [(361, 3), (361, 4), (361, 5)] [] false H H9) := by
  refine k_run 0 (pc' := 0) (l' := [(0, .inr (.inr 361)), (1, .inl a)]) (st' := []) rfl ?_
  refine k_run 1 (pc' := 1) (l' := [(0, .inr (.inr 361)), (1, .inl a)]) (st' := [.inr (.inr 361)]) rfl ?_
  refine h_cv (i := 72) (j := 83) (b := 361) (M' := mt_83) (xs := []) (rest := []) rfl rfl rfl rfl (zs_K (x := kx_361) rfl (by decide)) rfl (Nat.le_of_ble_eq_true rfl) (Nat.le_of_ble_eq_true rfl) (by omega) (f_Reader_token (by omega) hI ) ?_
  rintro _ _ ⟨z5, rfl, g1, rfl⟩
  refine k_run 0 (pc' := 4) (l' := [(0, .inr (.inr 361)), (1, .inl a)]) (st' := [.inl z5]) rfl ?_
  refine k_run 1 (pc' := 5) (l' := [(0, .inr (.inr 361)), (1, .inl a)]) (st' := [.inl a, .inl z5]) rfl ?_
  refine h_ieq (off := 8) (t := 13) rfl rfl (by omega) (by omega) (fun c6 => ?_) (fun c6 => ?_)
  · refine k_run 0 (pc' := 13) (l' := [(0, .inr (.inr 361)), (1, .inl a)]) (st' := []) rfl ?_
    refine k_run 3 (pc' := 18) (l' := [(0, .inr (.inr 361)), (1, .inl a)]) (st' := [.inl (H.1 361 3), .inr (.inr 361)]) rfl ?_
    have g7 : -2147483648 ≤ (H.1 361 3) ∧ (H.1 361 3) ≤ 2147483647 := kn (x := kx_361) hI rfl 3
    refine k_run 2 (pc' := 20) (l' := [(0, .inr (.inr 361)), (1, .inl a)]) (st' := [.inl ((H.1 361 3) + 1), .inr (.inr 361)]) rfl ?_
    refine k_putw (a := 361) (x := kx_361) rfl rfl rfl (by decide) (by decide) rfl rfl rfl rfl hI rfl (fun H8 hI9 hw10 => ?_)
    have hf12 : fq [(361, 3), (361, 4), (361, 5)] [] false H H8 := fq_w (fq_rf _ _ _ _) hw10 (fpo (by decide) rfl)
    refine k_run 0 (pc' := 23) (l' := [(0, .inr (.inr 361)), (1, .inl a)]) (st' := []) rfl ?_
    refine k_run 1 (pc' := 24) (l' := [(0, .inr (.inr 361)), (1, .inl a)]) (st' := [.inl 1]) rfl ?_
    refine h_retz (x := 1) rfl rfl (by decide) ?_
    have g13 : -2147483648 ≤ (H8.1 361 4) ∧ (H8.1 361 4) ≤ 2147483647 := kn (x := kx_361) hI9 rfl 4
    have e14 : (H8.1 361 4) = (H.1 361 4) := hw10.2 _ _ (fun q => absurd q.2 (by decide))
    exact ⟨_, rfl, (by omega), hI9, hf12⟩
  · refine k_run 0 (pc' := 8) (l' := [(0, .inr (.inr 361)), (1, .inl a)]) (st' := []) rfl ?_
    refine k_run 1 (pc' := 9) (l' := [(0, .inr (.inr 361)), (1, .inl a)]) (st' := [.inr (.inr 361)]) rfl ?_
    have g15 : -2147483648 ≤ (H.1 361 4) ∧ (H.1 361 4) ≤ 2147483647 := kn (x := kx_361) hI rfl 4
    refine h_cv (i := 89) (j := 85) (b := 361) (M' := mt_85) (xs := []) (rest := []) rfl rfl rfl rfl (zs_K (x := kx_361) rfl (by decide)) rfl (Nat.le_of_ble_eq_true rfl) (Nat.le_of_ble_eq_true rfl) (by omega) (f_Reader_misplaced (by omega) hI ) ?_
    rintro _ H17 ⟨z20, rfl, g16, hI18, hq19⟩
    have hf21 : fq [(361, 3), (361, 4), (361, 5)] [] false H H17 := fq_t (fq_rf _ _ _ _) hq19 rfl rfl rfl
    refine k_run 0 (pc' := 12) (l' := [(0, .inr (.inr 361)), (1, .inl a)]) (st' := [.inl z20]) rfl ?_
    refine h_retz (x := z20) rfl rfl (by omega) ?_
    have g22 : -2147483648 ≤ (H17.1 361 4) ∧ (H17.1 361 4) ≤ 2147483647 := kn (x := kx_361) hI18 rfl 4
    exact ⟨_, rfl, (by omega), hI18, hf21⟩

/-! Reader.startTerm -/
set_option maxRecDepth 100000 in
theorem f_Reader_startTerm {d : Nat} (hd : 1 ≤ d) {H : hp} (hI : Inv H) {t n : Nat} (ht : isT t n) : hG (zs zK) d mt_81 0 (zargs 0 [.inr (.inr 361), .inr (.inr t)]) [] H (fun r9 H9 => r9 = none ∧ (H9.1 361 4 = H.1 361 4) ∧ Inv H9 ∧ fq [(361, 8)] [] false H H9) := by
  have htb := ht.2.2.2.2
  refine k_run 0 (pc' := 0) (l' := [(0, .inr (.inr 361)), (1, .inr (.inr t))]) (st' := []) rfl ?_
  refine k_run 2 (pc' := 2) (l' := [(0, .inr (.inr 361)), (1, .inr (.inr t))]) (st' := [.inr (.inr t), .inr (.inr 361)]) rfl ?_
  refine k_putr (t := t) (a := 361) (x := kx_361) rfl rfl rfl (by decide) (by decide) rfl rfl (fun g9 e9 => congrArg Value.ref e9) rfl rfl hI (show ∃ n, isT t n from ⟨_, ht⟩) (fun H1 hI2 hw3 => ?_)
  have hf5 : fq [(361, 8)] [] false H H1 := fq_r (fq_rf _ _ _ _) hw3 (fpo (by decide) rfl)
  refine k_run 0 (pc' := 5) (l' := [(0, .inr (.inr 361)), (1, .inr (.inr t))]) (st' := []) rfl ?_
  refine k_run 1 (pc' := 6) (l' := [(0, .inr (.inr 361)), (1, .inr (.inr t))]) (st' := [.inr (.inr 361)]) rfl ?_
  refine k_getr (a := 361) (x := kx_361) rfl rfl rfl (by decide) rfl rfl rfl hI2 (fun h6 => ?_)
  obtain ⟨t7, et9⟩ : ∃ t9, t9 = H1.2 361 8 := ⟨_, rfl⟩
  rw [← et9] at h6 ⊢
  obtain ⟨n10, k8⟩ := (show ∃ n, isT t7 n from h6)
  have k8b := k8.2.2.2.2
  refine k_run 0 (pc' := 9) (l' := [(0, .inr (.inr 361)), (1, .inr (.inr t))]) (st' := [.inr (.inr t7)]) rfl ?_
  refine k_run 1 (pc' := 10) (l' := [(0, .inr (.inr 361)), (1, .inr (.inr t))]) (st' := [.inl 0, .inr (.inr t7)]) rfl ?_
  refine k_puti (z := 0) (a := t7) (x := (kTo t7 n10)) rfl rfl k8.1 (iT0 k8) k8.2.2.1 rfl rfl rfl rfl hI2 (by decide) (show 0 ≤ (0 : Int) ∧ (0 : Int) ≤ n10 by omega) (fun H11 hI12 hw13 hv14 => ?_)
  have hf15 : fq [(361, 8)] [] false H H11 := fq_w hf5 hw13 (fpT k8)
  refine k_run 0 (pc' := 13) (l' := [(0, .inr (.inr 361)), (1, .inr (.inr t))]) (st' := []) rfl ?_
  refine h_ret rfl rfl ?_
  have g16 : -2147483648 ≤ (H11.1 361 4) ∧ (H11.1 361 4) ≤ 2147483647 := kn (x := kx_361) hI12 rfl 4
  have e17 : (H11.1 361 4) = (H1.1 361 4) := hw13.2 _ _ (fun q => by have h9 := (iTf k8); rw [← q.1] at h9; exact absurd h9 (by decide))
  have e18 : (H1.1 361 4) = (H.1 361 4) := congrFun (congrFun hw3.1 _) _
  exact ⟨rfl, (by omega), hI12, hf15⟩

/-! Reader.startEquation -/
set_option maxRecDepth 100000 in
theorem f_Reader_startEquation {d : Nat} (hd : 2 ≤ d) {H : hp} (hI : Inv H) {e : Nat} {a : Int} (he : isE e) (ha : -2147483648 ≤ a ∧ a ≤ 2147483647) : hG (zs zK) d mt_80 0 (zargs 0 [.inr (.inr 361), .inr (.inr e), .inl a]) [] H (fun r9 H9 => r9 = none ∧ (H9.1 361 4 = H.1 361 4) ∧ Inv H9 ∧ fq [(361, 6), (361, 7), (361, 8), (361, 9)] [] false H H9) := by
  refine k_run 0 (pc' := 0) (l' := [(0, .inr (.inr 361)), (1, .inr (.inr e)), (2, .inl a)]) (st' := []) rfl ?_
  refine k_run 2 (pc' := 2) (l' := [(0, .inr (.inr 361)), (1, .inr (.inr e)), (2, .inl a)]) (st' := [.inr (.inr e), .inr (.inr 361)]) rfl ?_
  refine k_putr (t := e) (a := 361) (x := kx_361) rfl rfl rfl (by decide) (by decide) rfl rfl (fun g9 e9 => congrArg Value.ref e9) rfl rfl hI (show isE e from he) (fun H1 hI2 hw3 => ?_)
  have hf5 : fq [(361, 6), (361, 7), (361, 8), (361, 9)] [] false H H1 := fq_r (fq_rf _ _ _ _) hw3 (fpo (by decide) rfl)
  refine k_run 0 (pc' := 5) (l' := [(0, .inr (.inr 361)), (1, .inr (.inr e)), (2, .inl a)]) (st' := []) rfl ?_
  refine k_run 2 (pc' := 7) (l' := [(0, .inr (.inr 361)), (1, .inr (.inr e)), (2, .inl a)]) (st' := [.inl a, .inr (.inr 361)]) rfl ?_
  refine k_putw (a := 361) (x := kx_361) rfl rfl rfl (by decide) (by decide) rfl rfl rfl rfl hI2 rfl (fun H6 hI7 hw8 => ?_)
  have hf10 : fq [(361, 6), (361, 7), (361, 8), (361, 9)] [] false H H6 := fq_w hf5 hw8 (fpo (by decide) rfl)
  refine k_run 0 (pc' := 10) (l' := [(0, .inr (.inr 361)), (1, .inr (.inr e)), (2, .inl a)]) (st' := []) rfl ?_
  refine k_run 2 (pc' := 12) (l' := [(0, .inr (.inr 361)), (1, .inr (.inr e)), (2, .inl a)]) (st' := [.inl 0, .inr (.inr 361)]) rfl ?_
  refine k_puti (z := 0) (a := 361) (x := kx_361) rfl rfl rfl (by decide) (by decide) rfl rfl rfl rfl hI7 (by decide) (show 0 ≤ (0 : Int) ∧ (0 : Int) ≤ 40 by omega) (fun H11 hI12 hw13 hv14 => ?_)
  have hf15 : fq [(361, 6), (361, 7), (361, 8), (361, 9)] [] false H H11 := fq_w hf10 hw13 (fpo (by decide) rfl)
  refine k_run 0 (pc' := 15) (l' := [(0, .inr (.inr 361)), (1, .inr (.inr e)), (2, .inl a)]) (st' := []) rfl ?_
  refine k_run 2 (pc' := 17) (l' := [(0, .inr (.inr 361)), (1, .inr (.inr e)), (2, .inl a)]) (st' := [.inr (.inr e), .inr (.inr 361)]) rfl ?_
  refine k_get (a := e) (x := (kEo e)) (v := .inr (.inr (e + 1))) rfl rfl he.1 (iE0 he) rfl rfl rfl ?_
  refine k_run 0 (pc' := 20) (l' := [(0, .inr (.inr 361)), (1, .inr (.inr e)), (2, .inl a)]) (st' := [.inr (.inr (e + 1)), .inr (.inr 361)]) rfl ?_
  have g16 : -2147483648 ≤ (H11.1 361 4) ∧ (H11.1 361 4) ≤ 2147483647 := kn (x := kx_361) hI12 rfl 4
  have e17 : (H11.1 361 4) = (H6.1 361 4) := hw13.2 _ _ (fun q => absurd q.2 (by decide))
  have e18 : (H6.1 361 4) = (H1.1 361 4) := hw8.2 _ _ (fun q => absurd q.2 (by decide))
  have e19 : (H1.1 361 4) = (H.1 361 4) := congrFun (congrFun hw3.1 _) _
  refine h_cv (i := 105) (j := 81) (b := 361) (M' := mt_81) (xs := [.inr (.inr (e + 1))]) (rest := []) rfl rfl rfl rfl (zs_K (x := kx_361) rfl (by decide)) rfl (Nat.le_of_ble_eq_true rfl) (Nat.le_of_ble_eq_true rfl) (by omega) (f_Reader_startTerm (by omega) hI12 (iEl he)) ?_
  rintro _ H21 ⟨rfl, g20, hI22, hq23⟩
  have hf24 : fq [(361, 6), (361, 7), (361, 8), (361, 9)] [] false H H21 := fq_t hf15 hq23 rfl rfl rfl
  refine k_run 0 (pc' := 23) (l' := [(0, .inr (.inr 361)), (1, .inr (.inr e)), (2, .inl a)]) (st' := []) rfl ?_
  refine h_ret rfl rfl ?_
  have g25 : -2147483648 ≤ (H21.1 361 4) ∧ (H21.1 361 4) ≤ 2147483647 := kn (x := kx_361) hI22 rfl 4
  have e26 : (H21.1 361 4) = (H11.1 361 4) := (hq23.1 361 4 rfl (by decide) (by decide)).1
  exact ⟨rfl, (by omega), hI22, hf24⟩

/-! Reader.findVariable -/
set_option maxRecDepth 100000 in
theorem f_Reader_findVariable_cut {d : Nat} (hd : 2 ≤ d) {H : hp} (hI : Inv H)   : ∀ w : Nat, (∀ (x1 : Int) , (-2147483648 ≤ x1 ∧ x1 ≤ 2147483647) → (0 ≤ x1) → (((100 - x1).toNat) < w) → hG (zs zK) d mt_79 2 [(0, .inr (.inr 361)), (1, .inl x1)] [] H (fun r9 H9 => ∃ z : Int, r9 = some (.inl z) ∧ ((-2147483648 ≤ z ∧ z ≤ 2147483647) ∧ (-1 ≤ z ∧ z < 40)) ∧ H = H9)) := by
  intro w
  induction w with
  | zero => exact fun _ _ _ h => absurd h (Nat.not_lt_zero _)
  | succ w ih =>
    intro x1 hx1 hi0 hw
    refine k_run 3 (pc' := 7) (l' := [(0, .inr (.inr 361)), (1, .inl x1)]) (st' := [.inl (H.1 361 9), .inl x1]) rfl ?_
    have g1 : 0 ≤ (H.1 361 9) ∧ (H.1 361 9) ≤ 40 := kn (x := kx_361) hI rfl 9
    refine h_ige (off := 34) (t := 41) rfl rfl (by omega) (by omega) (fun c2 => ?_) (fun c2 => ?_)
    · refine k_run 0 (pc' := 41) (l' := [(0, .inr (.inr 361)), (1, .inl x1)]) (st' := []) rfl ?_
      refine k_run 1 (pc' := 42) (l' := [(0, .inr (.inr 361)), (1, .inl x1)]) (st' := [.inl (-1)]) rfl ?_
      refine h_reti (x := (-1)) rfl rfl ?_
      exact ⟨_, rfl, (by omega), rfl⟩
    · refine k_run 0 (pc' := 10) (l' := [(0, .inr (.inr 361)), (1, .inl x1)]) (st' := []) rfl ?_
      refine k_run 3 (pc' := 15) (l' := [(0, .inr (.inr 361)), (1, .inl x1)]) (st' := [.inr (.inr 362), .inl x1]) rfl ?_
      refine k_alen (c := 362) (x := kx_362) rfl rfl (by decide) rfl ?_
      refine k_run 0 (pc' := 16) (l' := [(0, .inr (.inr 361)), (1, .inl x1)]) (st' := [.inl 40, .inl x1]) rfl ?_
      refine h_ige (off := 25) (t := 41) rfl rfl (by omega) (by decide) (fun c3 => ?_) (fun c3 => ?_)
      · refine k_run 0 (pc' := 41) (l' := [(0, .inr (.inr 361)), (1, .inl x1)]) (st' := []) rfl ?_
        refine k_run 1 (pc' := 42) (l' := [(0, .inr (.inr 361)), (1, .inl x1)]) (st' := [.inl (-1)]) rfl ?_
        refine h_reti (x := (-1)) rfl rfl ?_
        exact ⟨_, rfl, (by omega), rfl⟩
      · refine k_run 0 (pc' := 19) (l' := [(0, .inr (.inr 361)), (1, .inl x1)]) (st' := []) rfl ?_
        refine k_run 3 (pc' := 24) (l' := [(0, .inr (.inr 361)), (1, .inl x1)]) (st' := [.inl x1, .inr (.inr 362)]) rfl ?_
        refine k_lld (c := 362) (j := (x1).toNat) (i := x1) (x := kx_362) rfl rfl (by decide) rfl (by decide) (by omega) (by omega) ?_
        have g4 : -9223372036854775808 ≤ (H.1 362 (x1).toNat) ∧ (H.1 362 (x1).toNat) ≤ 9223372036854775807 := kn (x := kx_362) hI rfl (x1).toNat
        refine k_run 0 (pc' := 25) (l' := [(0, .inr (.inr 361)), (1, .inl x1)]) (st' := [.inr (.inl (H.1 362 (x1).toNat))]) rfl ?_
        refine k_run 1 (pc' := 26) (l' := [(0, .inr (.inr 361)), (1, .inl x1)]) (st' := [.inr (.inr 361), .inr (.inl (H.1 362 (x1).toNat))]) rfl ?_
        refine h_cv (i := 120) (j := 84) (b := 361) (M' := mt_84) (xs := []) (rest := [.inr (.inl (H.1 362 (x1).toNat))]) rfl rfl rfl rfl (zs_K (x := kx_361) rfl (by decide)) rfl (Nat.le_of_ble_eq_true rfl) (Nat.le_of_ble_eq_true rfl) (by omega) (f_Reader_name (by omega) hI ) ?_
        rintro _ _ ⟨z9, rfl, g5, rfl⟩
        refine k_run 0 (pc' := 29) (l' := [(0, .inr (.inr 361)), (1, .inl x1)]) (st' := [.inr (.inl z9), .inr (.inl (H.1 362 (x1).toNat))]) rfl ?_
        refine k_run 1 (pc' := 30) (l' := [(0, .inr (.inr 361)), (1, .inl x1)]) (st' := [.inl (z_cmp (H.1 362 (x1).toNat) z9)]) rfl ?_
        refine k_nrm (fun y10 hy10 => ?_)
        refine k_run 0 (pc' := 30) (l' := [(0, .inr (.inr 361)), (1, .inl x1)]) (st' := [.inl y10]) rfl ?_
        refine h_zne (off := 5) (t := 35) rfl rfl (by omega) (fun c11 => ?_) (fun c11 => ?_)
        · refine k_run 0 (pc' := 35) (l' := [(0, .inr (.inr 361)), (1, .inl x1)]) (st' := []) rfl ?_
          refine k_run 2 (pc' := 2) (l' := [(0, .inr (.inr 361)), (1, .inl (x1 + 1))]) (st' := []) rfl ?_
          exact ih (x1 + 1) (by omega) (by omega) (by omega)
        · refine k_run 0 (pc' := 33) (l' := [(0, .inr (.inr 361)), (1, .inl x1)]) (st' := []) rfl ?_
          refine k_run 1 (pc' := 34) (l' := [(0, .inr (.inr 361)), (1, .inl x1)]) (st' := [.inl x1]) rfl ?_
          refine h_reti (x := x1) rfl rfl ?_
          exact ⟨_, rfl, (by omega), rfl⟩
set_option maxRecDepth 100000 in
theorem f_Reader_findVariable {d : Nat} (hd : 2 ≤ d) {H : hp} (hI : Inv H)   : hG (zs zK) d mt_79 0 (zargs 0 [.inr (.inr 361)]) [] H (fun r9 H9 => ∃ z : Int, r9 = some (.inl z) ∧ ((-2147483648 ≤ z ∧ z ≤ 2147483647) ∧ (-1 ≤ z ∧ z < 40)) ∧ H = H9) := by
  refine k_run 0 (pc' := 0) (l' := [(0, .inr (.inr 361))]) (st' := []) rfl ?_
  refine k_run 2 (pc' := 2) (l' := [(0, .inr (.inr 361)), (1, .inl 0)]) (st' := []) rfl ?_
  exact (f_Reader_findVariable_cut hd hI  _) (0 : Int) (by decide) (by omega) (Nat.lt_succ_self _)

/-! Reader.tellName -/
set_option maxRecDepth 100000 in
theorem f_Reader_tellName_8 {d : Nat} (hd : 3 ≤ d) {H : hp} (hI : Inv H) {a : Int} {b : Int} (ha : -2147483648 ≤ a ∧ a ≤ 2147483647) (hb : -2147483648 ≤ b ∧ b ≤ 2147483647) (hp0 : -2 ≤ b ∧ b ≤ 100) : hG (zs zK) d mt_78 0 (zargs 0 [.inr (.inr 361), .inr (.inr 8), .inl a, .inl b]) [] H (fun r9 H9 => ∃ z : Int, r9 = some (.inl z) ∧ ((0 ≤ z ∧ z ≤ 1) ∧ ((z = 0 ∨ H9.1 361 4 = H.1 361 4))) ∧ Inv H9 ∧ fq [(8, 4), (361, 3), (361, 4), (361, 5)] [9, 10, 11] false H H9) := by
  refine k_run 0 (pc' := 0) (l' := [(0, .inr (.inr 361)), (1, .inr (.inr 8)), (2, .inl a), (3, .inl b)]) (st' := []) rfl ?_
  refine k_run 1 (pc' := 1) (l' := [(0, .inr (.inr 361)), (1, .inr (.inr 8)), (2, .inl a), (3, .inl b)]) (st' := [.inr (.inr 361)]) rfl ?_
  refine h_cv (i := 72) (j := 83) (b := 361) (M' := mt_83) (xs := []) (rest := []) rfl rfl rfl rfl (zs_K (x := kx_361) rfl (by decide)) rfl (Nat.le_of_ble_eq_true rfl) (Nat.le_of_ble_eq_true rfl) (by omega) (f_Reader_token (by omega) hI ) ?_
  rintro _ _ ⟨z5, rfl, g1, rfl⟩
  refine k_run 0 (pc' := 4) (l' := [(0, .inr (.inr 361)), (1, .inr (.inr 8)), (2, .inl a), (3, .inl b)]) (st' := [.inl z5]) rfl ?_
  refine k_run 1 (pc' := 5) (l' := [(0, .inr (.inr 361)), (1, .inr (.inr 8)), (2, .inl a), (3, .inl b)]) (st' := [.inl a, .inl z5]) rfl ?_
  refine h_ieq (off := 8) (t := 13) rfl rfl (by omega) (by omega) (fun c6 => ?_) (fun c6 => ?_)
  · refine k_run 0 (pc' := 13) (l' := [(0, .inr (.inr 361)), (1, .inr (.inr 8)), (2, .inl a), (3, .inl b)]) (st' := []) rfl ?_
    refine k_run 2 (pc' := 15) (l' := [(0, .inr (.inr 361)), (1, .inr (.inr 8)), (2, .inl a), (3, .inl b)]) (st' := [.inr (.inr 361), .inr (.inr 8)]) rfl ?_
    refine h_cv (i := 120) (j := 84) (b := 361) (M' := mt_84) (xs := []) (rest := [.inr (.inr 8)]) rfl rfl rfl rfl (zs_K (x := kx_361) rfl (by decide)) rfl (Nat.le_of_ble_eq_true rfl) (Nat.le_of_ble_eq_true rfl) (by omega) (f_Reader_name (by omega) hI ) ?_
    rintro _ _ ⟨z11, rfl, g7, rfl⟩
    refine k_run 0 (pc' := 18) (l' := [(0, .inr (.inr 361)), (1, .inr (.inr 8)), (2, .inl a), (3, .inl b)]) (st' := [.inr (.inl z11), .inr (.inr 8)]) rfl ?_
    have g12 : 0 ≤ (H.1 8 4) ∧ (H.1 8 4) ≤ 6 := kn (x := kx_8) hI rfl 4
    refine h_cv (i := 124) (j := 41) (b := 8) (M' := mt_41) (xs := [.inr (.inl z11)]) (rest := []) rfl rfl rfl rfl (zs_K (x := kx_8) rfl (by decide)) rfl (Nat.le_of_ble_eq_true rfl) (Nat.le_of_ble_eq_true rfl) (by omega) (k_Symbols_find_8 (by omega) hI ) ?_
    rintro _ _ ⟨z17, rfl, g13, rfl⟩
    refine k_run 0 (pc' := 21) (l' := [(0, .inr (.inr 361)), (1, .inr (.inr 8)), (2, .inl a), (3, .inl b)]) (st' := [.inl z17]) rfl ?_
    refine h_zlt (off := 9) (t := 30) rfl rfl (by omega) (fun c18 => ?_) (fun c18 => ?_)
    · refine k_run 0 (pc' := 30) (l' := [(0, .inr (.inr 361)), (1, .inr (.inr 8)), (2, .inl a), (3, .inl b)]) (st' := []) rfl ?_
      refine k_run 1 (pc' := 31) (l' := [(0, .inr (.inr 361)), (1, .inr (.inr 8)), (2, .inl a), (3, .inl b)]) (st' := [.inr (.inr 8)]) rfl ?_
      refine h_cv (i := 225) (j := 42) (b := 8) (M' := mt_42) (xs := []) (rest := []) rfl rfl rfl rfl (zs_K (x := kx_8) rfl (by decide)) rfl (Nat.le_of_ble_eq_true rfl) (Nat.le_of_ble_eq_true rfl) (by omega) (k_Symbols_isFull_8 (by omega) hI ) ?_
      rintro _ _ ⟨z23, rfl, g19, rfl⟩
      refine k_run 0 (pc' := 34) (l' := [(0, .inr (.inr 361)), (1, .inr (.inr 8)), (2, .inl a), (3, .inl b)]) (st' := [.inl z23]) rfl ?_
      refine h_zeq (off := 9) (t := 43) rfl rfl (by omega) (fun c24 => ?_) (fun c24 => ?_)
      · refine k_run 0 (pc' := 43) (l' := [(0, .inr (.inr 361)), (1, .inr (.inr 8)), (2, .inl a), (3, .inl b)]) (st' := []) rfl ?_
        refine k_run 2 (pc' := 45) (l' := [(0, .inr (.inr 361)), (1, .inr (.inr 8)), (2, .inl a), (3, .inl b)]) (st' := [.inr (.inr 361), .inr (.inr 8)]) rfl ?_
        refine h_cv (i := 120) (j := 84) (b := 361) (M' := mt_84) (xs := []) (rest := [.inr (.inr 8)]) rfl rfl rfl rfl (zs_K (x := kx_361) rfl (by decide)) rfl (Nat.le_of_ble_eq_true rfl) (Nat.le_of_ble_eq_true rfl) (by omega) (f_Reader_name (by omega) hI ) ?_
        rintro _ _ ⟨z29, rfl, g25, rfl⟩
        refine k_run 0 (pc' := 48) (l' := [(0, .inr (.inr 361)), (1, .inr (.inr 8)), (2, .inl a), (3, .inl b)]) (st' := [.inr (.inl z29), .inr (.inr 8)]) rfl ?_
        refine k_run 1 (pc' := 49) (l' := [(0, .inr (.inr 361)), (1, .inr (.inr 8)), (2, .inl a), (3, .inl b)]) (st' := [.inl b, .inr (.inl z29), .inr (.inr 8)]) rfl ?_
        refine h_cv (i := 228) (j := 43) (b := 8) (M' := mt_43) (xs := [.inl b, .inr (.inl z29)]) (rest := []) rfl rfl rfl rfl (zs_K (x := kx_8) rfl (by decide)) rfl (Nat.le_of_ble_eq_true rfl) (Nat.le_of_ble_eq_true rfl) (by omega) (k_Symbols_add_8 (by omega) hI (by omega) (by omega)) ?_
        rintro _ H31 ⟨rfl, hI32, hq33⟩
        have hf34 : fq [(8, 4), (361, 3), (361, 4), (361, 5)] [9, 10, 11] false H H31 := fq_t (fq_rf _ _ _ _) hq33 rfl rfl rfl
        refine k_run 0 (pc' := 52) (l' := [(0, .inr (.inr 361)), (1, .inr (.inr 8)), (2, .inl a), (3, .inl b)]) (st' := []) rfl ?_
        refine k_run 3 (pc' := 57) (l' := [(0, .inr (.inr 361)), (1, .inr (.inr 8)), (2, .inl a), (3, .inl b)]) (st' := [.inl (H31.1 361 3), .inr (.inr 361)]) rfl ?_
        have g35 : -2147483648 ≤ (H31.1 361 3) ∧ (H31.1 361 3) ≤ 2147483647 := kn (x := kx_361) hI32 rfl 3
        have e36 : (H31.1 361 3) = (H.1 361 3) := (hq33.1 361 3 rfl (by decide) (by decide)).1
        refine k_run 2 (pc' := 59) (l' := [(0, .inr (.inr 361)), (1, .inr (.inr 8)), (2, .inl a), (3, .inl b)]) (st' := [.inl ((H31.1 361 3) + 1), .inr (.inr 361)]) rfl ?_
        refine k_putw (a := 361) (x := kx_361) rfl rfl rfl (by decide) (by decide) rfl rfl rfl rfl hI32 rfl (fun H37 hI38 hw39 => ?_)
        have hf41 : fq [(8, 4), (361, 3), (361, 4), (361, 5)] [9, 10, 11] false H H37 := fq_w hf34 hw39 (fpo (by decide) rfl)
        refine k_run 0 (pc' := 62) (l' := [(0, .inr (.inr 361)), (1, .inr (.inr 8)), (2, .inl a), (3, .inl b)]) (st' := []) rfl ?_
        refine k_run 1 (pc' := 63) (l' := [(0, .inr (.inr 361)), (1, .inr (.inr 8)), (2, .inl a), (3, .inl b)]) (st' := [.inl 1]) rfl ?_
        refine h_retz (x := 1) rfl rfl (by decide) ?_
        have g42 : -2147483648 ≤ (H37.1 361 4) ∧ (H37.1 361 4) ≤ 2147483647 := kn (x := kx_361) hI38 rfl 4
        have e43 : (H37.1 361 4) = (H31.1 361 4) := hw39.2 _ _ (fun q => absurd q.2 (by decide))
        have e44 : (H31.1 361 4) = (H.1 361 4) := (hq33.1 361 4 rfl (by decide) (by decide)).1
        exact ⟨_, rfl, (by omega), hI38, hf41⟩
      · refine k_run 0 (pc' := 37) (l' := [(0, .inr (.inr 361)), (1, .inr (.inr 8)), (2, .inl a), (3, .inl b)]) (st' := []) rfl ?_
        refine k_run 2 (pc' := 39) (l' := [(0, .inr (.inr 361)), (1, .inr (.inr 8)), (2, .inl a), (3, .inl b)]) (st' := [.inl 5, .inr (.inr 361)]) rfl ?_
        have g45 : -2147483648 ≤ (H.1 361 4) ∧ (H.1 361 4) ≤ 2147483647 := kn (x := kx_361) hI rfl 4
        refine h_cv (i := 128) (j := 86) (b := 361) (M' := mt_86) (xs := [.inl 5]) (rest := []) rfl rfl rfl rfl (zs_K (x := kx_361) rfl (by decide)) rfl (Nat.le_of_ble_eq_true rfl) (Nat.le_of_ble_eq_true rfl) (by omega) (f_Reader_fails (by omega) hI (by decide)) ?_
        rintro _ H47 ⟨z50, rfl, g46, hI48, hq49⟩
        have hf51 : fq [(8, 4), (361, 3), (361, 4), (361, 5)] [9, 10, 11] false H H47 := fq_t (fq_rf _ _ _ _) hq49 rfl rfl rfl
        refine k_run 0 (pc' := 42) (l' := [(0, .inr (.inr 361)), (1, .inr (.inr 8)), (2, .inl a), (3, .inl b)]) (st' := [.inl z50]) rfl ?_
        refine h_retz (x := z50) rfl rfl (by omega) ?_
        have g52 : -2147483648 ≤ (H47.1 361 4) ∧ (H47.1 361 4) ≤ 2147483647 := kn (x := kx_361) hI48 rfl 4
        exact ⟨_, rfl, (by omega), hI48, hf51⟩
    · refine k_run 0 (pc' := 24) (l' := [(0, .inr (.inr 361)), (1, .inr (.inr 8)), (2, .inl a), (3, .inl b)]) (st' := []) rfl ?_
      refine k_run 2 (pc' := 26) (l' := [(0, .inr (.inr 361)), (1, .inr (.inr 8)), (2, .inl a), (3, .inl b)]) (st' := [.inl 3, .inr (.inr 361)]) rfl ?_
      have g53 : -2147483648 ≤ (H.1 361 4) ∧ (H.1 361 4) ≤ 2147483647 := kn (x := kx_361) hI rfl 4
      refine h_cv (i := 128) (j := 86) (b := 361) (M' := mt_86) (xs := [.inl 3]) (rest := []) rfl rfl rfl rfl (zs_K (x := kx_361) rfl (by decide)) rfl (Nat.le_of_ble_eq_true rfl) (Nat.le_of_ble_eq_true rfl) (by omega) (f_Reader_fails (by omega) hI (by decide)) ?_
      rintro _ H55 ⟨z58, rfl, g54, hI56, hq57⟩
      have hf59 : fq [(8, 4), (361, 3), (361, 4), (361, 5)] [9, 10, 11] false H H55 := fq_t (fq_rf _ _ _ _) hq57 rfl rfl rfl
      refine k_run 0 (pc' := 29) (l' := [(0, .inr (.inr 361)), (1, .inr (.inr 8)), (2, .inl a), (3, .inl b)]) (st' := [.inl z58]) rfl ?_
      refine h_retz (x := z58) rfl rfl (by omega) ?_
      have g60 : -2147483648 ≤ (H55.1 361 4) ∧ (H55.1 361 4) ≤ 2147483647 := kn (x := kx_361) hI56 rfl 4
      exact ⟨_, rfl, (by omega), hI56, hf59⟩
  · refine k_run 0 (pc' := 8) (l' := [(0, .inr (.inr 361)), (1, .inr (.inr 8)), (2, .inl a), (3, .inl b)]) (st' := []) rfl ?_
    refine k_run 1 (pc' := 9) (l' := [(0, .inr (.inr 361)), (1, .inr (.inr 8)), (2, .inl a), (3, .inl b)]) (st' := [.inr (.inr 361)]) rfl ?_
    have g61 : -2147483648 ≤ (H.1 361 4) ∧ (H.1 361 4) ≤ 2147483647 := kn (x := kx_361) hI rfl 4
    refine h_cv (i := 89) (j := 85) (b := 361) (M' := mt_85) (xs := []) (rest := []) rfl rfl rfl rfl (zs_K (x := kx_361) rfl (by decide)) rfl (Nat.le_of_ble_eq_true rfl) (Nat.le_of_ble_eq_true rfl) (by omega) (f_Reader_misplaced (by omega) hI ) ?_
    rintro _ H63 ⟨z66, rfl, g62, hI64, hq65⟩
    have hf67 : fq [(8, 4), (361, 3), (361, 4), (361, 5)] [9, 10, 11] false H H63 := fq_t (fq_rf _ _ _ _) hq65 rfl rfl rfl
    refine k_run 0 (pc' := 12) (l' := [(0, .inr (.inr 361)), (1, .inr (.inr 8)), (2, .inl a), (3, .inl b)]) (st' := [.inl z66]) rfl ?_
    refine h_retz (x := z66) rfl rfl (by omega) ?_
    have g68 : -2147483648 ≤ (H63.1 361 4) ∧ (H63.1 361 4) ≤ 2147483647 := kn (x := kx_361) hI64 rfl 4
    exact ⟨_, rfl, (by omega), hI64, hf67⟩

/-! Reader.tellName -/
set_option maxRecDepth 100000 in
theorem f_Reader_tellName_13 {d : Nat} (hd : 3 ≤ d) {H : hp} (hI : Inv H) {a : Int} {b : Int} (ha : -2147483648 ≤ a ∧ a ≤ 2147483647) (hb : -2147483648 ≤ b ∧ b ≤ 2147483647) (hp0 : -2 ≤ b ∧ b ≤ 100) : hG (zs zK) d mt_78 0 (zargs 0 [.inr (.inr 361), .inr (.inr 13), .inl a, .inl b]) [] H (fun r9 H9 => ∃ z : Int, r9 = some (.inl z) ∧ ((0 ≤ z ∧ z ≤ 1) ∧ ((z = 0 ∨ H9.1 361 4 = H.1 361 4))) ∧ Inv H9 ∧ fq [(13, 4), (361, 3), (361, 4), (361, 5)] [14, 15, 16] false H H9) := by
  refine k_run 0 (pc' := 0) (l' := [(0, .inr (.inr 361)), (1, .inr (.inr 13)), (2, .inl a), (3, .inl b)]) (st' := []) rfl ?_
  refine k_run 1 (pc' := 1) (l' := [(0, .inr (.inr 361)), (1, .inr (.inr 13)), (2, .inl a), (3, .inl b)]) (st' := [.inr (.inr 361)]) rfl ?_
  refine h_cv (i := 72) (j := 83) (b := 361) (M' := mt_83) (xs := []) (rest := []) rfl rfl rfl rfl (zs_K (x := kx_361) rfl (by decide)) rfl (Nat.le_of_ble_eq_true rfl) (Nat.le_of_ble_eq_true rfl) (by omega) (f_Reader_token (by omega) hI ) ?_
  rintro _ _ ⟨z5, rfl, g1, rfl⟩
  refine k_run 0 (pc' := 4) (l' := [(0, .inr (.inr 361)), (1, .inr (.inr 13)), (2, .inl a), (3, .inl b)]) (st' := [.inl z5]) rfl ?_
  refine k_run 1 (pc' := 5) (l' := [(0, .inr (.inr 361)), (1, .inr (.inr 13)), (2, .inl a), (3, .inl b)]) (st' := [.inl a, .inl z5]) rfl ?_
  refine h_ieq (off := 8) (t := 13) rfl rfl (by omega) (by omega) (fun c6 => ?_) (fun c6 => ?_)
  · refine k_run 0 (pc' := 13) (l' := [(0, .inr (.inr 361)), (1, .inr (.inr 13)), (2, .inl a), (3, .inl b)]) (st' := []) rfl ?_
    refine k_run 2 (pc' := 15) (l' := [(0, .inr (.inr 361)), (1, .inr (.inr 13)), (2, .inl a), (3, .inl b)]) (st' := [.inr (.inr 361), .inr (.inr 13)]) rfl ?_
    refine h_cv (i := 120) (j := 84) (b := 361) (M' := mt_84) (xs := []) (rest := [.inr (.inr 13)]) rfl rfl rfl rfl (zs_K (x := kx_361) rfl (by decide)) rfl (Nat.le_of_ble_eq_true rfl) (Nat.le_of_ble_eq_true rfl) (by omega) (f_Reader_name (by omega) hI ) ?_
    rintro _ _ ⟨z11, rfl, g7, rfl⟩
    refine k_run 0 (pc' := 18) (l' := [(0, .inr (.inr 361)), (1, .inr (.inr 13)), (2, .inl a), (3, .inl b)]) (st' := [.inr (.inl z11), .inr (.inr 13)]) rfl ?_
    have g12 : 0 ≤ (H.1 13 4) ∧ (H.1 13 4) ≤ 16 := kn (x := kx_13) hI rfl 4
    refine h_cv (i := 124) (j := 41) (b := 13) (M' := mt_41) (xs := [.inr (.inl z11)]) (rest := []) rfl rfl rfl rfl (zs_K (x := kx_13) rfl (by decide)) rfl (Nat.le_of_ble_eq_true rfl) (Nat.le_of_ble_eq_true rfl) (by omega) (k_Symbols_find_13 (by omega) hI ) ?_
    rintro _ _ ⟨z17, rfl, g13, rfl⟩
    refine k_run 0 (pc' := 21) (l' := [(0, .inr (.inr 361)), (1, .inr (.inr 13)), (2, .inl a), (3, .inl b)]) (st' := [.inl z17]) rfl ?_
    refine h_zlt (off := 9) (t := 30) rfl rfl (by omega) (fun c18 => ?_) (fun c18 => ?_)
    · refine k_run 0 (pc' := 30) (l' := [(0, .inr (.inr 361)), (1, .inr (.inr 13)), (2, .inl a), (3, .inl b)]) (st' := []) rfl ?_
      refine k_run 1 (pc' := 31) (l' := [(0, .inr (.inr 361)), (1, .inr (.inr 13)), (2, .inl a), (3, .inl b)]) (st' := [.inr (.inr 13)]) rfl ?_
      refine h_cv (i := 225) (j := 42) (b := 13) (M' := mt_42) (xs := []) (rest := []) rfl rfl rfl rfl (zs_K (x := kx_13) rfl (by decide)) rfl (Nat.le_of_ble_eq_true rfl) (Nat.le_of_ble_eq_true rfl) (by omega) (k_Symbols_isFull_13 (by omega) hI ) ?_
      rintro _ _ ⟨z23, rfl, g19, rfl⟩
      refine k_run 0 (pc' := 34) (l' := [(0, .inr (.inr 361)), (1, .inr (.inr 13)), (2, .inl a), (3, .inl b)]) (st' := [.inl z23]) rfl ?_
      refine h_zeq (off := 9) (t := 43) rfl rfl (by omega) (fun c24 => ?_) (fun c24 => ?_)
      · refine k_run 0 (pc' := 43) (l' := [(0, .inr (.inr 361)), (1, .inr (.inr 13)), (2, .inl a), (3, .inl b)]) (st' := []) rfl ?_
        refine k_run 2 (pc' := 45) (l' := [(0, .inr (.inr 361)), (1, .inr (.inr 13)), (2, .inl a), (3, .inl b)]) (st' := [.inr (.inr 361), .inr (.inr 13)]) rfl ?_
        refine h_cv (i := 120) (j := 84) (b := 361) (M' := mt_84) (xs := []) (rest := [.inr (.inr 13)]) rfl rfl rfl rfl (zs_K (x := kx_361) rfl (by decide)) rfl (Nat.le_of_ble_eq_true rfl) (Nat.le_of_ble_eq_true rfl) (by omega) (f_Reader_name (by omega) hI ) ?_
        rintro _ _ ⟨z29, rfl, g25, rfl⟩
        refine k_run 0 (pc' := 48) (l' := [(0, .inr (.inr 361)), (1, .inr (.inr 13)), (2, .inl a), (3, .inl b)]) (st' := [.inr (.inl z29), .inr (.inr 13)]) rfl ?_
        refine k_run 1 (pc' := 49) (l' := [(0, .inr (.inr 361)), (1, .inr (.inr 13)), (2, .inl a), (3, .inl b)]) (st' := [.inl b, .inr (.inl z29), .inr (.inr 13)]) rfl ?_
        refine h_cv (i := 228) (j := 43) (b := 13) (M' := mt_43) (xs := [.inl b, .inr (.inl z29)]) (rest := []) rfl rfl rfl rfl (zs_K (x := kx_13) rfl (by decide)) rfl (Nat.le_of_ble_eq_true rfl) (Nat.le_of_ble_eq_true rfl) (by omega) (k_Symbols_add_13 (by omega) hI (by omega) (by omega)) ?_
        rintro _ H31 ⟨rfl, hI32, hq33⟩
        have hf34 : fq [(13, 4), (361, 3), (361, 4), (361, 5)] [14, 15, 16] false H H31 := fq_t (fq_rf _ _ _ _) hq33 rfl rfl rfl
        refine k_run 0 (pc' := 52) (l' := [(0, .inr (.inr 361)), (1, .inr (.inr 13)), (2, .inl a), (3, .inl b)]) (st' := []) rfl ?_
        refine k_run 3 (pc' := 57) (l' := [(0, .inr (.inr 361)), (1, .inr (.inr 13)), (2, .inl a), (3, .inl b)]) (st' := [.inl (H31.1 361 3), .inr (.inr 361)]) rfl ?_
        have g35 : -2147483648 ≤ (H31.1 361 3) ∧ (H31.1 361 3) ≤ 2147483647 := kn (x := kx_361) hI32 rfl 3
        have e36 : (H31.1 361 3) = (H.1 361 3) := (hq33.1 361 3 rfl (by decide) (by decide)).1
        refine k_run 2 (pc' := 59) (l' := [(0, .inr (.inr 361)), (1, .inr (.inr 13)), (2, .inl a), (3, .inl b)]) (st' := [.inl ((H31.1 361 3) + 1), .inr (.inr 361)]) rfl ?_
        refine k_putw (a := 361) (x := kx_361) rfl rfl rfl (by decide) (by decide) rfl rfl rfl rfl hI32 rfl (fun H37 hI38 hw39 => ?_)
        have hf41 : fq [(13, 4), (361, 3), (361, 4), (361, 5)] [14, 15, 16] false H H37 := fq_w hf34 hw39 (fpo (by decide) rfl)
        refine k_run 0 (pc' := 62) (l' := [(0, .inr (.inr 361)), (1, .inr (.inr 13)), (2, .inl a), (3, .inl b)]) (st' := []) rfl ?_
        refine k_run 1 (pc' := 63) (l' := [(0, .inr (.inr 361)), (1, .inr (.inr 13)), (2, .inl a), (3, .inl b)]) (st' := [.inl 1]) rfl ?_
        refine h_retz (x := 1) rfl rfl (by decide) ?_
        have g42 : -2147483648 ≤ (H37.1 361 4) ∧ (H37.1 361 4) ≤ 2147483647 := kn (x := kx_361) hI38 rfl 4
        have e43 : (H37.1 361 4) = (H31.1 361 4) := hw39.2 _ _ (fun q => absurd q.2 (by decide))
        have e44 : (H31.1 361 4) = (H.1 361 4) := (hq33.1 361 4 rfl (by decide) (by decide)).1
        exact ⟨_, rfl, (by omega), hI38, hf41⟩
      · refine k_run 0 (pc' := 37) (l' := [(0, .inr (.inr 361)), (1, .inr (.inr 13)), (2, .inl a), (3, .inl b)]) (st' := []) rfl ?_
        refine k_run 2 (pc' := 39) (l' := [(0, .inr (.inr 361)), (1, .inr (.inr 13)), (2, .inl a), (3, .inl b)]) (st' := [.inl 5, .inr (.inr 361)]) rfl ?_
        have g45 : -2147483648 ≤ (H.1 361 4) ∧ (H.1 361 4) ≤ 2147483647 := kn (x := kx_361) hI rfl 4
        refine h_cv (i := 128) (j := 86) (b := 361) (M' := mt_86) (xs := [.inl 5]) (rest := []) rfl rfl rfl rfl (zs_K (x := kx_361) rfl (by decide)) rfl (Nat.le_of_ble_eq_true rfl) (Nat.le_of_ble_eq_true rfl) (by omega) (f_Reader_fails (by omega) hI (by decide)) ?_
        rintro _ H47 ⟨z50, rfl, g46, hI48, hq49⟩
        have hf51 : fq [(13, 4), (361, 3), (361, 4), (361, 5)] [14, 15, 16] false H H47 := fq_t (fq_rf _ _ _ _) hq49 rfl rfl rfl
        refine k_run 0 (pc' := 42) (l' := [(0, .inr (.inr 361)), (1, .inr (.inr 13)), (2, .inl a), (3, .inl b)]) (st' := [.inl z50]) rfl ?_
        refine h_retz (x := z50) rfl rfl (by omega) ?_
        have g52 : -2147483648 ≤ (H47.1 361 4) ∧ (H47.1 361 4) ≤ 2147483647 := kn (x := kx_361) hI48 rfl 4
        exact ⟨_, rfl, (by omega), hI48, hf51⟩
    · refine k_run 0 (pc' := 24) (l' := [(0, .inr (.inr 361)), (1, .inr (.inr 13)), (2, .inl a), (3, .inl b)]) (st' := []) rfl ?_
      refine k_run 2 (pc' := 26) (l' := [(0, .inr (.inr 361)), (1, .inr (.inr 13)), (2, .inl a), (3, .inl b)]) (st' := [.inl 3, .inr (.inr 361)]) rfl ?_
      have g53 : -2147483648 ≤ (H.1 361 4) ∧ (H.1 361 4) ≤ 2147483647 := kn (x := kx_361) hI rfl 4
      refine h_cv (i := 128) (j := 86) (b := 361) (M' := mt_86) (xs := [.inl 3]) (rest := []) rfl rfl rfl rfl (zs_K (x := kx_361) rfl (by decide)) rfl (Nat.le_of_ble_eq_true rfl) (Nat.le_of_ble_eq_true rfl) (by omega) (f_Reader_fails (by omega) hI (by decide)) ?_
      rintro _ H55 ⟨z58, rfl, g54, hI56, hq57⟩
      have hf59 : fq [(13, 4), (361, 3), (361, 4), (361, 5)] [14, 15, 16] false H H55 := fq_t (fq_rf _ _ _ _) hq57 rfl rfl rfl
      refine k_run 0 (pc' := 29) (l' := [(0, .inr (.inr 361)), (1, .inr (.inr 13)), (2, .inl a), (3, .inl b)]) (st' := [.inl z58]) rfl ?_
      refine h_retz (x := z58) rfl rfl (by omega) ?_
      have g60 : -2147483648 ≤ (H55.1 361 4) ∧ (H55.1 361 4) ≤ 2147483647 := kn (x := kx_361) hI56 rfl 4
      exact ⟨_, rfl, (by omega), hI56, hf59⟩
  · refine k_run 0 (pc' := 8) (l' := [(0, .inr (.inr 361)), (1, .inr (.inr 13)), (2, .inl a), (3, .inl b)]) (st' := []) rfl ?_
    refine k_run 1 (pc' := 9) (l' := [(0, .inr (.inr 361)), (1, .inr (.inr 13)), (2, .inl a), (3, .inl b)]) (st' := [.inr (.inr 361)]) rfl ?_
    have g61 : -2147483648 ≤ (H.1 361 4) ∧ (H.1 361 4) ≤ 2147483647 := kn (x := kx_361) hI rfl 4
    refine h_cv (i := 89) (j := 85) (b := 361) (M' := mt_85) (xs := []) (rest := []) rfl rfl rfl rfl (zs_K (x := kx_361) rfl (by decide)) rfl (Nat.le_of_ble_eq_true rfl) (Nat.le_of_ble_eq_true rfl) (by omega) (f_Reader_misplaced (by omega) hI ) ?_
    rintro _ H63 ⟨z66, rfl, g62, hI64, hq65⟩
    have hf67 : fq [(13, 4), (361, 3), (361, 4), (361, 5)] [14, 15, 16] false H H63 := fq_t (fq_rf _ _ _ _) hq65 rfl rfl rfl
    refine k_run 0 (pc' := 12) (l' := [(0, .inr (.inr 361)), (1, .inr (.inr 13)), (2, .inl a), (3, .inl b)]) (st' := [.inl z66]) rfl ?_
    refine h_retz (x := z66) rfl rfl (by omega) ?_
    have g68 : -2147483648 ≤ (H63.1 361 4) ∧ (H63.1 361 4) ≤ 2147483647 := kn (x := kx_361) hI64 rfl 4
    exact ⟨_, rfl, (by omega), hI64, hf67⟩

/-! Reader.tellName -/
set_option maxRecDepth 100000 in
theorem f_Reader_tellName_18 {d : Nat} (hd : 3 ≤ d) {H : hp} (hI : Inv H) {a : Int} {b : Int} (ha : -2147483648 ≤ a ∧ a ≤ 2147483647) (hb : -2147483648 ≤ b ∧ b ≤ 2147483647) (hp0 : -2 ≤ b ∧ b ≤ 100) : hG (zs zK) d mt_78 0 (zargs 0 [.inr (.inr 361), .inr (.inr 18), .inl a, .inl b]) [] H (fun r9 H9 => ∃ z : Int, r9 = some (.inl z) ∧ ((0 ≤ z ∧ z ≤ 1) ∧ ((z = 0 ∨ H9.1 361 4 = H.1 361 4))) ∧ Inv H9 ∧ fq [(18, 4), (361, 3), (361, 4), (361, 5)] [19, 20, 21] false H H9) := by
  refine k_run 0 (pc' := 0) (l' := [(0, .inr (.inr 361)), (1, .inr (.inr 18)), (2, .inl a), (3, .inl b)]) (st' := []) rfl ?_
  refine k_run 1 (pc' := 1) (l' := [(0, .inr (.inr 361)), (1, .inr (.inr 18)), (2, .inl a), (3, .inl b)]) (st' := [.inr (.inr 361)]) rfl ?_
  refine h_cv (i := 72) (j := 83) (b := 361) (M' := mt_83) (xs := []) (rest := []) rfl rfl rfl rfl (zs_K (x := kx_361) rfl (by decide)) rfl (Nat.le_of_ble_eq_true rfl) (Nat.le_of_ble_eq_true rfl) (by omega) (f_Reader_token (by omega) hI ) ?_
  rintro _ _ ⟨z5, rfl, g1, rfl⟩
  refine k_run 0 (pc' := 4) (l' := [(0, .inr (.inr 361)), (1, .inr (.inr 18)), (2, .inl a), (3, .inl b)]) (st' := [.inl z5]) rfl ?_
  refine k_run 1 (pc' := 5) (l' := [(0, .inr (.inr 361)), (1, .inr (.inr 18)), (2, .inl a), (3, .inl b)]) (st' := [.inl a, .inl z5]) rfl ?_
  refine h_ieq (off := 8) (t := 13) rfl rfl (by omega) (by omega) (fun c6 => ?_) (fun c6 => ?_)
  · refine k_run 0 (pc' := 13) (l' := [(0, .inr (.inr 361)), (1, .inr (.inr 18)), (2, .inl a), (3, .inl b)]) (st' := []) rfl ?_
    refine k_run 2 (pc' := 15) (l' := [(0, .inr (.inr 361)), (1, .inr (.inr 18)), (2, .inl a), (3, .inl b)]) (st' := [.inr (.inr 361), .inr (.inr 18)]) rfl ?_
    refine h_cv (i := 120) (j := 84) (b := 361) (M' := mt_84) (xs := []) (rest := [.inr (.inr 18)]) rfl rfl rfl rfl (zs_K (x := kx_361) rfl (by decide)) rfl (Nat.le_of_ble_eq_true rfl) (Nat.le_of_ble_eq_true rfl) (by omega) (f_Reader_name (by omega) hI ) ?_
    rintro _ _ ⟨z11, rfl, g7, rfl⟩
    refine k_run 0 (pc' := 18) (l' := [(0, .inr (.inr 361)), (1, .inr (.inr 18)), (2, .inl a), (3, .inl b)]) (st' := [.inr (.inl z11), .inr (.inr 18)]) rfl ?_
    have g12 : 0 ≤ (H.1 18 4) ∧ (H.1 18 4) ≤ 16 := kn (x := kx_18) hI rfl 4
    refine h_cv (i := 124) (j := 41) (b := 18) (M' := mt_41) (xs := [.inr (.inl z11)]) (rest := []) rfl rfl rfl rfl (zs_K (x := kx_18) rfl (by decide)) rfl (Nat.le_of_ble_eq_true rfl) (Nat.le_of_ble_eq_true rfl) (by omega) (k_Symbols_find_18 (by omega) hI ) ?_
    rintro _ _ ⟨z17, rfl, g13, rfl⟩
    refine k_run 0 (pc' := 21) (l' := [(0, .inr (.inr 361)), (1, .inr (.inr 18)), (2, .inl a), (3, .inl b)]) (st' := [.inl z17]) rfl ?_
    refine h_zlt (off := 9) (t := 30) rfl rfl (by omega) (fun c18 => ?_) (fun c18 => ?_)
    · refine k_run 0 (pc' := 30) (l' := [(0, .inr (.inr 361)), (1, .inr (.inr 18)), (2, .inl a), (3, .inl b)]) (st' := []) rfl ?_
      refine k_run 1 (pc' := 31) (l' := [(0, .inr (.inr 361)), (1, .inr (.inr 18)), (2, .inl a), (3, .inl b)]) (st' := [.inr (.inr 18)]) rfl ?_
      refine h_cv (i := 225) (j := 42) (b := 18) (M' := mt_42) (xs := []) (rest := []) rfl rfl rfl rfl (zs_K (x := kx_18) rfl (by decide)) rfl (Nat.le_of_ble_eq_true rfl) (Nat.le_of_ble_eq_true rfl) (by omega) (k_Symbols_isFull_18 (by omega) hI ) ?_
      rintro _ _ ⟨z23, rfl, g19, rfl⟩
      refine k_run 0 (pc' := 34) (l' := [(0, .inr (.inr 361)), (1, .inr (.inr 18)), (2, .inl a), (3, .inl b)]) (st' := [.inl z23]) rfl ?_
      refine h_zeq (off := 9) (t := 43) rfl rfl (by omega) (fun c24 => ?_) (fun c24 => ?_)
      · refine k_run 0 (pc' := 43) (l' := [(0, .inr (.inr 361)), (1, .inr (.inr 18)), (2, .inl a), (3, .inl b)]) (st' := []) rfl ?_
        refine k_run 2 (pc' := 45) (l' := [(0, .inr (.inr 361)), (1, .inr (.inr 18)), (2, .inl a), (3, .inl b)]) (st' := [.inr (.inr 361), .inr (.inr 18)]) rfl ?_
        refine h_cv (i := 120) (j := 84) (b := 361) (M' := mt_84) (xs := []) (rest := [.inr (.inr 18)]) rfl rfl rfl rfl (zs_K (x := kx_361) rfl (by decide)) rfl (Nat.le_of_ble_eq_true rfl) (Nat.le_of_ble_eq_true rfl) (by omega) (f_Reader_name (by omega) hI ) ?_
        rintro _ _ ⟨z29, rfl, g25, rfl⟩
        refine k_run 0 (pc' := 48) (l' := [(0, .inr (.inr 361)), (1, .inr (.inr 18)), (2, .inl a), (3, .inl b)]) (st' := [.inr (.inl z29), .inr (.inr 18)]) rfl ?_
        refine k_run 1 (pc' := 49) (l' := [(0, .inr (.inr 361)), (1, .inr (.inr 18)), (2, .inl a), (3, .inl b)]) (st' := [.inl b, .inr (.inl z29), .inr (.inr 18)]) rfl ?_
        refine h_cv (i := 228) (j := 43) (b := 18) (M' := mt_43) (xs := [.inl b, .inr (.inl z29)]) (rest := []) rfl rfl rfl rfl (zs_K (x := kx_18) rfl (by decide)) rfl (Nat.le_of_ble_eq_true rfl) (Nat.le_of_ble_eq_true rfl) (by omega) (k_Symbols_add_18 (by omega) hI (by omega) (by omega)) ?_
        rintro _ H31 ⟨rfl, hI32, hq33⟩
        have hf34 : fq [(18, 4), (361, 3), (361, 4), (361, 5)] [19, 20, 21] false H H31 := fq_t (fq_rf _ _ _ _) hq33 rfl rfl rfl
        refine k_run 0 (pc' := 52) (l' := [(0, .inr (.inr 361)), (1, .inr (.inr 18)), (2, .inl a), (3, .inl b)]) (st' := []) rfl ?_
        refine k_run 3 (pc' := 57) (l' := [(0, .inr (.inr 361)), (1, .inr (.inr 18)), (2, .inl a), (3, .inl b)]) (st' := [.inl (H31.1 361 3), .inr (.inr 361)]) rfl ?_
        have g35 : -2147483648 ≤ (H31.1 361 3) ∧ (H31.1 361 3) ≤ 2147483647 := kn (x := kx_361) hI32 rfl 3
        have e36 : (H31.1 361 3) = (H.1 361 3) := (hq33.1 361 3 rfl (by decide) (by decide)).1
        refine k_run 2 (pc' := 59) (l' := [(0, .inr (.inr 361)), (1, .inr (.inr 18)), (2, .inl a), (3, .inl b)]) (st' := [.inl ((H31.1 361 3) + 1), .inr (.inr 361)]) rfl ?_
        refine k_putw (a := 361) (x := kx_361) rfl rfl rfl (by decide) (by decide) rfl rfl rfl rfl hI32 rfl (fun H37 hI38 hw39 => ?_)
        have hf41 : fq [(18, 4), (361, 3), (361, 4), (361, 5)] [19, 20, 21] false H H37 := fq_w hf34 hw39 (fpo (by decide) rfl)
        refine k_run 0 (pc' := 62) (l' := [(0, .inr (.inr 361)), (1, .inr (.inr 18)), (2, .inl a), (3, .inl b)]) (st' := []) rfl ?_
        refine k_run 1 (pc' := 63) (l' := [(0, .inr (.inr 361)), (1, .inr (.inr 18)), (2, .inl a), (3, .inl b)]) (st' := [.inl 1]) rfl ?_
        refine h_retz (x := 1) rfl rfl (by decide) ?_
        have g42 : -2147483648 ≤ (H37.1 361 4) ∧ (H37.1 361 4) ≤ 2147483647 := kn (x := kx_361) hI38 rfl 4
        have e43 : (H37.1 361 4) = (H31.1 361 4) := hw39.2 _ _ (fun q => absurd q.2 (by decide))
        have e44 : (H31.1 361 4) = (H.1 361 4) := (hq33.1 361 4 rfl (by decide) (by decide)).1
        exact ⟨_, rfl, (by omega), hI38, hf41⟩
      · refine k_run 0 (pc' := 37) (l' := [(0, .inr (.inr 361)), (1, .inr (.inr 18)), (2, .inl a), (3, .inl b)]) (st' := []) rfl ?_
        refine k_run 2 (pc' := 39) (l' := [(0, .inr (.inr 361)), (1, .inr (.inr 18)), (2, .inl a), (3, .inl b)]) (st' := [.inl 5, .inr (.inr 361)]) rfl ?_
        have g45 : -2147483648 ≤ (H.1 361 4) ∧ (H.1 361 4) ≤ 2147483647 := kn (x := kx_361) hI rfl 4
        refine h_cv (i := 128) (j := 86) (b := 361) (M' := mt_86) (xs := [.inl 5]) (rest := []) rfl rfl rfl rfl (zs_K (x := kx_361) rfl (by decide)) rfl (Nat.le_of_ble_eq_true rfl) (Nat.le_of_ble_eq_true rfl) (by omega) (f_Reader_fails (by omega) hI (by decide)) ?_
        rintro _ H47 ⟨z50, rfl, g46, hI48, hq49⟩
        have hf51 : fq [(18, 4), (361, 3), (361, 4), (361, 5)] [19, 20, 21] false H H47 := fq_t (fq_rf _ _ _ _) hq49 rfl rfl rfl
        refine k_run 0 (pc' := 42) (l' := [(0, .inr (.inr 361)), (1, .inr (.inr 18)), (2, .inl a), (3, .inl b)]) (st' := [.inl z50]) rfl ?_
        refine h_retz (x := z50) rfl rfl (by omega) ?_
        have g52 : -2147483648 ≤ (H47.1 361 4) ∧ (H47.1 361 4) ≤ 2147483647 := kn (x := kx_361) hI48 rfl 4
        exact ⟨_, rfl, (by omega), hI48, hf51⟩
    · refine k_run 0 (pc' := 24) (l' := [(0, .inr (.inr 361)), (1, .inr (.inr 18)), (2, .inl a), (3, .inl b)]) (st' := []) rfl ?_
      refine k_run 2 (pc' := 26) (l' := [(0, .inr (.inr 361)), (1, .inr (.inr 18)), (2, .inl a), (3, .inl b)]) (st' := [.inl 3, .inr (.inr 361)]) rfl ?_
      have g53 : -2147483648 ≤ (H.1 361 4) ∧ (H.1 361 4) ≤ 2147483647 := kn (x := kx_361) hI rfl 4
      refine h_cv (i := 128) (j := 86) (b := 361) (M' := mt_86) (xs := [.inl 3]) (rest := []) rfl rfl rfl rfl (zs_K (x := kx_361) rfl (by decide)) rfl (Nat.le_of_ble_eq_true rfl) (Nat.le_of_ble_eq_true rfl) (by omega) (f_Reader_fails (by omega) hI (by decide)) ?_
      rintro _ H55 ⟨z58, rfl, g54, hI56, hq57⟩
      have hf59 : fq [(18, 4), (361, 3), (361, 4), (361, 5)] [19, 20, 21] false H H55 := fq_t (fq_rf _ _ _ _) hq57 rfl rfl rfl
      refine k_run 0 (pc' := 29) (l' := [(0, .inr (.inr 361)), (1, .inr (.inr 18)), (2, .inl a), (3, .inl b)]) (st' := [.inl z58]) rfl ?_
      refine h_retz (x := z58) rfl rfl (by omega) ?_
      have g60 : -2147483648 ≤ (H55.1 361 4) ∧ (H55.1 361 4) ≤ 2147483647 := kn (x := kx_361) hI56 rfl 4
      exact ⟨_, rfl, (by omega), hI56, hf59⟩
  · refine k_run 0 (pc' := 8) (l' := [(0, .inr (.inr 361)), (1, .inr (.inr 18)), (2, .inl a), (3, .inl b)]) (st' := []) rfl ?_
    refine k_run 1 (pc' := 9) (l' := [(0, .inr (.inr 361)), (1, .inr (.inr 18)), (2, .inl a), (3, .inl b)]) (st' := [.inr (.inr 361)]) rfl ?_
    have g61 : -2147483648 ≤ (H.1 361 4) ∧ (H.1 361 4) ≤ 2147483647 := kn (x := kx_361) hI rfl 4
    refine h_cv (i := 89) (j := 85) (b := 361) (M' := mt_85) (xs := []) (rest := []) rfl rfl rfl rfl (zs_K (x := kx_361) rfl (by decide)) rfl (Nat.le_of_ble_eq_true rfl) (Nat.le_of_ble_eq_true rfl) (by omega) (f_Reader_misplaced (by omega) hI ) ?_
    rintro _ H63 ⟨z66, rfl, g62, hI64, hq65⟩
    have hf67 : fq [(18, 4), (361, 3), (361, 4), (361, 5)] [19, 20, 21] false H H63 := fq_t (fq_rf _ _ _ _) hq65 rfl rfl rfl
    refine k_run 0 (pc' := 12) (l' := [(0, .inr (.inr 361)), (1, .inr (.inr 18)), (2, .inl a), (3, .inl b)]) (st' := [.inl z66]) rfl ?_
    refine h_retz (x := z66) rfl rfl (by omega) ?_
    have g68 : -2147483648 ≤ (H63.1 361 4) ∧ (H63.1 361 4) ≤ 2147483647 := kn (x := kx_361) hI64 rfl 4
    exact ⟨_, rfl, (by omega), hI64, hf67⟩

/-! Reader.addName -/
set_option maxRecDepth 100000 in
theorem f_Reader_addName {d : Nat} (hd : 2 ≤ d) {H : hp} (hI : Inv H) {a : Int} (ha : -2147483648 ≤ a ∧ a ≤ 2147483647) : hG (zs zK) d mt_77 0 (zargs 0 [.inr (.inr 361), .inl a]) [] H (fun r9 H9 => ∃ z : Int, r9 = some (.inl z) ∧ ((0 ≤ z ∧ z ≤ 1) ∧ ((z = 0 ∨ H9.1 361 4 = H.1 361 4))) ∧ Inv H9 ∧ fq [(361, 3), (361, 4), (361, 5)] [] false H H9) := by
  refine k_run 0 (pc' := 0) (l' := [(0, .inr (.inr 361)), (1, .inl a)]) (st' := []) rfl ?_
  refine k_run 1 (pc' := 1) (l' := [(0, .inr (.inr 361)), (1, .inl a)]) (st' := [.inr (.inr 361)]) rfl ?_
  refine k_getr (a := 361) (x := kx_361) rfl rfl rfl (by decide) rfl rfl rfl hI (fun h1 => ?_)
  obtain ⟨t2, et4⟩ : ∃ t9, t9 = H.2 361 8 := ⟨_, rfl⟩
  rw [← et4] at h1 ⊢
  obtain ⟨n5, k3⟩ := (show ∃ n, isT t2 n from h1)
  have k3b := k3.2.2.2.2
  refine k_run 0 (pc' := 4) (l' := [(0, .inr (.inr 361)), (1, .inl a)]) (st' := [.inr (.inr t2)]) rfl ?_
  refine k_get (a := t2) (x := (kTo t2 n5)) (v := .inl (H.1 t2 1)) rfl rfl k3.1 (iT0 k3) rfl rfl rfl ?_
  have g6 : 0 ≤ (H.1 t2 1) ∧ (H.1 t2 1) ≤ n5 := kn hI k3.1 1
  refine k_run 0 (pc' := 7) (l' := [(0, .inr (.inr 361)), (1, .inl a)]) (st' := [.inl (H.1 t2 1)]) rfl ?_
  refine k_run 1 (pc' := 9) (l' := [(0, .inr (.inr 361)), (1, .inl a)]) (st' := [.inl 40, .inl (H.1 t2 1)]) rfl ?_
  refine h_ilt (off := 9) (t := 18) rfl rfl (by omega) (by decide) (fun c7 => ?_) (fun c7 => ?_)
  · refine k_run 0 (pc' := 18) (l' := [(0, .inr (.inr 361)), (1, .inl a)]) (st' := []) rfl ?_
    refine k_run 1 (pc' := 19) (l' := [(0, .inr (.inr 361)), (1, .inl a)]) (st' := [.inr (.inr 361)]) rfl ?_
    refine k_getr (a := 361) (x := kx_361) rfl rfl rfl (by decide) rfl rfl rfl hI (fun h8 => ?_)
    rw [← et4]
    refine k_run 0 (pc' := 22) (l' := [(0, .inr (.inr 361)), (1, .inl a)]) (st' := [.inr (.inr t2)]) rfl ?_
    refine k_run 1 (pc' := 23) (l' := [(0, .inr (.inr 361)), (1, .inl a)]) (st' := [.inl a, .inr (.inr t2)]) rfl ?_
    refine h_cv (i := 222) (j := 52) (b := t2) (M' := mt_52) (xs := [.inl a]) (rest := []) rfl rfl rfl rfl (by rw [zs_K k3.1 (iT0 k3)]; rfl) rfl (Nat.le_of_ble_eq_true rfl) (Nat.le_of_ble_eq_true rfl) (by omega) (k_Term_put (by omega) hI k3 (by omega)) ?_
    rintro _ H10 ⟨rfl, hI11, hq12⟩
    have hf13 : fq [(361, 3), (361, 4), (361, 5)] [] false H H10 := fq_t (fq_rf _ _ _ _) hq12 rfl rfl rfl
    refine k_run 0 (pc' := 26) (l' := [(0, .inr (.inr 361)), (1, .inl a)]) (st' := []) rfl ?_
    refine k_run 3 (pc' := 31) (l' := [(0, .inr (.inr 361)), (1, .inl a)]) (st' := [.inl (H10.1 361 3), .inr (.inr 361)]) rfl ?_
    have g14 : -2147483648 ≤ (H10.1 361 3) ∧ (H10.1 361 3) ≤ 2147483647 := kn (x := kx_361) hI11 rfl 3
    have e15 : (H10.1 361 3) = (H.1 361 3) := (hq12.1 361 3 rfl (by decide) (by decide)).1
    refine k_run 2 (pc' := 33) (l' := [(0, .inr (.inr 361)), (1, .inl a)]) (st' := [.inl ((H10.1 361 3) + 1), .inr (.inr 361)]) rfl ?_
    refine k_putw (a := 361) (x := kx_361) rfl rfl rfl (by decide) (by decide) rfl rfl rfl rfl hI11 rfl (fun H16 hI17 hw18 => ?_)
    have hf20 : fq [(361, 3), (361, 4), (361, 5)] [] false H H16 := fq_w hf13 hw18 (fpo (by decide) rfl)
    refine k_run 0 (pc' := 36) (l' := [(0, .inr (.inr 361)), (1, .inl a)]) (st' := []) rfl ?_
    refine k_run 1 (pc' := 37) (l' := [(0, .inr (.inr 361)), (1, .inl a)]) (st' := [.inl 1]) rfl ?_
    refine h_retz (x := 1) rfl rfl (by decide) ?_
    have g21 : -2147483648 ≤ (H16.1 361 4) ∧ (H16.1 361 4) ≤ 2147483647 := kn (x := kx_361) hI17 rfl 4
    have e22 : (H16.1 361 4) = (H10.1 361 4) := hw18.2 _ _ (fun q => absurd q.2 (by decide))
    have e23 : (H10.1 361 4) = (H.1 361 4) := (hq12.1 361 4 rfl (by decide) (by decide)).1
    exact ⟨_, rfl, (by omega), hI17, hf20⟩
  · refine k_run 0 (pc' := 12) (l' := [(0, .inr (.inr 361)), (1, .inl a)]) (st' := []) rfl ?_
    refine k_run 2 (pc' := 14) (l' := [(0, .inr (.inr 361)), (1, .inl a)]) (st' := [.inl 5, .inr (.inr 361)]) rfl ?_
    have g24 : -2147483648 ≤ (H.1 361 4) ∧ (H.1 361 4) ≤ 2147483647 := kn (x := kx_361) hI rfl 4
    refine h_cv (i := 128) (j := 86) (b := 361) (M' := mt_86) (xs := [.inl 5]) (rest := []) rfl rfl rfl rfl (zs_K (x := kx_361) rfl (by decide)) rfl (Nat.le_of_ble_eq_true rfl) (Nat.le_of_ble_eq_true rfl) (by omega) (f_Reader_fails (by omega) hI (by decide)) ?_
    rintro _ H26 ⟨z29, rfl, g25, hI27, hq28⟩
    have hf30 : fq [(361, 3), (361, 4), (361, 5)] [] false H H26 := fq_t (fq_rf _ _ _ _) hq28 rfl rfl rfl
    refine k_run 0 (pc' := 17) (l' := [(0, .inr (.inr 361)), (1, .inl a)]) (st' := [.inl z29]) rfl ?_
    refine h_retz (x := z29) rfl rfl (by omega) ?_
    have g31 : -2147483648 ≤ (H26.1 361 4) ∧ (H26.1 361 4) ≤ 2147483647 := kn (x := kx_361) hI27 rfl 4
    exact ⟨_, rfl, (by omega), hI27, hf30⟩

/-! Reader.tellVariable -/
set_option maxRecDepth 100000 in
theorem f_Reader_tellVariable {d : Nat} (hd : 2 ≤ d) {H : hp} (hI : Inv H) {a : Int} (ha : -2147483648 ≤ a ∧ a ≤ 2147483647) (hp0 : -2 ≤ a ∧ a ≤ 100) : hG (zs zK) d mt_76 0 (zargs 0 [.inr (.inr 361), .inl a]) [] H (fun r9 H9 => ∃ z : Int, r9 = some (.inl z) ∧ ((-2147483648 ≤ z ∧ z ≤ 2147483647) ∧ ((0 ≤ z ∧ z ≤ 40) ∧ H9.1 361 4 = H.1 361 4)) ∧ Inv H9 ∧ fq [(361, 9)] [362] true H H9) := by
  refine k_run 0 (pc' := 0) (l' := [(0, .inr (.inr 361)), (1, .inl a)]) (st' := []) rfl ?_
  refine k_run 2 (pc' := 4) (l' := [(0, .inr (.inr 361)), (1, .inl a)]) (st' := [.inl (H.1 361 9)]) rfl ?_
  have g1 : 0 ≤ (H.1 361 9) ∧ (H.1 361 9) ≤ 40 := kn (x := kx_361) hI rfl 9
  refine k_run 4 (pc' := 10) (l' := [(0, .inr (.inr 361)), (1, .inl a), (2, .inl (H.1 361 9))]) (st' := [.inr (.inr 362), .inl (H.1 361 9)]) rfl ?_
  refine k_alen (c := 362) (x := kx_362) rfl rfl (by decide) rfl ?_
  refine k_run 0 (pc' := 11) (l' := [(0, .inr (.inr 361)), (1, .inl a), (2, .inl (H.1 361 9))]) (st' := [.inl 40, .inl (H.1 361 9)]) rfl ?_
  refine h_ige (off := 33) (t := 44) rfl rfl (by omega) (by decide) (fun c2 => ?_) (fun c2 => ?_)
  · refine k_run 0 (pc' := 44) (l' := [(0, .inr (.inr 361)), (1, .inl a), (2, .inl (H.1 361 9))]) (st' := []) rfl ?_
    refine k_run 1 (pc' := 45) (l' := [(0, .inr (.inr 361)), (1, .inl a), (2, .inl (H.1 361 9))]) (st' := [.inl (H.1 361 9)]) rfl ?_
    refine h_reti (x := (H.1 361 9)) rfl rfl ?_
    have g3 : -2147483648 ≤ (H.1 361 4) ∧ (H.1 361 4) ≤ 2147483647 := kn (x := kx_361) hI rfl 4
    exact ⟨_, rfl, (by omega), hI, (fq_rf _ _ _ _)⟩
  · refine k_run 0 (pc' := 14) (l' := [(0, .inr (.inr 361)), (1, .inl a), (2, .inl (H.1 361 9))]) (st' := []) rfl ?_
    refine k_run 4 (pc' := 20) (l' := [(0, .inr (.inr 361)), (1, .inl a), (2, .inl (H.1 361 9))]) (st' := [.inr (.inr 361), .inl (H.1 361 9), .inr (.inr 362)]) rfl ?_
    refine h_cv (i := 120) (j := 84) (b := 361) (M' := mt_84) (xs := []) (rest := [.inl (H.1 361 9), .inr (.inr 362)]) rfl rfl rfl rfl (zs_K (x := kx_361) rfl (by decide)) rfl (Nat.le_of_ble_eq_true rfl) (Nat.le_of_ble_eq_true rfl) (by omega) (f_Reader_name (by omega) hI ) ?_
    rintro _ _ ⟨z8, rfl, g4, rfl⟩
    refine k_run 0 (pc' := 23) (l' := [(0, .inr (.inr 361)), (1, .inl a), (2, .inl (H.1 361 9))]) (st' := [.inr (.inl z8), .inl (H.1 361 9), .inr (.inr 362)]) rfl ?_
    refine k_lst (c := 362) (j := ((H.1 361 9)).toNat) (i := (H.1 361 9)) (x := kx_362) rfl rfl (by decide) (by decide) rfl (by decide) (by omega) (by omega) hI rfl (fun H9 hI10 hw11 => ?_)
    have hf13 : fq [(361, 9)] [362] true H H9 := fq_w (fq_rf _ _ _ _) hw11 (fpa (by decide) rfl)
    refine k_run 0 (pc' := 24) (l' := [(0, .inr (.inr 361)), (1, .inl a), (2, .inl (H.1 361 9))]) (st' := []) rfl ?_
    refine k_run 1 (pc' := 25) (l' := [(0, .inr (.inr 361)), (1, .inl a), (2, .inl (H.1 361 9))]) (st' := [.inr (.inr 361)]) rfl ?_
    refine k_getr (a := 361) (x := kx_361) rfl rfl rfl (by decide) rfl rfl rfl hI10 (fun h14 => ?_)
    obtain ⟨t15, et17⟩ : ∃ t9, t9 = H9.2 361 7 := ⟨_, rfl⟩
    rw [← et17] at h14 ⊢
    have k16 : isE t15 := h14
    refine k_run 0 (pc' := 28) (l' := [(0, .inr (.inr 361)), (1, .inl a), (2, .inl (H.1 361 9))]) (st' := [.inr (.inr t15)]) rfl ?_
    refine k_get (a := t15) (x := (kEo t15)) (v := .inr (.inr (t15 + 5))) rfl rfl k16.1 (iE0 k16) rfl rfl rfl ?_
    refine k_run 0 (pc' := 31) (l' := [(0, .inr (.inr 361)), (1, .inl a), (2, .inl (H.1 361 9))]) (st' := [.inr (.inr (t15 + 5))]) rfl ?_
    refine k_run 2 (pc' := 33) (l' := [(0, .inr (.inr 361)), (1, .inl a), (2, .inl (H.1 361 9))]) (st' := [.inl a, .inl (H.1 361 9), .inr (.inr (t15 + 5))]) rfl ?_
    refine k_ist (z := a) (c := (t15 + 5)) (j := ((H.1 361 9)).toNat) (i := (H.1 361 9)) (x := kEt) rfl k16.2.1 (iE5 k16) (by omega) rfl (by decide) (by omega) (by omega) hI10 (by omega) (show -2 ≤ a ∧ a ≤ 100 by omega) (fun H18 hI19 hw20 hv21 => ?_)
    have hf22 : fq [(361, 9)] [362] true H H18 := fq_w hf13 hw20 (fpg (iEg k16))
    refine k_run 0 (pc' := 34) (l' := [(0, .inr (.inr 361)), (1, .inl a), (2, .inl (H.1 361 9))]) (st' := []) rfl ?_
    refine k_run 3 (pc' := 39) (l' := [(0, .inr (.inr 361)), (1, .inl a), (2, .inl (H.1 361 9))]) (st' := [.inl (H18.1 361 9), .inr (.inr 361)]) rfl ?_
    have g23 : 0 ≤ (H18.1 361 9) ∧ (H18.1 361 9) ≤ 40 := kn (x := kx_361) hI19 rfl 9
    have e24 : (H18.1 361 9) = (H9.1 361 9) := hw20.2 _ _ (fun q => by have h9 := (iEg k16); rw [← q.1] at h9; exact absurd h9 (by decide))
    have e25 : (H9.1 361 9) = (H.1 361 9) := hw11.2 _ _ (fun q => absurd q.1 (by decide))
    refine k_run 2 (pc' := 41) (l' := [(0, .inr (.inr 361)), (1, .inl a), (2, .inl (H.1 361 9))]) (st' := [.inl ((H18.1 361 9) + 1), .inr (.inr 361)]) rfl ?_
    refine k_puti (z := ((H18.1 361 9) + 1)) (a := 361) (x := kx_361) rfl rfl rfl (by decide) (by decide) rfl rfl rfl rfl hI19 (by omega) (show 0 ≤ ((H18.1 361 9) + 1) ∧ ((H18.1 361 9) + 1) ≤ 40 by omega) (fun H26 hI27 hw28 hv29 => ?_)
    have hf30 : fq [(361, 9)] [362] true H H26 := fq_w hf22 hw28 (fpo (by decide) rfl)
    refine k_run 0 (pc' := 44) (l' := [(0, .inr (.inr 361)), (1, .inl a), (2, .inl (H.1 361 9))]) (st' := []) rfl ?_
    refine k_run 1 (pc' := 45) (l' := [(0, .inr (.inr 361)), (1, .inl a), (2, .inl (H.1 361 9))]) (st' := [.inl (H.1 361 9)]) rfl ?_
    refine h_reti (x := (H.1 361 9)) rfl rfl ?_
    have g31 : -2147483648 ≤ (H26.1 361 4) ∧ (H26.1 361 4) ≤ 2147483647 := kn (x := kx_361) hI27 rfl 4
    have e32 : (H26.1 361 4) = (H18.1 361 4) := hw28.2 _ _ (fun q => absurd q.2 (by decide))
    have e33 : (H18.1 361 4) = (H9.1 361 4) := hw20.2 _ _ (fun q => by have h9 := (iEg k16); rw [← q.1] at h9; exact absurd h9 (by decide))
    have e34 : (H9.1 361 4) = (H.1 361 4) := hw11.2 _ _ (fun q => absurd q.1 (by decide))
    exact ⟨_, rfl, (by omega), hI27, hf30⟩

/-! Reader.readVariable -/
set_option maxRecDepth 100000 in
theorem f_Reader_readVariable {d : Nat} (hd : 3 ≤ d) {H : hp} (hI : Inv H) {a : Int} (ha : -2147483648 ≤ a ∧ a ≤ 2147483647) (hp0 : -2 ≤ a ∧ a ≤ 100) : hG (zs zK) d mt_75 0 (zargs 0 [.inr (.inr 361), .inl a]) [] H (fun r9 H9 => ∃ z : Int, r9 = some (.inl z) ∧ ((0 ≤ z ∧ z ≤ 1) ∧ ((z = 0 ∨ H9.1 361 4 = H.1 361 4))) ∧ Inv H9 ∧ fq [(361, 3), (361, 4), (361, 5), (361, 9)] [362] true H H9) := by
  refine k_run 0 (pc' := 0) (l' := [(0, .inr (.inr 361)), (1, .inl a)]) (st' := []) rfl ?_
  refine k_run 2 (pc' := 3) (l' := [(0, .inr (.inr 361)), (1, .inl a)]) (st' := [.inl (-2), .inl a]) rfl ?_
  refine h_ine (off := 9) (t := 12) rfl rfl (by omega) (by decide) (fun c1 => ?_) (fun c1 => ?_)
  · refine k_run 0 (pc' := 12) (l' := [(0, .inr (.inr 361)), (1, .inl a)]) (st' := []) rfl ?_
    refine k_run 2 (pc' := 16) (l' := [(0, .inr (.inr 361)), (1, .inl a)]) (st' := [.inl (H.1 361 6)]) rfl ?_
    have g2 : -2147483648 ≤ (H.1 361 6) ∧ (H.1 361 6) ≤ 2147483647 := kn (x := kx_361) hI rfl 6
    refine k_run 1 (pc' := 17) (l' := [(0, .inr (.inr 361)), (1, .inl a)]) (st' := [.inl 2, .inl (H.1 361 6)]) rfl ?_
    refine h_ine (off := 7) (t := 24) rfl rfl (by omega) (by decide) (fun c3 => ?_) (fun c3 => ?_)
    · refine k_run 0 (pc' := 24) (l' := [(0, .inr (.inr 361)), (1, .inl a)]) (st' := []) rfl ?_
      refine k_run 1 (pc' := 25) (l' := [(0, .inr (.inr 361)), (1, .inl a)]) (st' := [.inr (.inr 361)]) rfl ?_
      refine h_cv (i := 203) (j := 79) (b := 361) (M' := mt_79) (xs := []) (rest := []) rfl rfl rfl rfl (zs_K (x := kx_361) rfl (by decide)) rfl (Nat.le_of_ble_eq_true rfl) (Nat.le_of_ble_eq_true rfl) (by omega) (f_Reader_findVariable (by omega) hI ) ?_
      rintro _ _ ⟨z8, rfl, g4, rfl⟩
      refine k_run 0 (pc' := 28) (l' := [(0, .inr (.inr 361)), (1, .inl a)]) (st' := [.inl z8]) rfl ?_
      refine k_run 2 (pc' := 30) (l' := [(0, .inr (.inr 361)), (1, .inl a), (2, .inl z8)]) (st' := [.inl z8]) rfl ?_
      refine h_zge (off := 17) (t := 47) rfl rfl (by omega) (fun c9 => ?_) (fun c9 => ?_)
      · refine k_run 0 (pc' := 47) (l' := [(0, .inr (.inr 361)), (1, .inl a), (2, .inl z8)]) (st' := []) rfl ?_
        refine k_run 1 (pc' := 48) (l' := [(0, .inr (.inr 361)), (1, .inl a), (2, .inl z8)]) (st' := [.inl z8]) rfl ?_
        refine h_zlt (off := 22) (t := 70) rfl rfl (by omega) (fun c10 => ?_) (fun c10 => ?_)
        · exfalso
          omega
        · refine k_run 0 (pc' := 51) (l' := [(0, .inr (.inr 361)), (1, .inl a), (2, .inl z8)]) (st' := []) rfl ?_
          refine k_run 1 (pc' := 52) (l' := [(0, .inr (.inr 361)), (1, .inl a), (2, .inl z8)]) (st' := [.inr (.inr 361)]) rfl ?_
          refine k_getr (a := 361) (x := kx_361) rfl rfl rfl (by decide) rfl rfl rfl hI (fun h11 => ?_)
          obtain ⟨t12, et14⟩ : ∃ t9, t9 = H.2 361 7 := ⟨_, rfl⟩
          rw [← et14] at h11 ⊢
          have k13 : isE t12 := h11
          refine k_run 0 (pc' := 55) (l' := [(0, .inr (.inr 361)), (1, .inl a), (2, .inl z8)]) (st' := [.inr (.inr t12)]) rfl ?_
          refine k_get (a := t12) (x := (kEo t12)) (v := .inr (.inr (t12 + 5))) rfl rfl k13.1 (iE0 k13) rfl rfl rfl ?_
          refine k_run 0 (pc' := 58) (l' := [(0, .inr (.inr 361)), (1, .inl a), (2, .inl z8)]) (st' := [.inr (.inr (t12 + 5))]) rfl ?_
          refine k_run 1 (pc' := 59) (l' := [(0, .inr (.inr 361)), (1, .inl a), (2, .inl z8)]) (st' := [.inl z8, .inr (.inr (t12 + 5))]) rfl ?_
          refine k_ild (c := (t12 + 5)) (j := (z8).toNat) (i := z8) (x := kEt) rfl k13.2.1 (iE5 k13) rfl (by decide) (by omega) (by omega) ?_
          have g15 : -2 ≤ (H.1 (t12 + 5) (z8).toNat) ∧ (H.1 (t12 + 5) (z8).toNat) ≤ 100 := kn hI k13.2.1 (z8).toNat
          refine k_run 0 (pc' := 60) (l' := [(0, .inr (.inr 361)), (1, .inl a), (2, .inl z8)]) (st' := [.inl (H.1 (t12 + 5) (z8).toNat)]) rfl ?_
          refine k_run 1 (pc' := 61) (l' := [(0, .inr (.inr 361)), (1, .inl a), (2, .inl z8)]) (st' := [.inl a, .inl (H.1 (t12 + 5) (z8).toNat)]) rfl ?_
          refine h_ieq (off := 9) (t := 70) rfl rfl (by omega) (by omega) (fun c16 => ?_) (fun c16 => ?_)
          · refine k_run 0 (pc' := 70) (l' := [(0, .inr (.inr 361)), (1, .inl a), (2, .inl z8)]) (st' := []) rfl ?_
            refine k_run 1 (pc' := 71) (l' := [(0, .inr (.inr 361)), (1, .inl a), (2, .inl z8)]) (st' := [.inl z8]) rfl ?_
            refine h_zge (off := 18) (t := 89) rfl rfl (by omega) (fun c17 => ?_) (fun c17 => ?_)
            · refine k_run 0 (pc' := 89) (l' := [(0, .inr (.inr 361)), (1, .inl a), (2, .inl z8)]) (st' := []) rfl ?_
              refine k_run 3 (pc' := 92) (l' := [(0, .inr (.inr 361)), (1, .inl a), (2, .inl z8)]) (st' := [.inl z8, .inl 3, .inr (.inr 361)]) rfl ?_
              refine h_zge (off := 11) (t := 103) rfl rfl (by omega) (fun c18 => ?_) (fun c18 => ?_)
              · refine k_run 0 (pc' := 103) (l' := [(0, .inr (.inr 361)), (1, .inl a), (2, .inl z8)]) (st' := [.inl 3, .inr (.inr 361)]) rfl ?_
                refine k_run 2 (pc' := 105) (l' := [(0, .inr (.inr 361)), (1, .inl a), (2, .inl z8)]) (st' := [.inl 0, .inl z8, .inl 3, .inr (.inr 361)]) rfl ?_
                refine h_cs (i := 153) (j := 48) (M' := mt_48) (xs := [.inl 0, .inl z8, .inl 3]) (rest := [.inr (.inr 361)]) rfl rfl rfl rfl rfl (Nat.le_of_ble_eq_true rfl) (Nat.le_of_ble_eq_true rfl) (by omega) (k_Term_codeOf (by omega)  (by decide) (by omega) (by decide)) ?_
                rintro _ _ ⟨z23, rfl, g19, rfl⟩
                refine k_run 0 (pc' := 108) (l' := [(0, .inr (.inr 361)), (1, .inl a), (2, .inl z8)]) (st' := [.inl z23, .inr (.inr 361)]) rfl ?_
                have g24 : -2147483648 ≤ (H.1 361 4) ∧ (H.1 361 4) ≤ 2147483647 := kn (x := kx_361) hI rfl 4
                refine h_cv (i := 157) (j := 77) (b := 361) (M' := mt_77) (xs := [.inl z23]) (rest := []) rfl rfl rfl rfl (zs_K (x := kx_361) rfl (by decide)) rfl (Nat.le_of_ble_eq_true rfl) (Nat.le_of_ble_eq_true rfl) (by omega) (f_Reader_addName (by omega) hI (by omega)) ?_
                rintro _ H26 ⟨z29, rfl, g25, hI27, hq28⟩
                have hf30 : fq [(361, 3), (361, 4), (361, 5), (361, 9)] [362] true H H26 := fq_t (fq_rf _ _ _ _) hq28 rfl rfl rfl
                refine k_run 0 (pc' := 111) (l' := [(0, .inr (.inr 361)), (1, .inl a), (2, .inl z8)]) (st' := [.inl z29]) rfl ?_
                refine h_retz (x := z29) rfl rfl (by omega) ?_
                have g31 : -2147483648 ≤ (H26.1 361 4) ∧ (H26.1 361 4) ≤ 2147483647 := kn (x := kx_361) hI27 rfl 4
                exact ⟨_, rfl, (by omega), hI27, hf30⟩
              · exfalso
                omega
            · exfalso
              omega
          · refine k_run 0 (pc' := 64) (l' := [(0, .inr (.inr 361)), (1, .inl a), (2, .inl z8)]) (st' := []) rfl ?_
            refine k_run 2 (pc' := 66) (l' := [(0, .inr (.inr 361)), (1, .inl a), (2, .inl z8)]) (st' := [.inl 4, .inr (.inr 361)]) rfl ?_
            have g32 : -2147483648 ≤ (H.1 361 4) ∧ (H.1 361 4) ≤ 2147483647 := kn (x := kx_361) hI rfl 4
            refine h_cv (i := 128) (j := 86) (b := 361) (M' := mt_86) (xs := [.inl 4]) (rest := []) rfl rfl rfl rfl (zs_K (x := kx_361) rfl (by decide)) rfl (Nat.le_of_ble_eq_true rfl) (Nat.le_of_ble_eq_true rfl) (by omega) (f_Reader_fails (by omega) hI (by decide)) ?_
            rintro _ H34 ⟨z37, rfl, g33, hI35, hq36⟩
            have hf38 : fq [(361, 3), (361, 4), (361, 5), (361, 9)] [362] true H H34 := fq_t (fq_rf _ _ _ _) hq36 rfl rfl rfl
            refine k_run 0 (pc' := 69) (l' := [(0, .inr (.inr 361)), (1, .inl a), (2, .inl z8)]) (st' := [.inl z37]) rfl ?_
            refine h_retz (x := z37) rfl rfl (by omega) ?_
            have g39 : -2147483648 ≤ (H34.1 361 4) ∧ (H34.1 361 4) ≤ 2147483647 := kn (x := kx_361) hI35 rfl 4
            exact ⟨_, rfl, (by omega), hI35, hf38⟩
      · refine k_run 0 (pc' := 33) (l' := [(0, .inr (.inr 361)), (1, .inl a), (2, .inl z8)]) (st' := []) rfl ?_
        refine k_run 3 (pc' := 38) (l' := [(0, .inr (.inr 361)), (1, .inl a), (2, .inl z8)]) (st' := [.inl 1, .inl (H.1 361 6)]) rfl ?_
        refine h_ieq (off := 9) (t := 47) rfl rfl (by omega) (by decide) (fun c40 => ?_) (fun c40 => ?_)
        · refine k_run 0 (pc' := 47) (l' := [(0, .inr (.inr 361)), (1, .inl a), (2, .inl z8)]) (st' := []) rfl ?_
          refine k_run 1 (pc' := 48) (l' := [(0, .inr (.inr 361)), (1, .inl a), (2, .inl z8)]) (st' := [.inl z8]) rfl ?_
          refine h_zlt (off := 22) (t := 70) rfl rfl (by omega) (fun c41 => ?_) (fun c41 => ?_)
          · refine k_run 0 (pc' := 70) (l' := [(0, .inr (.inr 361)), (1, .inl a), (2, .inl z8)]) (st' := []) rfl ?_
            refine k_run 1 (pc' := 71) (l' := [(0, .inr (.inr 361)), (1, .inl a), (2, .inl z8)]) (st' := [.inl z8]) rfl ?_
            refine h_zge (off := 18) (t := 89) rfl rfl (by omega) (fun c42 => ?_) (fun c42 => ?_)
            · exfalso
              omega
            · refine k_run 0 (pc' := 74) (l' := [(0, .inr (.inr 361)), (1, .inl a), (2, .inl z8)]) (st' := []) rfl ?_
              refine k_run 2 (pc' := 78) (l' := [(0, .inr (.inr 361)), (1, .inl a), (2, .inl z8)]) (st' := [.inl (H.1 361 9)]) rfl ?_
              have g43 : 0 ≤ (H.1 361 9) ∧ (H.1 361 9) ≤ 40 := kn (x := kx_361) hI rfl 9
              refine k_run 1 (pc' := 80) (l' := [(0, .inr (.inr 361)), (1, .inl a), (2, .inl z8)]) (st' := [.inl 6, .inl (H.1 361 9)]) rfl ?_
              refine h_ilt (off := 9) (t := 89) rfl rfl (by omega) (by decide) (fun c44 => ?_) (fun c44 => ?_)
              · refine k_run 0 (pc' := 89) (l' := [(0, .inr (.inr 361)), (1, .inl a), (2, .inl z8)]) (st' := []) rfl ?_
                refine k_run 3 (pc' := 92) (l' := [(0, .inr (.inr 361)), (1, .inl a), (2, .inl z8)]) (st' := [.inl z8, .inl 3, .inr (.inr 361)]) rfl ?_
                refine h_zge (off := 11) (t := 103) rfl rfl (by omega) (fun c45 => ?_) (fun c45 => ?_)
                · exfalso
                  omega
                · refine k_run 0 (pc' := 95) (l' := [(0, .inr (.inr 361)), (1, .inl a), (2, .inl z8)]) (st' := [.inl 3, .inr (.inr 361)]) rfl ?_
                  refine k_run 2 (pc' := 97) (l' := [(0, .inr (.inr 361)), (1, .inl a), (2, .inl z8)]) (st' := [.inl a, .inr (.inr 361), .inl 3, .inr (.inr 361)]) rfl ?_
                  have g46 : -2147483648 ≤ (H.1 361 4) ∧ (H.1 361 4) ≤ 2147483647 := kn (x := kx_361) hI rfl 4
                  refine h_cv (i := 206) (j := 76) (b := 361) (M' := mt_76) (xs := [.inl a]) (rest := [.inl 3, .inr (.inr 361)]) rfl rfl rfl rfl (zs_K (x := kx_361) rfl (by decide)) rfl (Nat.le_of_ble_eq_true rfl) (Nat.le_of_ble_eq_true rfl) (by omega) (f_Reader_tellVariable (by omega) hI (by omega) (by omega)) ?_
                  rintro _ H48 ⟨z51, rfl, g47, hI49, hq50⟩
                  have hf52 : fq [(361, 3), (361, 4), (361, 5), (361, 9)] [362] true H H48 := fq_t (fq_rf _ _ _ _) hq50 rfl rfl rfl
                  refine k_run 0 (pc' := 100) (l' := [(0, .inr (.inr 361)), (1, .inl a), (2, .inl z8)]) (st' := [.inl z51, .inl 3, .inr (.inr 361)]) rfl ?_
                  refine k_run 2 (pc' := 105) (l' := [(0, .inr (.inr 361)), (1, .inl a), (2, .inl z8)]) (st' := [.inl 0, .inl z51, .inl 3, .inr (.inr 361)]) rfl ?_
                  refine h_cs (i := 153) (j := 48) (M' := mt_48) (xs := [.inl 0, .inl z51, .inl 3]) (rest := [.inr (.inr 361)]) rfl rfl rfl rfl rfl (Nat.le_of_ble_eq_true rfl) (Nat.le_of_ble_eq_true rfl) (by omega) (k_Term_codeOf (by omega)  (by decide) (by omega) (by decide)) ?_
                  rintro _ _ ⟨z57, rfl, g53, rfl⟩
                  refine k_run 0 (pc' := 108) (l' := [(0, .inr (.inr 361)), (1, .inl a), (2, .inl z8)]) (st' := [.inl z57, .inr (.inr 361)]) rfl ?_
                  have g58 : -2147483648 ≤ (H48.1 361 4) ∧ (H48.1 361 4) ≤ 2147483647 := kn (x := kx_361) hI49 rfl 4
                  have e59 : (H48.1 361 4) = (H.1 361 4) := (hq50.1 361 4 rfl (by decide) (by decide)).1
                  refine h_cv (i := 157) (j := 77) (b := 361) (M' := mt_77) (xs := [.inl z57]) (rest := []) rfl rfl rfl rfl (zs_K (x := kx_361) rfl (by decide)) rfl (Nat.le_of_ble_eq_true rfl) (Nat.le_of_ble_eq_true rfl) (by omega) (f_Reader_addName (by omega) hI49 (by omega)) ?_
                  rintro _ H61 ⟨z64, rfl, g60, hI62, hq63⟩
                  have hf65 : fq [(361, 3), (361, 4), (361, 5), (361, 9)] [362] true H H61 := fq_t hf52 hq63 rfl rfl rfl
                  refine k_run 0 (pc' := 111) (l' := [(0, .inr (.inr 361)), (1, .inl a), (2, .inl z8)]) (st' := [.inl z64]) rfl ?_
                  refine h_retz (x := z64) rfl rfl (by omega) ?_
                  have g66 : -2147483648 ≤ (H61.1 361 4) ∧ (H61.1 361 4) ≤ 2147483647 := kn (x := kx_361) hI62 rfl 4
                  exact ⟨_, rfl, (by omega), hI62, hf65⟩
              · refine k_run 0 (pc' := 83) (l' := [(0, .inr (.inr 361)), (1, .inl a), (2, .inl z8)]) (st' := []) rfl ?_
                refine k_run 2 (pc' := 85) (l' := [(0, .inr (.inr 361)), (1, .inl a), (2, .inl z8)]) (st' := [.inl 5, .inr (.inr 361)]) rfl ?_
                have g67 : -2147483648 ≤ (H.1 361 4) ∧ (H.1 361 4) ≤ 2147483647 := kn (x := kx_361) hI rfl 4
                refine h_cv (i := 128) (j := 86) (b := 361) (M' := mt_86) (xs := [.inl 5]) (rest := []) rfl rfl rfl rfl (zs_K (x := kx_361) rfl (by decide)) rfl (Nat.le_of_ble_eq_true rfl) (Nat.le_of_ble_eq_true rfl) (by omega) (f_Reader_fails (by omega) hI (by decide)) ?_
                rintro _ H69 ⟨z72, rfl, g68, hI70, hq71⟩
                have hf73 : fq [(361, 3), (361, 4), (361, 5), (361, 9)] [362] true H H69 := fq_t (fq_rf _ _ _ _) hq71 rfl rfl rfl
                refine k_run 0 (pc' := 88) (l' := [(0, .inr (.inr 361)), (1, .inl a), (2, .inl z8)]) (st' := [.inl z72]) rfl ?_
                refine h_retz (x := z72) rfl rfl (by omega) ?_
                have g74 : -2147483648 ≤ (H69.1 361 4) ∧ (H69.1 361 4) ≤ 2147483647 := kn (x := kx_361) hI70 rfl 4
                exact ⟨_, rfl, (by omega), hI70, hf73⟩
          · exfalso
            omega
        · refine k_run 0 (pc' := 41) (l' := [(0, .inr (.inr 361)), (1, .inl a), (2, .inl z8)]) (st' := []) rfl ?_
          refine k_run 2 (pc' := 43) (l' := [(0, .inr (.inr 361)), (1, .inl a), (2, .inl z8)]) (st' := [.inl 3, .inr (.inr 361)]) rfl ?_
          have g75 : -2147483648 ≤ (H.1 361 4) ∧ (H.1 361 4) ≤ 2147483647 := kn (x := kx_361) hI rfl 4
          refine h_cv (i := 128) (j := 86) (b := 361) (M' := mt_86) (xs := [.inl 3]) (rest := []) rfl rfl rfl rfl (zs_K (x := kx_361) rfl (by decide)) rfl (Nat.le_of_ble_eq_true rfl) (Nat.le_of_ble_eq_true rfl) (by omega) (f_Reader_fails (by omega) hI (by decide)) ?_
          rintro _ H77 ⟨z80, rfl, g76, hI78, hq79⟩
          have hf81 : fq [(361, 3), (361, 4), (361, 5), (361, 9)] [362] true H H77 := fq_t (fq_rf _ _ _ _) hq79 rfl rfl rfl
          refine k_run 0 (pc' := 46) (l' := [(0, .inr (.inr 361)), (1, .inl a), (2, .inl z8)]) (st' := [.inl z80]) rfl ?_
          refine h_retz (x := z80) rfl rfl (by omega) ?_
          have g82 : -2147483648 ≤ (H77.1 361 4) ∧ (H77.1 361 4) ≤ 2147483647 := kn (x := kx_361) hI78 rfl 4
          exact ⟨_, rfl, (by omega), hI78, hf81⟩
    · refine k_run 0 (pc' := 20) (l' := [(0, .inr (.inr 361)), (1, .inl a)]) (st' := []) rfl ?_
      refine k_run 4 (pc' := 30) (l' := [(0, .inr (.inr 361)), (1, .inl a), (2, .inl (-1))]) (st' := [.inl (-1)]) rfl ?_
      refine h_zge (off := 17) (t := 47) rfl rfl (by decide) (fun c => absurd c (by decide)) (fun _ => ?_)
      refine k_run 0 (pc' := 33) (l' := [(0, .inr (.inr 361)), (1, .inl a), (2, .inl (-1))]) (st' := []) rfl ?_
      refine k_run 3 (pc' := 38) (l' := [(0, .inr (.inr 361)), (1, .inl a), (2, .inl (-1))]) (st' := [.inl 1, .inl (H.1 361 6)]) rfl ?_
      refine h_ieq (off := 9) (t := 47) rfl rfl (by omega) (by decide) (fun c83 => ?_) (fun c83 => ?_)
      · refine k_run 0 (pc' := 47) (l' := [(0, .inr (.inr 361)), (1, .inl a), (2, .inl (-1))]) (st' := []) rfl ?_
        refine k_run 1 (pc' := 48) (l' := [(0, .inr (.inr 361)), (1, .inl a), (2, .inl (-1))]) (st' := [.inl (-1)]) rfl ?_
        refine h_zlt (off := 22) (t := 70) rfl rfl (by decide) (fun _ => ?_) (fun c => absurd c (by decide))
        refine k_run 0 (pc' := 70) (l' := [(0, .inr (.inr 361)), (1, .inl a), (2, .inl (-1))]) (st' := []) rfl ?_
        refine k_run 1 (pc' := 71) (l' := [(0, .inr (.inr 361)), (1, .inl a), (2, .inl (-1))]) (st' := [.inl (-1)]) rfl ?_
        refine h_zge (off := 18) (t := 89) rfl rfl (by decide) (fun c => absurd c (by decide)) (fun _ => ?_)
        refine k_run 0 (pc' := 74) (l' := [(0, .inr (.inr 361)), (1, .inl a), (2, .inl (-1))]) (st' := []) rfl ?_
        refine k_run 2 (pc' := 78) (l' := [(0, .inr (.inr 361)), (1, .inl a), (2, .inl (-1))]) (st' := [.inl (H.1 361 9)]) rfl ?_
        have g84 : 0 ≤ (H.1 361 9) ∧ (H.1 361 9) ≤ 40 := kn (x := kx_361) hI rfl 9
        refine k_run 1 (pc' := 80) (l' := [(0, .inr (.inr 361)), (1, .inl a), (2, .inl (-1))]) (st' := [.inl 6, .inl (H.1 361 9)]) rfl ?_
        refine h_ilt (off := 9) (t := 89) rfl rfl (by omega) (by decide) (fun c85 => ?_) (fun c85 => ?_)
        · refine k_run 0 (pc' := 89) (l' := [(0, .inr (.inr 361)), (1, .inl a), (2, .inl (-1))]) (st' := []) rfl ?_
          refine k_run 3 (pc' := 92) (l' := [(0, .inr (.inr 361)), (1, .inl a), (2, .inl (-1))]) (st' := [.inl (-1), .inl 3, .inr (.inr 361)]) rfl ?_
          refine h_zge (off := 11) (t := 103) rfl rfl (by decide) (fun c => absurd c (by decide)) (fun _ => ?_)
          refine k_run 0 (pc' := 95) (l' := [(0, .inr (.inr 361)), (1, .inl a), (2, .inl (-1))]) (st' := [.inl 3, .inr (.inr 361)]) rfl ?_
          refine k_run 2 (pc' := 97) (l' := [(0, .inr (.inr 361)), (1, .inl a), (2, .inl (-1))]) (st' := [.inl a, .inr (.inr 361), .inl 3, .inr (.inr 361)]) rfl ?_
          have g86 : -2147483648 ≤ (H.1 361 4) ∧ (H.1 361 4) ≤ 2147483647 := kn (x := kx_361) hI rfl 4
          refine h_cv (i := 206) (j := 76) (b := 361) (M' := mt_76) (xs := [.inl a]) (rest := [.inl 3, .inr (.inr 361)]) rfl rfl rfl rfl (zs_K (x := kx_361) rfl (by decide)) rfl (Nat.le_of_ble_eq_true rfl) (Nat.le_of_ble_eq_true rfl) (by omega) (f_Reader_tellVariable (by omega) hI (by omega) (by omega)) ?_
          rintro _ H88 ⟨z91, rfl, g87, hI89, hq90⟩
          have hf92 : fq [(361, 3), (361, 4), (361, 5), (361, 9)] [362] true H H88 := fq_t (fq_rf _ _ _ _) hq90 rfl rfl rfl
          refine k_run 0 (pc' := 100) (l' := [(0, .inr (.inr 361)), (1, .inl a), (2, .inl (-1))]) (st' := [.inl z91, .inl 3, .inr (.inr 361)]) rfl ?_
          refine k_run 2 (pc' := 105) (l' := [(0, .inr (.inr 361)), (1, .inl a), (2, .inl (-1))]) (st' := [.inl 0, .inl z91, .inl 3, .inr (.inr 361)]) rfl ?_
          refine h_cs (i := 153) (j := 48) (M' := mt_48) (xs := [.inl 0, .inl z91, .inl 3]) (rest := [.inr (.inr 361)]) rfl rfl rfl rfl rfl (Nat.le_of_ble_eq_true rfl) (Nat.le_of_ble_eq_true rfl) (by omega) (k_Term_codeOf (by omega)  (by decide) (by omega) (by decide)) ?_
          rintro _ _ ⟨z97, rfl, g93, rfl⟩
          refine k_run 0 (pc' := 108) (l' := [(0, .inr (.inr 361)), (1, .inl a), (2, .inl (-1))]) (st' := [.inl z97, .inr (.inr 361)]) rfl ?_
          have g98 : -2147483648 ≤ (H88.1 361 4) ∧ (H88.1 361 4) ≤ 2147483647 := kn (x := kx_361) hI89 rfl 4
          have e99 : (H88.1 361 4) = (H.1 361 4) := (hq90.1 361 4 rfl (by decide) (by decide)).1
          refine h_cv (i := 157) (j := 77) (b := 361) (M' := mt_77) (xs := [.inl z97]) (rest := []) rfl rfl rfl rfl (zs_K (x := kx_361) rfl (by decide)) rfl (Nat.le_of_ble_eq_true rfl) (Nat.le_of_ble_eq_true rfl) (by omega) (f_Reader_addName (by omega) hI89 (by omega)) ?_
          rintro _ H101 ⟨z104, rfl, g100, hI102, hq103⟩
          have hf105 : fq [(361, 3), (361, 4), (361, 5), (361, 9)] [362] true H H101 := fq_t hf92 hq103 rfl rfl rfl
          refine k_run 0 (pc' := 111) (l' := [(0, .inr (.inr 361)), (1, .inl a), (2, .inl (-1))]) (st' := [.inl z104]) rfl ?_
          refine h_retz (x := z104) rfl rfl (by omega) ?_
          have g106 : -2147483648 ≤ (H101.1 361 4) ∧ (H101.1 361 4) ≤ 2147483647 := kn (x := kx_361) hI102 rfl 4
          exact ⟨_, rfl, (by omega), hI102, hf105⟩
        · refine k_run 0 (pc' := 83) (l' := [(0, .inr (.inr 361)), (1, .inl a), (2, .inl (-1))]) (st' := []) rfl ?_
          refine k_run 2 (pc' := 85) (l' := [(0, .inr (.inr 361)), (1, .inl a), (2, .inl (-1))]) (st' := [.inl 5, .inr (.inr 361)]) rfl ?_
          have g107 : -2147483648 ≤ (H.1 361 4) ∧ (H.1 361 4) ≤ 2147483647 := kn (x := kx_361) hI rfl 4
          refine h_cv (i := 128) (j := 86) (b := 361) (M' := mt_86) (xs := [.inl 5]) (rest := []) rfl rfl rfl rfl (zs_K (x := kx_361) rfl (by decide)) rfl (Nat.le_of_ble_eq_true rfl) (Nat.le_of_ble_eq_true rfl) (by omega) (f_Reader_fails (by omega) hI (by decide)) ?_
          rintro _ H109 ⟨z112, rfl, g108, hI110, hq111⟩
          have hf113 : fq [(361, 3), (361, 4), (361, 5), (361, 9)] [362] true H H109 := fq_t (fq_rf _ _ _ _) hq111 rfl rfl rfl
          refine k_run 0 (pc' := 88) (l' := [(0, .inr (.inr 361)), (1, .inl a), (2, .inl (-1))]) (st' := [.inl z112]) rfl ?_
          refine h_retz (x := z112) rfl rfl (by omega) ?_
          have g114 : -2147483648 ≤ (H109.1 361 4) ∧ (H109.1 361 4) ≤ 2147483647 := kn (x := kx_361) hI110 rfl 4
          exact ⟨_, rfl, (by omega), hI110, hf113⟩
      · refine k_run 0 (pc' := 41) (l' := [(0, .inr (.inr 361)), (1, .inl a), (2, .inl (-1))]) (st' := []) rfl ?_
        refine k_run 2 (pc' := 43) (l' := [(0, .inr (.inr 361)), (1, .inl a), (2, .inl (-1))]) (st' := [.inl 3, .inr (.inr 361)]) rfl ?_
        have g115 : -2147483648 ≤ (H.1 361 4) ∧ (H.1 361 4) ≤ 2147483647 := kn (x := kx_361) hI rfl 4
        refine h_cv (i := 128) (j := 86) (b := 361) (M' := mt_86) (xs := [.inl 3]) (rest := []) rfl rfl rfl rfl (zs_K (x := kx_361) rfl (by decide)) rfl (Nat.le_of_ble_eq_true rfl) (Nat.le_of_ble_eq_true rfl) (by omega) (f_Reader_fails (by omega) hI (by decide)) ?_
        rintro _ H117 ⟨z120, rfl, g116, hI118, hq119⟩
        have hf121 : fq [(361, 3), (361, 4), (361, 5), (361, 9)] [362] true H H117 := fq_t (fq_rf _ _ _ _) hq119 rfl rfl rfl
        refine k_run 0 (pc' := 46) (l' := [(0, .inr (.inr 361)), (1, .inl a), (2, .inl (-1))]) (st' := [.inl z120]) rfl ?_
        refine h_retz (x := z120) rfl rfl (by omega) ?_
        have g122 : -2147483648 ≤ (H117.1 361 4) ∧ (H117.1 361 4) ≤ 2147483647 := kn (x := kx_361) hI118 rfl 4
        exact ⟨_, rfl, (by omega), hI118, hf121⟩
  · refine k_run 0 (pc' := 6) (l' := [(0, .inr (.inr 361)), (1, .inl a)]) (st' := []) rfl ?_
    refine k_run 2 (pc' := 8) (l' := [(0, .inr (.inr 361)), (1, .inl a)]) (st' := [.inl 2, .inr (.inr 361)]) rfl ?_
    have g123 : -2147483648 ≤ (H.1 361 4) ∧ (H.1 361 4) ≤ 2147483647 := kn (x := kx_361) hI rfl 4
    refine h_cv (i := 128) (j := 86) (b := 361) (M' := mt_86) (xs := [.inl 2]) (rest := []) rfl rfl rfl rfl (zs_K (x := kx_361) rfl (by decide)) rfl (Nat.le_of_ble_eq_true rfl) (Nat.le_of_ble_eq_true rfl) (by omega) (f_Reader_fails (by omega) hI (by decide)) ?_
    rintro _ H125 ⟨z128, rfl, g124, hI126, hq127⟩
    have hf129 : fq [(361, 3), (361, 4), (361, 5), (361, 9)] [362] true H H125 := fq_t (fq_rf _ _ _ _) hq127 rfl rfl rfl
    refine k_run 0 (pc' := 11) (l' := [(0, .inr (.inr 361)), (1, .inl a)]) (st' := [.inl z128]) rfl ?_
    refine h_retz (x := z128) rfl rfl (by omega) ?_
    have g130 : -2147483648 ≤ (H125.1 361 4) ∧ (H125.1 361 4) ≤ 2147483647 := kn (x := kx_361) hI126 rfl 4
    exact ⟨_, rfl, (by omega), hI126, hf129⟩

/-! Reader.readPatternVariable -/
set_option maxRecDepth 100000 in
theorem f_Reader_readPatternVariable {d : Nat} (hd : 3 ≤ d) {H : hp} (hI : Inv H) {a : Int} (ha : -2147483648 ≤ a ∧ a ≤ 2147483647) (hp0 : -2 ≤ a ∧ a ≤ 100) : hG (zs zK) d mt_71 0 (zargs 0 [.inr (.inr 361), .inl a]) [] H (fun r9 H9 => ∃ z : Int, r9 = some (.inl z) ∧ ((0 ≤ z ∧ z ≤ 1) ∧ ((z = 0 ∨ H9.1 361 4 = H.1 361 4))) ∧ Inv H9 ∧ fq [(361, 3), (361, 4), (361, 5), (361, 9)] [362] true H H9) := by
  refine k_run 0 (pc' := 0) (l' := [(0, .inr (.inr 361)), (1, .inl a)]) (st' := []) rfl ?_
  refine k_run 4 (pc' := 8) (l' := [(0, .inr (.inr 361)), (1, .inl a)]) (st' := [.inr (.inr 361), .inr (.inr 18)]) rfl ?_
  refine h_cv (i := 120) (j := 84) (b := 361) (M' := mt_84) (xs := []) (rest := [.inr (.inr 18)]) rfl rfl rfl rfl (zs_K (x := kx_361) rfl (by decide)) rfl (Nat.le_of_ble_eq_true rfl) (Nat.le_of_ble_eq_true rfl) (by omega) (f_Reader_name (by omega) hI ) ?_
  rintro _ _ ⟨z5, rfl, g1, rfl⟩
  refine k_run 0 (pc' := 11) (l' := [(0, .inr (.inr 361)), (1, .inl a)]) (st' := [.inr (.inl z5), .inr (.inr 18)]) rfl ?_
  have g6 : 0 ≤ (H.1 18 4) ∧ (H.1 18 4) ≤ 16 := kn (x := kx_18) hI rfl 4
  refine h_cv (i := 124) (j := 41) (b := 18) (M' := mt_41) (xs := [.inr (.inl z5)]) (rest := []) rfl rfl rfl rfl (zs_K (x := kx_18) rfl (by decide)) rfl (Nat.le_of_ble_eq_true rfl) (Nat.le_of_ble_eq_true rfl) (by omega) (k_Symbols_find_18 (by omega) hI ) ?_
  rintro _ _ ⟨z11, rfl, g7, rfl⟩
  refine k_run 0 (pc' := 14) (l' := [(0, .inr (.inr 361)), (1, .inl a)]) (st' := [.inl z11]) rfl ?_
  refine h_zlt (off := 9) (t := 23) rfl rfl (by omega) (fun c12 => ?_) (fun c12 => ?_)
  · refine k_run 0 (pc' := 23) (l' := [(0, .inr (.inr 361)), (1, .inl a)]) (st' := []) rfl ?_
    refine k_run 1 (pc' := 24) (l' := [(0, .inr (.inr 361)), (1, .inl a)]) (st' := [.inr (.inr 361)]) rfl ?_
    refine h_cv (i := 203) (j := 79) (b := 361) (M' := mt_79) (xs := []) (rest := []) rfl rfl rfl rfl (zs_K (x := kx_361) rfl (by decide)) rfl (Nat.le_of_ble_eq_true rfl) (Nat.le_of_ble_eq_true rfl) (by omega) (f_Reader_findVariable (by omega) hI ) ?_
    rintro _ _ ⟨z17, rfl, g13, rfl⟩
    refine k_run 0 (pc' := 27) (l' := [(0, .inr (.inr 361)), (1, .inl a)]) (st' := [.inl z17]) rfl ?_
    refine h_zlt (off := 9) (t := 36) rfl rfl (by omega) (fun c18 => ?_) (fun c18 => ?_)
    · refine k_run 0 (pc' := 36) (l' := [(0, .inr (.inr 361)), (1, .inl a)]) (st' := []) rfl ?_
      refine k_run 4 (pc' := 40) (l' := [(0, .inr (.inr 361)), (1, .inl a)]) (st' := [.inl a, .inr (.inr 361), .inl 3, .inr (.inr 361)]) rfl ?_
      have g19 : -2147483648 ≤ (H.1 361 4) ∧ (H.1 361 4) ≤ 2147483647 := kn (x := kx_361) hI rfl 4
      refine h_cv (i := 206) (j := 76) (b := 361) (M' := mt_76) (xs := [.inl a]) (rest := [.inl 3, .inr (.inr 361)]) rfl rfl rfl rfl (zs_K (x := kx_361) rfl (by decide)) rfl (Nat.le_of_ble_eq_true rfl) (Nat.le_of_ble_eq_true rfl) (by omega) (f_Reader_tellVariable (by omega) hI (by omega) (by omega)) ?_
      rintro _ H21 ⟨z24, rfl, g20, hI22, hq23⟩
      have hf25 : fq [(361, 3), (361, 4), (361, 5), (361, 9)] [362] true H H21 := fq_t (fq_rf _ _ _ _) hq23 rfl rfl rfl
      refine k_run 0 (pc' := 43) (l' := [(0, .inr (.inr 361)), (1, .inl a)]) (st' := [.inl z24, .inl 3, .inr (.inr 361)]) rfl ?_
      refine k_run 1 (pc' := 44) (l' := [(0, .inr (.inr 361)), (1, .inl a)]) (st' := [.inl 0, .inl z24, .inl 3, .inr (.inr 361)]) rfl ?_
      refine h_cs (i := 153) (j := 48) (M' := mt_48) (xs := [.inl 0, .inl z24, .inl 3]) (rest := [.inr (.inr 361)]) rfl rfl rfl rfl rfl (Nat.le_of_ble_eq_true rfl) (Nat.le_of_ble_eq_true rfl) (by omega) (k_Term_codeOf (by omega)  (by decide) (by omega) (by decide)) ?_
      rintro _ _ ⟨z30, rfl, g26, rfl⟩
      refine k_run 0 (pc' := 47) (l' := [(0, .inr (.inr 361)), (1, .inl a)]) (st' := [.inl z30, .inr (.inr 361)]) rfl ?_
      have g31 : -2147483648 ≤ (H21.1 361 4) ∧ (H21.1 361 4) ≤ 2147483647 := kn (x := kx_361) hI22 rfl 4
      have e32 : (H21.1 361 4) = (H.1 361 4) := (hq23.1 361 4 rfl (by decide) (by decide)).1
      refine h_cv (i := 157) (j := 77) (b := 361) (M' := mt_77) (xs := [.inl z30]) (rest := []) rfl rfl rfl rfl (zs_K (x := kx_361) rfl (by decide)) rfl (Nat.le_of_ble_eq_true rfl) (Nat.le_of_ble_eq_true rfl) (by omega) (f_Reader_addName (by omega) hI22 (by omega)) ?_
      rintro _ H34 ⟨z37, rfl, g33, hI35, hq36⟩
      have hf38 : fq [(361, 3), (361, 4), (361, 5), (361, 9)] [362] true H H34 := fq_t hf25 hq36 rfl rfl rfl
      refine k_run 0 (pc' := 50) (l' := [(0, .inr (.inr 361)), (1, .inl a)]) (st' := [.inl z37]) rfl ?_
      refine h_retz (x := z37) rfl rfl (by omega) ?_
      have g39 : -2147483648 ≤ (H34.1 361 4) ∧ (H34.1 361 4) ≤ 2147483647 := kn (x := kx_361) hI35 rfl 4
      exact ⟨_, rfl, (by omega), hI35, hf38⟩
    · refine k_run 0 (pc' := 30) (l' := [(0, .inr (.inr 361)), (1, .inl a)]) (st' := []) rfl ?_
      refine k_run 2 (pc' := 32) (l' := [(0, .inr (.inr 361)), (1, .inl a)]) (st' := [.inl 3, .inr (.inr 361)]) rfl ?_
      have g40 : -2147483648 ≤ (H.1 361 4) ∧ (H.1 361 4) ≤ 2147483647 := kn (x := kx_361) hI rfl 4
      refine h_cv (i := 128) (j := 86) (b := 361) (M' := mt_86) (xs := [.inl 3]) (rest := []) rfl rfl rfl rfl (zs_K (x := kx_361) rfl (by decide)) rfl (Nat.le_of_ble_eq_true rfl) (Nat.le_of_ble_eq_true rfl) (by omega) (f_Reader_fails (by omega) hI (by decide)) ?_
      rintro _ H42 ⟨z45, rfl, g41, hI43, hq44⟩
      have hf46 : fq [(361, 3), (361, 4), (361, 5), (361, 9)] [362] true H H42 := fq_t (fq_rf _ _ _ _) hq44 rfl rfl rfl
      refine k_run 0 (pc' := 35) (l' := [(0, .inr (.inr 361)), (1, .inl a)]) (st' := [.inl z45]) rfl ?_
      refine h_retz (x := z45) rfl rfl (by omega) ?_
      have g47 : -2147483648 ≤ (H42.1 361 4) ∧ (H42.1 361 4) ≤ 2147483647 := kn (x := kx_361) hI43 rfl 4
      exact ⟨_, rfl, (by omega), hI43, hf46⟩
  · refine k_run 0 (pc' := 17) (l' := [(0, .inr (.inr 361)), (1, .inl a)]) (st' := []) rfl ?_
    refine k_run 2 (pc' := 19) (l' := [(0, .inr (.inr 361)), (1, .inl a)]) (st' := [.inl 2, .inr (.inr 361)]) rfl ?_
    have g48 : -2147483648 ≤ (H.1 361 4) ∧ (H.1 361 4) ≤ 2147483647 := kn (x := kx_361) hI rfl 4
    refine h_cv (i := 128) (j := 86) (b := 361) (M' := mt_86) (xs := [.inl 2]) (rest := []) rfl rfl rfl rfl (zs_K (x := kx_361) rfl (by decide)) rfl (Nat.le_of_ble_eq_true rfl) (Nat.le_of_ble_eq_true rfl) (by omega) (f_Reader_fails (by omega) hI (by decide)) ?_
    rintro _ H50 ⟨z53, rfl, g49, hI51, hq52⟩
    have hf54 : fq [(361, 3), (361, 4), (361, 5), (361, 9)] [362] true H H50 := fq_t (fq_rf _ _ _ _) hq52 rfl rfl rfl
    refine k_run 0 (pc' := 22) (l' := [(0, .inr (.inr 361)), (1, .inl a)]) (st' := [.inl z53]) rfl ?_
    refine h_retz (x := z53) rfl rfl (by omega) ?_
    have g55 : -2147483648 ≤ (H50.1 361 4) ∧ (H50.1 361 4) ≤ 2147483647 := kn (x := kx_361) hI51 rfl 4
    exact ⟨_, rfl, (by omega), hI51, hf54⟩

/-! Reader.readResult -/
set_option maxRecDepth 100000 in
theorem f_Reader_readResult {d : Nat} (hd : 3 ≤ d) {H : hp} (hI : Inv H) {a : Int} (ha : -2147483648 ≤ a ∧ a ≤ 2147483647) (hp0 : 0 ≤ a ∧ a < 16) : hG (zs zK) d mt_67 0 (zargs 0 [.inr (.inr 361), .inl a]) [] H (fun r9 H9 => ∃ z : Int, r9 = some (.inl z) ∧ ((0 ≤ z ∧ z ≤ 1) ∧ ((z = 0 ∨ H9.1 361 4 = H.1 361 4))) ∧ Inv H9 ∧ fq [(361, 3), (361, 4), (361, 5)] [20] false H H9) := by
  refine k_run 0 (pc' := 0) (l' := [(0, .inr (.inr 361)), (1, .inl a)]) (st' := []) rfl ?_
  refine k_run 1 (pc' := 1) (l' := [(0, .inr (.inr 361)), (1, .inl a)]) (st' := [.inr (.inr 361)]) rfl ?_
  refine h_cv (i := 72) (j := 83) (b := 361) (M' := mt_83) (xs := []) (rest := []) rfl rfl rfl rfl (zs_K (x := kx_361) rfl (by decide)) rfl (Nat.le_of_ble_eq_true rfl) (Nat.le_of_ble_eq_true rfl) (by omega) (f_Reader_token (by omega) hI ) ?_
  rintro _ _ ⟨z5, rfl, g1, rfl⟩
  refine k_run 0 (pc' := 4) (l' := [(0, .inr (.inr 361)), (1, .inl a)]) (st' := [.inl z5]) rfl ?_
  refine k_run 1 (pc' := 5) (l' := [(0, .inr (.inr 361)), (1, .inl a)]) (st' := [.inl 3, .inl z5]) rfl ?_
  refine h_ieq (off := 8) (t := 13) rfl rfl (by omega) (by decide) (fun c6 => ?_) (fun c6 => ?_)
  · refine k_run 0 (pc' := 13) (l' := [(0, .inr (.inr 361)), (1, .inl a)]) (st' := []) rfl ?_
    refine k_run 4 (pc' := 21) (l' := [(0, .inr (.inr 361)), (1, .inl a)]) (st' := [.inr (.inr 361), .inr (.inr 8)]) rfl ?_
    refine h_cv (i := 120) (j := 84) (b := 361) (M' := mt_84) (xs := []) (rest := [.inr (.inr 8)]) rfl rfl rfl rfl (zs_K (x := kx_361) rfl (by decide)) rfl (Nat.le_of_ble_eq_true rfl) (Nat.le_of_ble_eq_true rfl) (by omega) (f_Reader_name (by omega) hI ) ?_
    rintro _ _ ⟨z11, rfl, g7, rfl⟩
    refine k_run 0 (pc' := 24) (l' := [(0, .inr (.inr 361)), (1, .inl a)]) (st' := [.inr (.inl z11), .inr (.inr 8)]) rfl ?_
    have g12 : 0 ≤ (H.1 8 4) ∧ (H.1 8 4) ≤ 6 := kn (x := kx_8) hI rfl 4
    refine h_cv (i := 124) (j := 41) (b := 8) (M' := mt_41) (xs := [.inr (.inl z11)]) (rest := []) rfl rfl rfl rfl (zs_K (x := kx_8) rfl (by decide)) rfl (Nat.le_of_ble_eq_true rfl) (Nat.le_of_ble_eq_true rfl) (by omega) (k_Symbols_find_8 (by omega) hI ) ?_
    rintro _ _ ⟨z17, rfl, g13, rfl⟩
    refine k_run 0 (pc' := 27) (l' := [(0, .inr (.inr 361)), (1, .inl a)]) (st' := [.inl z17]) rfl ?_
    refine k_run 2 (pc' := 29) (l' := [(0, .inr (.inr 361)), (1, .inl a), (2, .inl z17)]) (st' := [.inl z17]) rfl ?_
    refine h_zge (off := 9) (t := 38) rfl rfl (by omega) (fun c18 => ?_) (fun c18 => ?_)
    · refine k_run 0 (pc' := 38) (l' := [(0, .inr (.inr 361)), (1, .inl a), (2, .inl z17)]) (st' := []) rfl ?_
      refine k_run 6 (pc' := 50) (l' := [(0, .inr (.inr 361)), (1, .inl a), (2, .inl z17)]) (st' := [.inl z17, .inl a, .inr (.inr 20)]) rfl ?_
      refine k_ist (z := z17) (c := 20) (j := (a).toNat) (i := a) (x := kx_20) rfl rfl (by decide) (by decide) rfl (by decide) (by omega) (by omega) hI (by omega) (show -2 ≤ z17 ∧ z17 ≤ 100 by omega) (fun H19 hI20 hw21 hv22 => ?_)
      have hf23 : fq [(361, 3), (361, 4), (361, 5)] [20] false H H19 := fq_w (fq_rf _ _ _ _) hw21 (fpa (by decide) rfl)
      refine k_run 0 (pc' := 51) (l' := [(0, .inr (.inr 361)), (1, .inl a), (2, .inl z17)]) (st' := []) rfl ?_
      refine k_run 3 (pc' := 56) (l' := [(0, .inr (.inr 361)), (1, .inl a), (2, .inl z17)]) (st' := [.inl (H19.1 361 3), .inr (.inr 361)]) rfl ?_
      have g24 : -2147483648 ≤ (H19.1 361 3) ∧ (H19.1 361 3) ≤ 2147483647 := kn (x := kx_361) hI20 rfl 3
      have e25 : (H19.1 361 3) = (H.1 361 3) := hw21.2 _ _ (fun q => absurd q.1 (by decide))
      refine k_run 2 (pc' := 58) (l' := [(0, .inr (.inr 361)), (1, .inl a), (2, .inl z17)]) (st' := [.inl ((H19.1 361 3) + 1), .inr (.inr 361)]) rfl ?_
      refine k_putw (a := 361) (x := kx_361) rfl rfl rfl (by decide) (by decide) rfl rfl rfl rfl hI20 rfl (fun H26 hI27 hw28 => ?_)
      have hf30 : fq [(361, 3), (361, 4), (361, 5)] [20] false H H26 := fq_w hf23 hw28 (fpo (by decide) rfl)
      refine k_run 0 (pc' := 61) (l' := [(0, .inr (.inr 361)), (1, .inl a), (2, .inl z17)]) (st' := []) rfl ?_
      refine k_run 1 (pc' := 62) (l' := [(0, .inr (.inr 361)), (1, .inl a), (2, .inl z17)]) (st' := [.inl 1]) rfl ?_
      refine h_retz (x := 1) rfl rfl (by decide) ?_
      have g31 : -2147483648 ≤ (H26.1 361 4) ∧ (H26.1 361 4) ≤ 2147483647 := kn (x := kx_361) hI27 rfl 4
      have e32 : (H26.1 361 4) = (H19.1 361 4) := hw28.2 _ _ (fun q => absurd q.2 (by decide))
      have e33 : (H19.1 361 4) = (H.1 361 4) := hw21.2 _ _ (fun q => absurd q.1 (by decide))
      exact ⟨_, rfl, (by omega), hI27, hf30⟩
    · refine k_run 0 (pc' := 32) (l' := [(0, .inr (.inr 361)), (1, .inl a), (2, .inl z17)]) (st' := []) rfl ?_
      refine k_run 2 (pc' := 34) (l' := [(0, .inr (.inr 361)), (1, .inl a), (2, .inl z17)]) (st' := [.inl 3, .inr (.inr 361)]) rfl ?_
      have g34 : -2147483648 ≤ (H.1 361 4) ∧ (H.1 361 4) ≤ 2147483647 := kn (x := kx_361) hI rfl 4
      refine h_cv (i := 128) (j := 86) (b := 361) (M' := mt_86) (xs := [.inl 3]) (rest := []) rfl rfl rfl rfl (zs_K (x := kx_361) rfl (by decide)) rfl (Nat.le_of_ble_eq_true rfl) (Nat.le_of_ble_eq_true rfl) (by omega) (f_Reader_fails (by omega) hI (by decide)) ?_
      rintro _ H36 ⟨z39, rfl, g35, hI37, hq38⟩
      have hf40 : fq [(361, 3), (361, 4), (361, 5)] [20] false H H36 := fq_t (fq_rf _ _ _ _) hq38 rfl rfl rfl
      refine k_run 0 (pc' := 37) (l' := [(0, .inr (.inr 361)), (1, .inl a), (2, .inl z17)]) (st' := [.inl z39]) rfl ?_
      refine h_retz (x := z39) rfl rfl (by omega) ?_
      have g41 : -2147483648 ≤ (H36.1 361 4) ∧ (H36.1 361 4) ≤ 2147483647 := kn (x := kx_361) hI37 rfl 4
      exact ⟨_, rfl, (by omega), hI37, hf40⟩
  · refine k_run 0 (pc' := 8) (l' := [(0, .inr (.inr 361)), (1, .inl a)]) (st' := []) rfl ?_
    refine k_run 1 (pc' := 9) (l' := [(0, .inr (.inr 361)), (1, .inl a)]) (st' := [.inr (.inr 361)]) rfl ?_
    have g42 : -2147483648 ≤ (H.1 361 4) ∧ (H.1 361 4) ≤ 2147483647 := kn (x := kx_361) hI rfl 4
    refine h_cv (i := 89) (j := 85) (b := 361) (M' := mt_85) (xs := []) (rest := []) rfl rfl rfl rfl (zs_K (x := kx_361) rfl (by decide)) rfl (Nat.le_of_ble_eq_true rfl) (Nat.le_of_ble_eq_true rfl) (by omega) (f_Reader_misplaced (by omega) hI ) ?_
    rintro _ H44 ⟨z47, rfl, g43, hI45, hq46⟩
    have hf48 : fq [(361, 3), (361, 4), (361, 5)] [20] false H H44 := fq_t (fq_rf _ _ _ _) hq46 rfl rfl rfl
    refine k_run 0 (pc' := 12) (l' := [(0, .inr (.inr 361)), (1, .inl a)]) (st' := [.inl z47]) rfl ?_
    refine h_retz (x := z47) rfl rfl (by omega) ?_
    have g49 : -2147483648 ≤ (H44.1 361 4) ∧ (H44.1 361 4) ≤ 2147483647 := kn (x := kx_361) hI45 rfl 4
    exact ⟨_, rfl, (by omega), hI45, hf48⟩

/-! Reader.readConstructor -/
set_option maxRecDepth 100000 in
theorem f_Reader_readConstructor_cut {d : Nat} (hd : 4 ≤ d) {H : hp} (hI : Inv H) {a : Int} (ha : -2147483648 ≤ a ∧ a ≤ 2147483647) (hp0 : -2 ≤ a ∧ a ≤ 100) : ∀ w : Nat, (∀ (H1 : hp), Inv H1 → fq [(13, 4), (361, 3), (361, 4), (361, 5)] [14, 15, 16, 17] false H H1 → ∀ (x2 : Int) , (-2147483648 ≤ x2 ∧ x2 ≤ 2147483647) → (0 ≤ x2 ∧ x2 ≤ 4) → (H1.1 361 4 = H.1 361 4) → (((10 - x2).toNat) < w) → hG (zs zK) d mt_65 20 [(0, .inr (.inr 361)), (1, .inl a), (2, .inl x2)] [] H1 (fun r9 H9 => ∃ z : Int, r9 = some (.inl z) ∧ ((0 ≤ z ∧ z ≤ 1) ∧ ((z = 0 ∨ H9.1 361 4 = H.1 361 4))) ∧ Inv H9 ∧ fq [(13, 4), (361, 3), (361, 4), (361, 5)] [14, 15, 16, 17] false H H9)) := by
  intro w
  induction w with
  | zero => exact fun _ _ _ _ _ _ _ h => absurd h (Nat.not_lt_zero _)
  | succ w ih =>
    intro H1 hI1 hf1 x2 hx2 hi0 hi1 hw
    have g11 : -2147483648 ≤ (H1.1 361 4) ∧ (H1.1 361 4) ≤ 2147483647 := kn (x := kx_361) hI1 rfl 4
    refine k_run 2 (pc' := 22) (l' := [(0, .inr (.inr 361)), (1, .inl a), (2, .inl x2)]) (st' := [.inl 3, .inl x2]) rfl ?_
    refine h_igt (off := 74) (t := 96) rfl rfl (by omega) (by decide) (fun c12 => ?_) (fun c12 => ?_)
    · refine k_run 0 (pc' := 96) (l' := [(0, .inr (.inr 361)), (1, .inl a), (2, .inl x2)]) (st' := []) rfl ?_
      refine k_run 1 (pc' := 97) (l' := [(0, .inr (.inr 361)), (1, .inl a), (2, .inl x2)]) (st' := [.inl 1]) rfl ?_
      refine h_retz (x := 1) rfl rfl (by decide) ?_
      exact ⟨_, rfl, (by omega), hI1, hf1⟩
    · refine k_run 0 (pc' := 25) (l' := [(0, .inr (.inr 361)), (1, .inl a), (2, .inl x2)]) (st' := []) rfl ?_
      refine k_run 1 (pc' := 26) (l' := [(0, .inr (.inr 361)), (1, .inl a), (2, .inl x2)]) (st' := [.inr (.inr 361)]) rfl ?_
      refine h_cv (i := 72) (j := 83) (b := 361) (M' := mt_83) (xs := []) (rest := []) rfl rfl rfl rfl (zs_K (x := kx_361) rfl (by decide)) rfl (Nat.le_of_ble_eq_true rfl) (Nat.le_of_ble_eq_true rfl) (by omega) (f_Reader_token (by omega) hI1 ) ?_
      rintro _ _ ⟨z17, rfl, g13, rfl⟩
      refine k_run 0 (pc' := 29) (l' := [(0, .inr (.inr 361)), (1, .inl a), (2, .inl x2)]) (st' := [.inl z17]) rfl ?_
      refine k_run 1 (pc' := 30) (l' := [(0, .inr (.inr 361)), (1, .inl a), (2, .inl x2)]) (st' := [.inl 3, .inl z17]) rfl ?_
      refine h_ine (off := 66) (t := 96) rfl rfl (by omega) (by decide) (fun c18 => ?_) (fun c18 => ?_)
      · refine k_run 0 (pc' := 96) (l' := [(0, .inr (.inr 361)), (1, .inl a), (2, .inl x2)]) (st' := []) rfl ?_
        refine k_run 1 (pc' := 97) (l' := [(0, .inr (.inr 361)), (1, .inl a), (2, .inl x2)]) (st' := [.inl 1]) rfl ?_
        refine h_retz (x := 1) rfl rfl (by decide) ?_
        exact ⟨_, rfl, (by omega), hI1, hf1⟩
      · refine k_run 0 (pc' := 33) (l' := [(0, .inr (.inr 361)), (1, .inl a), (2, .inl x2)]) (st' := []) rfl ?_
        refine k_run 4 (pc' := 41) (l' := [(0, .inr (.inr 361)), (1, .inl a), (2, .inl x2)]) (st' := [.inr (.inr 361), .inr (.inr 8)]) rfl ?_
        refine h_cv (i := 120) (j := 84) (b := 361) (M' := mt_84) (xs := []) (rest := [.inr (.inr 8)]) rfl rfl rfl rfl (zs_K (x := kx_361) rfl (by decide)) rfl (Nat.le_of_ble_eq_true rfl) (Nat.le_of_ble_eq_true rfl) (by omega) (f_Reader_name (by omega) hI1 ) ?_
        rintro _ _ ⟨z23, rfl, g19, rfl⟩
        refine k_run 0 (pc' := 44) (l' := [(0, .inr (.inr 361)), (1, .inl a), (2, .inl x2)]) (st' := [.inr (.inl z23), .inr (.inr 8)]) rfl ?_
        have g24 : 0 ≤ (H1.1 8 4) ∧ (H1.1 8 4) ≤ 6 := kn (x := kx_8) hI1 rfl 4
        have e25 : (H1.1 8 4) = (H.1 8 4) := (hf1.1 8 4 rfl (by decide) (by decide)).1
        refine h_cv (i := 124) (j := 41) (b := 8) (M' := mt_41) (xs := [.inr (.inl z23)]) (rest := []) rfl rfl rfl rfl (zs_K (x := kx_8) rfl (by decide)) rfl (Nat.le_of_ble_eq_true rfl) (Nat.le_of_ble_eq_true rfl) (by omega) (k_Symbols_find_8 (by omega) hI1 ) ?_
        rintro _ _ ⟨z30, rfl, g26, rfl⟩
        refine k_run 0 (pc' := 47) (l' := [(0, .inr (.inr 361)), (1, .inl a), (2, .inl x2)]) (st' := [.inl z30]) rfl ?_
        refine k_run 2 (pc' := 49) (l' := [(0, .inr (.inr 361)), (1, .inl a), (2, .inl x2), (3, .inl z30)]) (st' := [.inl z30]) rfl ?_
        refine h_zge (off := 9) (t := 58) rfl rfl (by omega) (fun c31 => ?_) (fun c31 => ?_)
        · refine k_run 0 (pc' := 58) (l' := [(0, .inr (.inr 361)), (1, .inl a), (2, .inl x2), (3, .inl z30)]) (st' := []) rfl ?_
          refine k_run 2 (pc' := 60) (l' := [(0, .inr (.inr 361)), (1, .inl a), (2, .inl x2), (3, .inl z30)]) (st' := [.inl 3, .inl x2]) rfl ?_
          refine h_ine (off := 9) (t := 69) rfl rfl (by omega) (by decide) (fun c32 => ?_) (fun c32 => ?_)
          · refine k_run 0 (pc' := 69) (l' := [(0, .inr (.inr 361)), (1, .inl a), (2, .inl x2), (3, .inl z30)]) (st' := []) rfl ?_
            refine k_run 4 (pc' := 77) (l' := [(0, .inr (.inr 361)), (1, .inl a), (2, .inl x2), (3, .inl z30)]) (st' := [.inl z30, .inr (.inr 13)]) rfl ?_
            refine h_cv (i := 131) (j := 44) (b := 13) (M' := mt_44) (xs := [.inl z30]) (rest := []) rfl rfl rfl rfl (zs_K (x := kx_13) rfl (by decide)) rfl (Nat.le_of_ble_eq_true rfl) (Nat.le_of_ble_eq_true rfl) (by omega) (k_Symbols_addArgument_13 (by omega) hI1 (by omega) (by omega)) ?_
            rintro _ H34 ⟨rfl, hI35, hq36⟩
            have hf37 : fq [(13, 4), (361, 3), (361, 4), (361, 5)] [14, 15, 16, 17] false H H34 := fq_t hf1 hq36 rfl rfl rfl
            refine k_run 0 (pc' := 80) (l' := [(0, .inr (.inr 361)), (1, .inl a), (2, .inl x2), (3, .inl z30)]) (st' := []) rfl ?_
            refine k_run 3 (pc' := 85) (l' := [(0, .inr (.inr 361)), (1, .inl a), (2, .inl x2), (3, .inl z30)]) (st' := [.inl (H34.1 361 3), .inr (.inr 361)]) rfl ?_
            have g38 : -2147483648 ≤ (H34.1 361 3) ∧ (H34.1 361 3) ≤ 2147483647 := kn (x := kx_361) hI35 rfl 3
            have e39 : (H34.1 361 3) = (H1.1 361 3) := (hq36.1 361 3 rfl (by decide) (by decide)).1
            refine k_run 2 (pc' := 87) (l' := [(0, .inr (.inr 361)), (1, .inl a), (2, .inl x2), (3, .inl z30)]) (st' := [.inl ((H34.1 361 3) + 1), .inr (.inr 361)]) rfl ?_
            refine k_putw (a := 361) (x := kx_361) rfl rfl rfl (by decide) (by decide) rfl rfl rfl rfl hI35 rfl (fun H40 hI41 hw42 => ?_)
            have hf44 : fq [(13, 4), (361, 3), (361, 4), (361, 5)] [14, 15, 16, 17] false H H40 := fq_w hf37 hw42 (fpo (by decide) rfl)
            refine k_run 0 (pc' := 90) (l' := [(0, .inr (.inr 361)), (1, .inl a), (2, .inl x2), (3, .inl z30)]) (st' := []) rfl ?_
            refine k_run 2 (pc' := 20) (l' := [(0, .inr (.inr 361)), (1, .inl a), (2, .inl (x2 + 1)), (3, .inl z30)]) (st' := []) rfl ?_
            have g45 : -2147483648 ≤ (H40.1 361 4) ∧ (H40.1 361 4) ≤ 2147483647 := kn (x := kx_361) hI41 rfl 4
            have e46 : (H40.1 361 4) = (H34.1 361 4) := hw42.2 _ _ (fun q => absurd q.2 (by decide))
            have e47 : (H34.1 361 4) = (H1.1 361 4) := (hq36.1 361 4 rfl (by decide) (by decide)).1
            refine h_loc [0, 1, 2] rfl ?_
            exact ih H40 hI41 hf44 (x2 + 1) (by omega) (by omega) (by omega) (by omega)
          · refine k_run 0 (pc' := 63) (l' := [(0, .inr (.inr 361)), (1, .inl a), (2, .inl x2), (3, .inl z30)]) (st' := []) rfl ?_
            refine k_run 2 (pc' := 65) (l' := [(0, .inr (.inr 361)), (1, .inl a), (2, .inl x2), (3, .inl z30)]) (st' := [.inl 5, .inr (.inr 361)]) rfl ?_
            refine h_cv (i := 128) (j := 86) (b := 361) (M' := mt_86) (xs := [.inl 5]) (rest := []) rfl rfl rfl rfl (zs_K (x := kx_361) rfl (by decide)) rfl (Nat.le_of_ble_eq_true rfl) (Nat.le_of_ble_eq_true rfl) (by omega) (f_Reader_fails (by omega) hI1 (by decide)) ?_
            rintro _ H49 ⟨z52, rfl, g48, hI50, hq51⟩
            have hf53 : fq [(13, 4), (361, 3), (361, 4), (361, 5)] [14, 15, 16, 17] false H H49 := fq_t hf1 hq51 rfl rfl rfl
            refine k_run 0 (pc' := 68) (l' := [(0, .inr (.inr 361)), (1, .inl a), (2, .inl x2), (3, .inl z30)]) (st' := [.inl z52]) rfl ?_
            refine h_retz (x := z52) rfl rfl (by omega) ?_
            have g54 : -2147483648 ≤ (H49.1 361 4) ∧ (H49.1 361 4) ≤ 2147483647 := kn (x := kx_361) hI50 rfl 4
            exact ⟨_, rfl, (by omega), hI50, hf53⟩
        · refine k_run 0 (pc' := 52) (l' := [(0, .inr (.inr 361)), (1, .inl a), (2, .inl x2), (3, .inl z30)]) (st' := []) rfl ?_
          refine k_run 2 (pc' := 54) (l' := [(0, .inr (.inr 361)), (1, .inl a), (2, .inl x2), (3, .inl z30)]) (st' := [.inl 3, .inr (.inr 361)]) rfl ?_
          refine h_cv (i := 128) (j := 86) (b := 361) (M' := mt_86) (xs := [.inl 3]) (rest := []) rfl rfl rfl rfl (zs_K (x := kx_361) rfl (by decide)) rfl (Nat.le_of_ble_eq_true rfl) (Nat.le_of_ble_eq_true rfl) (by omega) (f_Reader_fails (by omega) hI1 (by decide)) ?_
          rintro _ H56 ⟨z59, rfl, g55, hI57, hq58⟩
          have hf60 : fq [(13, 4), (361, 3), (361, 4), (361, 5)] [14, 15, 16, 17] false H H56 := fq_t hf1 hq58 rfl rfl rfl
          refine k_run 0 (pc' := 57) (l' := [(0, .inr (.inr 361)), (1, .inl a), (2, .inl x2), (3, .inl z30)]) (st' := [.inl z59]) rfl ?_
          refine h_retz (x := z59) rfl rfl (by omega) ?_
          have g61 : -2147483648 ≤ (H56.1 361 4) ∧ (H56.1 361 4) ≤ 2147483647 := kn (x := kx_361) hI57 rfl 4
          exact ⟨_, rfl, (by omega), hI57, hf60⟩
set_option maxRecDepth 100000 in
theorem f_Reader_readConstructor {d : Nat} (hd : 4 ≤ d) {H : hp} (hI : Inv H) {a : Int} (ha : -2147483648 ≤ a ∧ a ≤ 2147483647) (hp0 : -2 ≤ a ∧ a ≤ 100) : hG (zs zK) d mt_65 0 (zargs 0 [.inr (.inr 361), .inl a]) [] H (fun r9 H9 => ∃ z : Int, r9 = some (.inl z) ∧ ((0 ≤ z ∧ z ≤ 1) ∧ ((z = 0 ∨ H9.1 361 4 = H.1 361 4))) ∧ Inv H9 ∧ fq [(13, 4), (361, 3), (361, 4), (361, 5)] [14, 15, 16, 17] false H H9) := by
  refine k_run 0 (pc' := 0) (l' := [(0, .inr (.inr 361)), (1, .inl a)]) (st' := []) rfl ?_
  refine k_run 6 (pc' := 10) (l' := [(0, .inr (.inr 361)), (1, .inl a)]) (st' := [.inl a, .inl 3, .inr (.inr 13), .inr (.inr 361)]) rfl ?_
  have g1 : -2147483648 ≤ (H.1 361 4) ∧ (H.1 361 4) ≤ 2147483647 := kn (x := kx_361) hI rfl 4
  refine h_cv (i := 113) (j := 78) (b := 361) (M' := mt_78) (xs := [.inl a, .inl 3, .inr (.inr 13)]) (rest := []) rfl rfl rfl rfl (zs_K (x := kx_361) rfl (by decide)) rfl (Nat.le_of_ble_eq_true rfl) (Nat.le_of_ble_eq_true rfl) (by omega) (f_Reader_tellName_13 (by omega) hI (by decide) (by omega) (by omega)) ?_
  rintro _ H3 ⟨z6, rfl, g2, hI4, hq5⟩
  have hf7 : fq [(13, 4), (361, 3), (361, 4), (361, 5)] [14, 15, 16, 17] false H H3 := fq_t (fq_rf _ _ _ _) hq5 rfl rfl rfl
  refine k_run 0 (pc' := 13) (l' := [(0, .inr (.inr 361)), (1, .inl a)]) (st' := [.inl z6]) rfl ?_
  refine h_zne (off := 5) (t := 18) rfl rfl (by omega) (fun c8 => ?_) (fun c8 => ?_)
  · refine k_run 0 (pc' := 18) (l' := [(0, .inr (.inr 361)), (1, .inl a)]) (st' := []) rfl ?_
    refine k_run 2 (pc' := 20) (l' := [(0, .inr (.inr 361)), (1, .inl a), (2, .inl 0)]) (st' := []) rfl ?_
    have g9 : -2147483648 ≤ (H3.1 361 4) ∧ (H3.1 361 4) ≤ 2147483647 := kn (x := kx_361) hI4 rfl 4
    exact (f_Reader_readConstructor_cut hd hI ha hp0 _) H3 hI4 hf7 (0 : Int) (by decide) (by omega) (by omega) (Nat.lt_succ_self _)
  · refine k_run 0 (pc' := 16) (l' := [(0, .inr (.inr 361)), (1, .inl a)]) (st' := []) rfl ?_
    refine k_run 1 (pc' := 17) (l' := [(0, .inr (.inr 361)), (1, .inl a)]) (st' := [.inl 0]) rfl ?_
    refine h_retz (x := 0) rfl rfl (by decide) ?_
    have g10 : -2147483648 ≤ (H3.1 361 4) ∧ (H3.1 361 4) ≤ 2147483647 := kn (x := kx_361) hI4 rfl 4
    exact ⟨_, rfl, (by omega), hI4, hf7⟩

/-! Reader.readData -/
set_option maxRecDepth 100000 in
theorem f_Reader_readData_cut {d : Nat} (hd : 5 ≤ d) {H : hp} (hI : Inv H)   : ∀ w : Nat, (∀ (H1 : hp), Inv H1 → fq [(8, 4), (13, 4), (361, 3), (361, 4), (361, 5)] [9, 10, 11, 14, 15, 16, 17] false H H1 → ∀ (x1 : Int) (x2 : Int) (x3 : Int) , (-2147483648 ≤ x1 ∧ x1 ≤ 2147483647) → (-2147483648 ≤ x2 ∧ x2 ≤ 2147483647) → (-2147483648 ≤ x3 ∧ x3 ≤ 2147483647) → (0 ≤ x3 ∧ x3 ≤ 17) → (0 ≤ x2 ∧ x2 ≤ 1) → (-2 ≤ x1 ∧ x1 ≤ 100) → ((x2 = 0 ∨ H1.1 361 4 = H.1 361 4)) → (((100 - x3).toNat) < w) → hG (zs zK) d mt_64 58 [(0, .inr (.inr 361)), (1, .inl x1), (2, .inl x2), (3, .inl x3)] [] H1 (fun r9 H9 => ∃ z : Int, r9 = some (.inl z) ∧ ((0 ≤ z ∧ z ≤ 1) ∧ ((z = 0 ∨ H9.1 361 4 = H.1 361 4))) ∧ Inv H9 ∧ fq [(8, 4), (13, 4), (361, 3), (361, 4), (361, 5)] [9, 10, 11, 14, 15, 16, 17] false H H9)) := by
  intro w
  induction w with
  | zero => exact fun _ _ _ _ _ _ _ _ _ _ _ _ _ h => absurd h (Nat.not_lt_zero _)
  | succ w ih =>
    intro H1 hI1 hf1 x1 x2 x3 hx1 hx2 hx3 hi0 hi1 hi2 hi3 hw
    have g36 : -2147483648 ≤ (H1.1 361 4) ∧ (H1.1 361 4) ≤ 2147483647 := kn (x := kx_361) hI1 rfl 4
    refine k_run 1 (pc' := 59) (l' := [(0, .inr (.inr 361)), (1, .inl x1), (2, .inl x2), (3, .inl x3)]) (st' := [.inl x2]) rfl ?_
    refine h_zeq (off := 40) (t := 99) rfl rfl (by omega) (fun c37 => ?_) (fun c37 => ?_)
    · refine k_run 0 (pc' := 99) (l' := [(0, .inr (.inr 361)), (1, .inl x1), (2, .inl x2), (3, .inl x3)]) (st' := []) rfl ?_
      refine k_run 1 (pc' := 100) (l' := [(0, .inr (.inr 361)), (1, .inl x1), (2, .inl x2), (3, .inl x3)]) (st' := [.inl x2]) rfl ?_
      refine h_retz (x := x2) rfl rfl (by omega) ?_
      exact ⟨_, rfl, (by omega), hI1, hf1⟩
    · refine k_run 0 (pc' := 62) (l' := [(0, .inr (.inr 361)), (1, .inl x1), (2, .inl x2), (3, .inl x3)]) (st' := []) rfl ?_
      refine k_run 2 (pc' := 65) (l' := [(0, .inr (.inr 361)), (1, .inl x1), (2, .inl x2), (3, .inl x3)]) (st' := [.inl 16, .inl x3]) rfl ?_
      refine h_igt (off := 34) (t := 99) rfl rfl (by omega) (by decide) (fun c38 => ?_) (fun c38 => ?_)
      · refine k_run 0 (pc' := 99) (l' := [(0, .inr (.inr 361)), (1, .inl x1), (2, .inl x2), (3, .inl x3)]) (st' := []) rfl ?_
        refine k_run 1 (pc' := 100) (l' := [(0, .inr (.inr 361)), (1, .inl x1), (2, .inl x2), (3, .inl x3)]) (st' := [.inl x2]) rfl ?_
        refine h_retz (x := x2) rfl rfl (by omega) ?_
        exact ⟨_, rfl, (by omega), hI1, hf1⟩
      · refine k_run 0 (pc' := 68) (l' := [(0, .inr (.inr 361)), (1, .inl x1), (2, .inl x2), (3, .inl x3)]) (st' := []) rfl ?_
        refine k_run 1 (pc' := 69) (l' := [(0, .inr (.inr 361)), (1, .inl x1), (2, .inl x2), (3, .inl x3)]) (st' := [.inr (.inr 361)]) rfl ?_
        refine h_cv (i := 72) (j := 83) (b := 361) (M' := mt_83) (xs := []) (rest := []) rfl rfl rfl rfl (zs_K (x := kx_361) rfl (by decide)) rfl (Nat.le_of_ble_eq_true rfl) (Nat.le_of_ble_eq_true rfl) (by omega) (f_Reader_token (by omega) hI1 ) ?_
        rintro _ _ ⟨z43, rfl, g39, rfl⟩
        refine k_run 0 (pc' := 72) (l' := [(0, .inr (.inr 361)), (1, .inl x1), (2, .inl x2), (3, .inl x3)]) (st' := [.inl z43]) rfl ?_
        refine k_run 1 (pc' := 74) (l' := [(0, .inr (.inr 361)), (1, .inl x1), (2, .inl x2), (3, .inl x3)]) (st' := [.inl 124, .inl z43]) rfl ?_
        refine h_ine (off := 25) (t := 99) rfl rfl (by omega) (by decide) (fun c44 => ?_) (fun c44 => ?_)
        · refine k_run 0 (pc' := 99) (l' := [(0, .inr (.inr 361)), (1, .inl x1), (2, .inl x2), (3, .inl x3)]) (st' := []) rfl ?_
          refine k_run 1 (pc' := 100) (l' := [(0, .inr (.inr 361)), (1, .inl x1), (2, .inl x2), (3, .inl x3)]) (st' := [.inl x2]) rfl ?_
          refine h_retz (x := x2) rfl rfl (by omega) ?_
          exact ⟨_, rfl, (by omega), hI1, hf1⟩
        · refine k_run 0 (pc' := 77) (l' := [(0, .inr (.inr 361)), (1, .inl x1), (2, .inl x2), (3, .inl x3)]) (st' := []) rfl ?_
          refine k_run 3 (pc' := 82) (l' := [(0, .inr (.inr 361)), (1, .inl x1), (2, .inl x2), (3, .inl x3)]) (st' := [.inl (H1.1 361 3), .inr (.inr 361)]) rfl ?_
          have g45 : -2147483648 ≤ (H1.1 361 3) ∧ (H1.1 361 3) ≤ 2147483647 := kn (x := kx_361) hI1 rfl 3
          refine k_run 2 (pc' := 84) (l' := [(0, .inr (.inr 361)), (1, .inl x1), (2, .inl x2), (3, .inl x3)]) (st' := [.inl ((H1.1 361 3) + 1), .inr (.inr 361)]) rfl ?_
          refine k_putw (a := 361) (x := kx_361) rfl rfl rfl (by decide) (by decide) rfl rfl rfl rfl hI1 rfl (fun H46 hI47 hw48 => ?_)
          have hf50 : fq [(8, 4), (13, 4), (361, 3), (361, 4), (361, 5)] [9, 10, 11, 14, 15, 16, 17] false H H46 := fq_w hf1 hw48 (fpo (by decide) rfl)
          refine k_run 0 (pc' := 87) (l' := [(0, .inr (.inr 361)), (1, .inl x1), (2, .inl x2), (3, .inl x3)]) (st' := []) rfl ?_
          refine k_run 2 (pc' := 89) (l' := [(0, .inr (.inr 361)), (1, .inl x1), (2, .inl x2), (3, .inl x3)]) (st' := [.inl x1, .inr (.inr 361)]) rfl ?_
          have g51 : -2147483648 ≤ (H46.1 361 4) ∧ (H46.1 361 4) ≤ 2147483647 := kn (x := kx_361) hI47 rfl 4
          have e52 : (H46.1 361 4) = (H1.1 361 4) := hw48.2 _ _ (fun q => absurd q.2 (by decide))
          refine h_cv (i := 117) (j := 65) (b := 361) (M' := mt_65) (xs := [.inl x1]) (rest := []) rfl rfl rfl rfl (zs_K (x := kx_361) rfl (by decide)) rfl (Nat.le_of_ble_eq_true rfl) (Nat.le_of_ble_eq_true rfl) (by omega) (f_Reader_readConstructor (by omega) hI47 (by omega) (by omega)) ?_
          rintro _ H54 ⟨z57, rfl, g53, hI55, hq56⟩
          have hf58 : fq [(8, 4), (13, 4), (361, 3), (361, 4), (361, 5)] [9, 10, 11, 14, 15, 16, 17] false H H54 := fq_t hf50 hq56 rfl rfl rfl
          refine k_run 0 (pc' := 92) (l' := [(0, .inr (.inr 361)), (1, .inl x1), (2, .inl x2), (3, .inl x3)]) (st' := [.inl z57]) rfl ?_
          refine k_run 3 (pc' := 58) (l' := [(0, .inr (.inr 361)), (1, .inl x1), (2, .inl z57), (3, .inl (x3 + 1))]) (st' := []) rfl ?_
          have g59 : -2147483648 ≤ (H54.1 361 4) ∧ (H54.1 361 4) ≤ 2147483647 := kn (x := kx_361) hI55 rfl 4
          exact ih H54 hI55 hf58 x1 z57 (x3 + 1) (by omega) (by omega) (by omega) (by omega) (by omega) (by omega) (by omega) (by omega)
set_option maxRecDepth 100000 in
theorem f_Reader_readData {d : Nat} (hd : 5 ≤ d) {H : hp} (hI : Inv H)   : hG (zs zK) d mt_64 0 (zargs 0 [.inr (.inr 361)]) [] H (fun r9 H9 => ∃ z : Int, r9 = some (.inl z) ∧ ((0 ≤ z ∧ z ≤ 1) ∧ ((z = 0 ∨ H9.1 361 4 = H.1 361 4))) ∧ Inv H9 ∧ fq [(8, 4), (13, 4), (361, 3), (361, 4), (361, 5)] [9, 10, 11, 14, 15, 16, 17] false H H9) := by
  refine k_run 0 (pc' := 0) (l' := [(0, .inr (.inr 361))]) (st' := []) rfl ?_
  refine k_run 3 (pc' := 5) (l' := [(0, .inr (.inr 361))]) (st' := [.inl (H.1 361 3), .inr (.inr 361)]) rfl ?_
  have g1 : -2147483648 ≤ (H.1 361 3) ∧ (H.1 361 3) ≤ 2147483647 := kn (x := kx_361) hI rfl 3
  refine k_run 2 (pc' := 7) (l' := [(0, .inr (.inr 361))]) (st' := [.inl ((H.1 361 3) + 1), .inr (.inr 361)]) rfl ?_
  refine k_putw (a := 361) (x := kx_361) rfl rfl rfl (by decide) (by decide) rfl rfl rfl rfl hI rfl (fun H2 hI3 hw4 => ?_)
  have hf6 : fq [(8, 4), (13, 4), (361, 3), (361, 4), (361, 5)] [9, 10, 11, 14, 15, 16, 17] false H H2 := fq_w (fq_rf _ _ _ _) hw4 (fpo (by decide) rfl)
  refine k_run 0 (pc' := 10) (l' := [(0, .inr (.inr 361))]) (st' := []) rfl ?_
  refine k_run 6 (pc' := 20) (l' := [(0, .inr (.inr 361))]) (st' := [.inl (-1), .inl 3, .inr (.inr 8), .inr (.inr 361)]) rfl ?_
  have g7 : -2147483648 ≤ (H2.1 361 4) ∧ (H2.1 361 4) ≤ 2147483647 := kn (x := kx_361) hI3 rfl 4
  have e8 : (H2.1 361 4) = (H.1 361 4) := hw4.2 _ _ (fun q => absurd q.2 (by decide))
  refine h_cv (i := 113) (j := 78) (b := 361) (M' := mt_78) (xs := [.inl (-1), .inl 3, .inr (.inr 8)]) (rest := []) rfl rfl rfl rfl (zs_K (x := kx_361) rfl (by decide)) rfl (Nat.le_of_ble_eq_true rfl) (Nat.le_of_ble_eq_true rfl) (by omega) (f_Reader_tellName_8 (by omega) hI3 (by decide) (by decide) (by omega)) ?_
  rintro _ H10 ⟨z13, rfl, g9, hI11, hq12⟩
  have hf14 : fq [(8, 4), (13, 4), (361, 3), (361, 4), (361, 5)] [9, 10, 11, 14, 15, 16, 17] false H H10 := fq_t hf6 hq12 rfl rfl rfl
  refine k_run 0 (pc' := 23) (l' := [(0, .inr (.inr 361))]) (st' := [.inl z13]) rfl ?_
  refine h_zeq (off := 12) (t := 35) rfl rfl (by omega) (fun c15 => ?_) (fun c15 => ?_)
  · refine k_run 0 (pc' := 35) (l' := [(0, .inr (.inr 361))]) (st' := []) rfl ?_
    refine k_run 1 (pc' := 36) (l' := [(0, .inr (.inr 361))]) (st' := [.inl 0]) rfl ?_
    refine h_retz (x := 0) rfl rfl (by decide) ?_
    have g16 : -2147483648 ≤ (H10.1 361 4) ∧ (H10.1 361 4) ≤ 2147483647 := kn (x := kx_361) hI11 rfl 4
    exact ⟨_, rfl, (by omega), hI11, hf14⟩
  · refine k_run 0 (pc' := 26) (l' := [(0, .inr (.inr 361))]) (st' := []) rfl ?_
    refine k_run 2 (pc' := 29) (l' := [(0, .inr (.inr 361))]) (st' := [.inl 61, .inr (.inr 361)]) rfl ?_
    have g17 : -2147483648 ≤ (H10.1 361 4) ∧ (H10.1 361 4) ≤ 2147483647 := kn (x := kx_361) hI11 rfl 4
    refine h_cv (i := 92) (j := 82) (b := 361) (M' := mt_82) (xs := [.inl 61]) (rest := []) rfl rfl rfl rfl (zs_K (x := kx_361) rfl (by decide)) rfl (Nat.le_of_ble_eq_true rfl) (Nat.le_of_ble_eq_true rfl) (by omega) (f_Reader_take (by omega) hI11 (by decide)) ?_
    rintro _ H19 ⟨z22, rfl, g18, hI20, hq21⟩
    have hf23 : fq [(8, 4), (13, 4), (361, 3), (361, 4), (361, 5)] [9, 10, 11, 14, 15, 16, 17] false H H19 := fq_t hf14 hq21 rfl rfl rfl
    refine k_run 0 (pc' := 32) (l' := [(0, .inr (.inr 361))]) (st' := [.inl z22]) rfl ?_
    refine h_zne (off := 5) (t := 37) rfl rfl (by omega) (fun c24 => ?_) (fun c24 => ?_)
    · refine k_run 0 (pc' := 37) (l' := [(0, .inr (.inr 361))]) (st' := []) rfl ?_
      refine k_run 4 (pc' := 47) (l' := [(0, .inr (.inr 361))]) (st' := [.inl (H19.1 8 4)]) rfl ?_
      have g25 : 0 ≤ (H19.1 8 4) ∧ (H19.1 8 4) ≤ 6 := kn (x := kx_8) hI20 rfl 4
      have e26 : (H19.1 8 4) = (H10.1 8 4) := (hq21.1 8 4 rfl (by decide) (by decide)).1
      refine k_run 5 (pc' := 52) (l' := [(0, .inr (.inr 361)), (1, .inl ((H19.1 8 4) - 1))]) (st' := [.inl ((H19.1 8 4) - 1), .inr (.inr 361)]) rfl ?_
      have g27 : -2147483648 ≤ (H19.1 361 4) ∧ (H19.1 361 4) ≤ 2147483647 := kn (x := kx_361) hI20 rfl 4
      refine h_cv (i := 117) (j := 65) (b := 361) (M' := mt_65) (xs := [.inl ((H19.1 8 4) - 1)]) (rest := []) rfl rfl rfl rfl (zs_K (x := kx_361) rfl (by decide)) rfl (Nat.le_of_ble_eq_true rfl) (Nat.le_of_ble_eq_true rfl) (by omega) (f_Reader_readConstructor (by omega) hI20 (by omega) (by omega)) ?_
      rintro _ H29 ⟨z32, rfl, g28, hI30, hq31⟩
      have hf33 : fq [(8, 4), (13, 4), (361, 3), (361, 4), (361, 5)] [9, 10, 11, 14, 15, 16, 17] false H H29 := fq_t hf23 hq31 rfl rfl rfl
      refine k_run 0 (pc' := 55) (l' := [(0, .inr (.inr 361)), (1, .inl ((H19.1 8 4) - 1))]) (st' := [.inl z32]) rfl ?_
      refine k_run 3 (pc' := 58) (l' := [(0, .inr (.inr 361)), (1, .inl ((H19.1 8 4) - 1)), (2, .inl z32), (3, .inl 1)]) (st' := []) rfl ?_
      have g34 : -2147483648 ≤ (H29.1 361 4) ∧ (H29.1 361 4) ≤ 2147483647 := kn (x := kx_361) hI30 rfl 4
      exact (f_Reader_readData_cut hd hI  _) H29 hI30 hf33 ((H19.1 8 4) - 1) z32 (1 : Int) (by omega) (by omega) (by decide) (by omega) (by omega) (by omega) (by omega) (Nat.lt_succ_self _)
    · refine k_run 0 (pc' := 35) (l' := [(0, .inr (.inr 361))]) (st' := []) rfl ?_
      refine k_run 1 (pc' := 36) (l' := [(0, .inr (.inr 361))]) (st' := [.inl 0]) rfl ?_
      refine h_retz (x := 0) rfl rfl (by decide) ?_
      have g35 : -2147483648 ≤ (H19.1 361 4) ∧ (H19.1 361 4) ≤ 2147483647 := kn (x := kx_361) hI20 rfl 4
      exact ⟨_, rfl, (by omega), hI20, hf23⟩

/-! Reader.readFunction -/
set_option maxRecDepth 100000 in
theorem f_Reader_readFunction_cut {d : Nat} (hd : 4 ≤ d) {H : hp} (hI : Inv H)   : ∀ w : Nat, (∀ (H1 : hp), Inv H1 → fq [(18, 4), (361, 3), (361, 4), (361, 5)] [19, 20, 21, 22] false H H1 → ∀ (x1 : Int) (x2 : Int) (x3 : Int) , (-2147483648 ≤ x1 ∧ x1 ≤ 2147483647) → (-2147483648 ≤ x2 ∧ x2 ≤ 2147483647) → (-2147483648 ≤ x3 ∧ x3 ≤ 2147483647) → (0 ≤ x3 ∧ x3 ≤ 5) → (0 ≤ x2 ∧ x2 ≤ 1) → (x2 = 0 ∨ (0 ≤ x1 ∧ x1 < 16)) → ((x2 = 0 ∨ H1.1 361 4 = H.1 361 4)) → (((100 - x3).toNat) < w) → hG (zs zK) d mt_66 70 [(0, .inr (.inr 361)), (1, .inl x1), (2, .inl x2), (3, .inl x3)] [] H1 (fun r9 H9 => ∃ z : Int, r9 = some (.inl z) ∧ ((0 ≤ z ∧ z ≤ 1) ∧ ((z = 0 ∨ H9.1 361 4 = H.1 361 4))) ∧ Inv H9 ∧ fq [(18, 4), (361, 3), (361, 4), (361, 5)] [19, 20, 21, 22] false H H9)) := by
  intro w
  induction w with
  | zero => exact fun _ _ _ _ _ _ _ _ _ _ _ _ _ h => absurd h (Nat.not_lt_zero _)
  | succ w ih =>
    intro H1 hI1 hf1 x1 x2 x3 hx1 hx2 hx3 hi0 hi1 hi2 hi3 hw
    have g40 : -2147483648 ≤ (H1.1 361 4) ∧ (H1.1 361 4) ≤ 2147483647 := kn (x := kx_361) hI1 rfl 4
    refine k_run 1 (pc' := 71) (l' := [(0, .inr (.inr 361)), (1, .inl x1), (2, .inl x2), (3, .inl x3)]) (st' := [.inl x2]) rfl ?_
    refine h_zeq (off := 72) (t := 143) rfl rfl (by omega) (fun c41 => ?_) (fun c41 => ?_)
    · refine k_run 0 (pc' := 143) (l' := [(0, .inr (.inr 361)), (1, .inl x1), (2, .inl x2), (3, .inl x3)]) (st' := []) rfl ?_
      refine k_run 1 (pc' := 144) (l' := [(0, .inr (.inr 361)), (1, .inl x1), (2, .inl x2), (3, .inl x3)]) (st' := [.inl x2]) rfl ?_
      refine h_retz (x := x2) rfl rfl (by omega) ?_
      exact ⟨_, rfl, (by omega), hI1, hf1⟩
    · refine k_run 0 (pc' := 74) (l' := [(0, .inr (.inr 361)), (1, .inl x1), (2, .inl x2), (3, .inl x3)]) (st' := []) rfl ?_
      refine k_run 2 (pc' := 76) (l' := [(0, .inr (.inr 361)), (1, .inl x1), (2, .inl x2), (3, .inl x3)]) (st' := [.inl 4, .inl x3]) rfl ?_
      refine h_igt (off := 67) (t := 143) rfl rfl (by omega) (by decide) (fun c42 => ?_) (fun c42 => ?_)
      · refine k_run 0 (pc' := 143) (l' := [(0, .inr (.inr 361)), (1, .inl x1), (2, .inl x2), (3, .inl x3)]) (st' := []) rfl ?_
        refine k_run 1 (pc' := 144) (l' := [(0, .inr (.inr 361)), (1, .inl x1), (2, .inl x2), (3, .inl x3)]) (st' := [.inl x2]) rfl ?_
        refine h_retz (x := x2) rfl rfl (by omega) ?_
        exact ⟨_, rfl, (by omega), hI1, hf1⟩
      · refine k_run 0 (pc' := 79) (l' := [(0, .inr (.inr 361)), (1, .inl x1), (2, .inl x2), (3, .inl x3)]) (st' := []) rfl ?_
        refine k_run 1 (pc' := 80) (l' := [(0, .inr (.inr 361)), (1, .inl x1), (2, .inl x2), (3, .inl x3)]) (st' := [.inr (.inr 361)]) rfl ?_
        refine h_cv (i := 72) (j := 83) (b := 361) (M' := mt_83) (xs := []) (rest := []) rfl rfl rfl rfl (zs_K (x := kx_361) rfl (by decide)) rfl (Nat.le_of_ble_eq_true rfl) (Nat.le_of_ble_eq_true rfl) (by omega) (f_Reader_token (by omega) hI1 ) ?_
        rintro _ _ ⟨z47, rfl, g43, rfl⟩
        refine k_run 0 (pc' := 83) (l' := [(0, .inr (.inr 361)), (1, .inl x1), (2, .inl x2), (3, .inl x3)]) (st' := [.inl z47]) rfl ?_
        refine k_run 1 (pc' := 85) (l' := [(0, .inr (.inr 361)), (1, .inl x1), (2, .inl x2), (3, .inl x3)]) (st' := [.inl 62, .inl z47]) rfl ?_
        refine h_ine (off := 58) (t := 143) rfl rfl (by omega) (by decide) (fun c48 => ?_) (fun c48 => ?_)
        · refine k_run 0 (pc' := 143) (l' := [(0, .inr (.inr 361)), (1, .inl x1), (2, .inl x2), (3, .inl x3)]) (st' := []) rfl ?_
          refine k_run 1 (pc' := 144) (l' := [(0, .inr (.inr 361)), (1, .inl x1), (2, .inl x2), (3, .inl x3)]) (st' := [.inl x2]) rfl ?_
          refine h_retz (x := x2) rfl rfl (by omega) ?_
          exact ⟨_, rfl, (by omega), hI1, hf1⟩
        · refine k_run 0 (pc' := 88) (l' := [(0, .inr (.inr 361)), (1, .inl x1), (2, .inl x2), (3, .inl x3)]) (st' := []) rfl ?_
          refine k_run 2 (pc' := 90) (l' := [(0, .inr (.inr 361)), (1, .inl x1), (2, .inl x2), (3, .inl x3)]) (st' := [.inl 4, .inl x3]) rfl ?_
          refine h_ine (off := 9) (t := 99) rfl rfl (by omega) (by decide) (fun c49 => ?_) (fun c49 => ?_)
          · refine k_run 0 (pc' := 99) (l' := [(0, .inr (.inr 361)), (1, .inl x1), (2, .inl x2), (3, .inl x3)]) (st' := []) rfl ?_
            refine k_run 8 (pc' := 117) (l' := [(0, .inr (.inr 361)), (1, .inl x1), (2, .inl x2), (3, .inl x3)]) (st' := [.inl x1, .inr (.inr 20), .inr (.inr 18)]) rfl ?_
            refine k_ild (c := 20) (j := (x1).toNat) (i := x1) (x := kx_20) rfl rfl (by decide) rfl (by decide) (by omega) (by omega) ?_
            have g50 : -2 ≤ (H1.1 20 (x1).toNat) ∧ (H1.1 20 (x1).toNat) ≤ 100 := kn (x := kx_20) hI1 rfl (x1).toNat
            refine k_run 0 (pc' := 118) (l' := [(0, .inr (.inr 361)), (1, .inl x1), (2, .inl x2), (3, .inl x3)]) (st' := [.inl (H1.1 20 (x1).toNat), .inr (.inr 18)]) rfl ?_
            refine h_cv (i := 131) (j := 44) (b := 18) (M' := mt_44) (xs := [.inl (H1.1 20 (x1).toNat)]) (rest := []) rfl rfl rfl rfl (zs_K (x := kx_18) rfl (by decide)) rfl (Nat.le_of_ble_eq_true rfl) (Nat.le_of_ble_eq_true rfl) (by omega) (k_Symbols_addArgument_18 (by omega) hI1 (by omega) (by omega)) ?_
            rintro _ H52 ⟨rfl, hI53, hq54⟩
            have hf55 : fq [(18, 4), (361, 3), (361, 4), (361, 5)] [19, 20, 21, 22] false H H52 := fq_t hf1 hq54 rfl rfl rfl
            refine k_run 0 (pc' := 121) (l' := [(0, .inr (.inr 361)), (1, .inl x1), (2, .inl x2), (3, .inl x3)]) (st' := []) rfl ?_
            refine k_run 3 (pc' := 126) (l' := [(0, .inr (.inr 361)), (1, .inl x1), (2, .inl x2), (3, .inl x3)]) (st' := [.inl (H52.1 361 3), .inr (.inr 361)]) rfl ?_
            have g56 : -2147483648 ≤ (H52.1 361 3) ∧ (H52.1 361 3) ≤ 2147483647 := kn (x := kx_361) hI53 rfl 3
            have e57 : (H52.1 361 3) = (H1.1 361 3) := (hq54.1 361 3 rfl (by decide) (by decide)).1
            refine k_run 2 (pc' := 128) (l' := [(0, .inr (.inr 361)), (1, .inl x1), (2, .inl x2), (3, .inl x3)]) (st' := [.inl ((H52.1 361 3) + 1), .inr (.inr 361)]) rfl ?_
            refine k_putw (a := 361) (x := kx_361) rfl rfl rfl (by decide) (by decide) rfl rfl rfl rfl hI53 rfl (fun H58 hI59 hw60 => ?_)
            have hf62 : fq [(18, 4), (361, 3), (361, 4), (361, 5)] [19, 20, 21, 22] false H H58 := fq_w hf55 hw60 (fpo (by decide) rfl)
            refine k_run 0 (pc' := 131) (l' := [(0, .inr (.inr 361)), (1, .inl x1), (2, .inl x2), (3, .inl x3)]) (st' := []) rfl ?_
            refine k_run 2 (pc' := 133) (l' := [(0, .inr (.inr 361)), (1, .inl x1), (2, .inl x2), (3, .inl x3)]) (st' := [.inl x1, .inr (.inr 361)]) rfl ?_
            have g63 : -2147483648 ≤ (H58.1 361 4) ∧ (H58.1 361 4) ≤ 2147483647 := kn (x := kx_361) hI59 rfl 4
            have e64 : (H58.1 361 4) = (H52.1 361 4) := hw60.2 _ _ (fun q => absurd q.2 (by decide))
            have e65 : (H52.1 361 4) = (H1.1 361 4) := (hq54.1 361 4 rfl (by decide) (by decide)).1
            refine h_cv (i := 135) (j := 67) (b := 361) (M' := mt_67) (xs := [.inl x1]) (rest := []) rfl rfl rfl rfl (zs_K (x := kx_361) rfl (by decide)) rfl (Nat.le_of_ble_eq_true rfl) (Nat.le_of_ble_eq_true rfl) (by omega) (f_Reader_readResult (by omega) hI59 (by omega) (by omega)) ?_
            rintro _ H67 ⟨z70, rfl, g66, hI68, hq69⟩
            have hf71 : fq [(18, 4), (361, 3), (361, 4), (361, 5)] [19, 20, 21, 22] false H H67 := fq_t hf62 hq69 rfl rfl rfl
            refine k_run 0 (pc' := 136) (l' := [(0, .inr (.inr 361)), (1, .inl x1), (2, .inl x2), (3, .inl x3)]) (st' := [.inl z70]) rfl ?_
            refine k_run 3 (pc' := 70) (l' := [(0, .inr (.inr 361)), (1, .inl x1), (2, .inl z70), (3, .inl (x3 + 1))]) (st' := []) rfl ?_
            have g72 : -2147483648 ≤ (H67.1 361 4) ∧ (H67.1 361 4) ≤ 2147483647 := kn (x := kx_361) hI68 rfl 4
            exact ih H67 hI68 hf71 x1 z70 (x3 + 1) (by omega) (by omega) (by omega) (by omega) (by omega) (by omega) (by omega) (by omega)
          · refine k_run 0 (pc' := 93) (l' := [(0, .inr (.inr 361)), (1, .inl x1), (2, .inl x2), (3, .inl x3)]) (st' := []) rfl ?_
            refine k_run 2 (pc' := 95) (l' := [(0, .inr (.inr 361)), (1, .inl x1), (2, .inl x2), (3, .inl x3)]) (st' := [.inl 5, .inr (.inr 361)]) rfl ?_
            refine h_cv (i := 128) (j := 86) (b := 361) (M' := mt_86) (xs := [.inl 5]) (rest := []) rfl rfl rfl rfl (zs_K (x := kx_361) rfl (by decide)) rfl (Nat.le_of_ble_eq_true rfl) (Nat.le_of_ble_eq_true rfl) (by omega) (f_Reader_fails (by omega) hI1 (by decide)) ?_
            rintro _ H74 ⟨z77, rfl, g73, hI75, hq76⟩
            have hf78 : fq [(18, 4), (361, 3), (361, 4), (361, 5)] [19, 20, 21, 22] false H H74 := fq_t hf1 hq76 rfl rfl rfl
            refine k_run 0 (pc' := 98) (l' := [(0, .inr (.inr 361)), (1, .inl x1), (2, .inl x2), (3, .inl x3)]) (st' := [.inl z77]) rfl ?_
            refine h_retz (x := z77) rfl rfl (by omega) ?_
            have g79 : -2147483648 ≤ (H74.1 361 4) ∧ (H74.1 361 4) ≤ 2147483647 := kn (x := kx_361) hI75 rfl 4
            exact ⟨_, rfl, (by omega), hI75, hf78⟩
set_option maxRecDepth 100000 in
theorem f_Reader_readFunction {d : Nat} (hd : 4 ≤ d) {H : hp} (hI : Inv H)   : hG (zs zK) d mt_66 0 (zargs 0 [.inr (.inr 361)]) [] H (fun r9 H9 => ∃ z : Int, r9 = some (.inl z) ∧ ((0 ≤ z ∧ z ≤ 1) ∧ ((z = 0 ∨ H9.1 361 4 = H.1 361 4))) ∧ Inv H9 ∧ fq [(18, 4), (361, 3), (361, 4), (361, 5)] [19, 20, 21, 22] false H H9) := by
  refine k_run 0 (pc' := 0) (l' := [(0, .inr (.inr 361))]) (st' := []) rfl ?_
  refine k_run 3 (pc' := 5) (l' := [(0, .inr (.inr 361))]) (st' := [.inl (H.1 361 3), .inr (.inr 361)]) rfl ?_
  have g1 : -2147483648 ≤ (H.1 361 3) ∧ (H.1 361 3) ≤ 2147483647 := kn (x := kx_361) hI rfl 3
  refine k_run 2 (pc' := 7) (l' := [(0, .inr (.inr 361))]) (st' := [.inl ((H.1 361 3) + 1), .inr (.inr 361)]) rfl ?_
  refine k_putw (a := 361) (x := kx_361) rfl rfl rfl (by decide) (by decide) rfl rfl rfl rfl hI rfl (fun H2 hI3 hw4 => ?_)
  have hf6 : fq [(18, 4), (361, 3), (361, 4), (361, 5)] [19, 20, 21, 22] false H H2 := fq_w (fq_rf _ _ _ _) hw4 (fpo (by decide) rfl)
  refine k_run 0 (pc' := 10) (l' := [(0, .inr (.inr 361))]) (st' := []) rfl ?_
  refine k_run 6 (pc' := 20) (l' := [(0, .inr (.inr 361))]) (st' := [.inl (-1), .inl 2, .inr (.inr 18), .inr (.inr 361)]) rfl ?_
  have g7 : -2147483648 ≤ (H2.1 361 4) ∧ (H2.1 361 4) ≤ 2147483647 := kn (x := kx_361) hI3 rfl 4
  have e8 : (H2.1 361 4) = (H.1 361 4) := hw4.2 _ _ (fun q => absurd q.2 (by decide))
  refine h_cv (i := 113) (j := 78) (b := 361) (M' := mt_78) (xs := [.inl (-1), .inl 2, .inr (.inr 18)]) (rest := []) rfl rfl rfl rfl (zs_K (x := kx_361) rfl (by decide)) rfl (Nat.le_of_ble_eq_true rfl) (Nat.le_of_ble_eq_true rfl) (by omega) (f_Reader_tellName_18 (by omega) hI3 (by decide) (by decide) (by omega)) ?_
  rintro _ H10 ⟨z13, rfl, g9, hI11, hq12⟩
  have hf14 : fq [(18, 4), (361, 3), (361, 4), (361, 5)] [19, 20, 21, 22] false H H10 := fq_t hf6 hq12 rfl rfl rfl
  refine k_run 0 (pc' := 23) (l' := [(0, .inr (.inr 361))]) (st' := [.inl z13]) rfl ?_
  refine h_zeq (off := 12) (t := 35) rfl rfl (by omega) (fun c15 => ?_) (fun c15 => ?_)
  · refine k_run 0 (pc' := 35) (l' := [(0, .inr (.inr 361))]) (st' := []) rfl ?_
    refine k_run 1 (pc' := 36) (l' := [(0, .inr (.inr 361))]) (st' := [.inl 0]) rfl ?_
    refine h_retz (x := 0) rfl rfl (by decide) ?_
    have g16 : -2147483648 ≤ (H10.1 361 4) ∧ (H10.1 361 4) ≤ 2147483647 := kn (x := kx_361) hI11 rfl 4
    exact ⟨_, rfl, (by omega), hI11, hf14⟩
  · refine k_run 0 (pc' := 26) (l' := [(0, .inr (.inr 361))]) (st' := []) rfl ?_
    refine k_run 2 (pc' := 29) (l' := [(0, .inr (.inr 361))]) (st' := [.inl 58, .inr (.inr 361)]) rfl ?_
    have g17 : -2147483648 ≤ (H10.1 361 4) ∧ (H10.1 361 4) ≤ 2147483647 := kn (x := kx_361) hI11 rfl 4
    refine h_cv (i := 92) (j := 82) (b := 361) (M' := mt_82) (xs := [.inl 58]) (rest := []) rfl rfl rfl rfl (zs_K (x := kx_361) rfl (by decide)) rfl (Nat.le_of_ble_eq_true rfl) (Nat.le_of_ble_eq_true rfl) (by omega) (f_Reader_take (by omega) hI11 (by decide)) ?_
    rintro _ H19 ⟨z22, rfl, g18, hI20, hq21⟩
    have hf23 : fq [(18, 4), (361, 3), (361, 4), (361, 5)] [19, 20, 21, 22] false H H19 := fq_t hf14 hq21 rfl rfl rfl
    refine k_run 0 (pc' := 32) (l' := [(0, .inr (.inr 361))]) (st' := [.inl z22]) rfl ?_
    refine h_zne (off := 5) (t := 37) rfl rfl (by omega) (fun c24 => ?_) (fun c24 => ?_)
    · refine k_run 0 (pc' := 37) (l' := [(0, .inr (.inr 361))]) (st' := []) rfl ?_
      refine k_run 4 (pc' := 47) (l' := [(0, .inr (.inr 361))]) (st' := [.inl (H19.1 18 4)]) rfl ?_
      have g25 : 0 ≤ (H19.1 18 4) ∧ (H19.1 18 4) ≤ 16 := kn (x := kx_18) hI20 rfl 4
      have e26 : (H19.1 18 4) = (H10.1 18 4) := (hq21.1 18 4 rfl (by decide) (by decide)).1
      refine k_run 4 (pc' := 51) (l' := [(0, .inr (.inr 361)), (1, .inl ((H19.1 18 4) - 1))]) (st' := [.inl ((H19.1 18 4) - 1)]) rfl ?_
      refine h_zlt (off := 15) (t := 66) rfl rfl (by omega) (fun c27 => ?_) (fun c27 => ?_)
      · refine k_run 0 (pc' := 66) (l' := [(0, .inr (.inr 361)), (1, .inl ((H19.1 18 4) - 1))]) (st' := []) rfl ?_
        refine k_run 4 (pc' := 70) (l' := [(0, .inr (.inr 361)), (1, .inl ((H19.1 18 4) - 1)), (2, .inl 0), (3, .inl 0)]) (st' := []) rfl ?_
        have g28 : -2147483648 ≤ (H19.1 361 4) ∧ (H19.1 361 4) ≤ 2147483647 := kn (x := kx_361) hI20 rfl 4
        exact (f_Reader_readFunction_cut hd hI  _) H19 hI20 hf23 ((H19.1 18 4) - 1) (0 : Int) (0 : Int) (by omega) (by decide) (by decide) (by omega) (by omega) (by omega) (by omega) (Nat.lt_succ_self _)
      · refine k_run 0 (pc' := 54) (l' := [(0, .inr (.inr 361)), (1, .inl ((H19.1 18 4) - 1))]) (st' := []) rfl ?_
        refine k_run 2 (pc' := 56) (l' := [(0, .inr (.inr 361)), (1, .inl ((H19.1 18 4) - 1))]) (st' := [.inl ((H19.1 18 4) - 1), .inr (.inr 361)]) rfl ?_
        have g29 : -2147483648 ≤ (H19.1 361 4) ∧ (H19.1 361 4) ≤ 2147483647 := kn (x := kx_361) hI20 rfl 4
        refine h_cv (i := 135) (j := 67) (b := 361) (M' := mt_67) (xs := [.inl ((H19.1 18 4) - 1)]) (rest := []) rfl rfl rfl rfl (zs_K (x := kx_361) rfl (by decide)) rfl (Nat.le_of_ble_eq_true rfl) (Nat.le_of_ble_eq_true rfl) (by omega) (f_Reader_readResult (by omega) hI20 (by omega) (by omega)) ?_
        rintro _ H31 ⟨z34, rfl, g30, hI32, hq33⟩
        have hf35 : fq [(18, 4), (361, 3), (361, 4), (361, 5)] [19, 20, 21, 22] false H H31 := fq_t hf23 hq33 rfl rfl rfl
        refine k_run 0 (pc' := 59) (l' := [(0, .inr (.inr 361)), (1, .inl ((H19.1 18 4) - 1))]) (st' := [.inl z34]) rfl ?_
        refine h_zeq (off := 7) (t := 66) rfl rfl (by omega) (fun c36 => ?_) (fun c36 => ?_)
        · refine k_run 0 (pc' := 66) (l' := [(0, .inr (.inr 361)), (1, .inl ((H19.1 18 4) - 1))]) (st' := []) rfl ?_
          refine k_run 4 (pc' := 70) (l' := [(0, .inr (.inr 361)), (1, .inl ((H19.1 18 4) - 1)), (2, .inl 0), (3, .inl 0)]) (st' := []) rfl ?_
          have g37 : -2147483648 ≤ (H31.1 361 4) ∧ (H31.1 361 4) ≤ 2147483647 := kn (x := kx_361) hI32 rfl 4
          exact (f_Reader_readFunction_cut hd hI  _) H31 hI32 hf35 ((H19.1 18 4) - 1) (0 : Int) (0 : Int) (by omega) (by decide) (by decide) (by omega) (by omega) (by omega) (by omega) (Nat.lt_succ_self _)
        · refine k_run 0 (pc' := 62) (l' := [(0, .inr (.inr 361)), (1, .inl ((H19.1 18 4) - 1))]) (st' := []) rfl ?_
          refine k_run 5 (pc' := 70) (l' := [(0, .inr (.inr 361)), (1, .inl ((H19.1 18 4) - 1)), (2, .inl 1), (3, .inl 0)]) (st' := []) rfl ?_
          have g38 : -2147483648 ≤ (H31.1 361 4) ∧ (H31.1 361 4) ≤ 2147483647 := kn (x := kx_361) hI32 rfl 4
          exact (f_Reader_readFunction_cut hd hI  _) H31 hI32 hf35 ((H19.1 18 4) - 1) (1 : Int) (0 : Int) (by omega) (by decide) (by decide) (by omega) (by omega) (by omega) (by omega) (Nat.lt_succ_self _)
    · refine k_run 0 (pc' := 35) (l' := [(0, .inr (.inr 361))]) (st' := []) rfl ?_
      refine k_run 1 (pc' := 36) (l' := [(0, .inr (.inr 361))]) (st' := [.inl 0]) rfl ?_
      refine h_retz (x := 0) rfl rfl (by decide) ?_
      have g39 : -2147483648 ≤ (H19.1 361 4) ∧ (H19.1 361 4) ≤ 2147483647 := kn (x := kx_361) hI20 rfl 4
      exact ⟨_, rfl, (by omega), hI20, hf23⟩

/-! the class: terms and patterns are read -/
/-- a term is read at depth b with 10 - b ≤ m -/
def RTc9 (m : Nat) : Prop := ∀ {d : Nat} (_ : 3 * m + 10 ≤ d) {H : hp} (_ : Inv H) {a b c : Int} (_ : -2147483648 ≤ a ∧ a ≤ 2147483647) (_ : -2147483648 ≤ b ∧ b ≤ 2147483647) (_ : 0 ≤ c ∧ c ≤ 1) (_ : -2 ≤ a ∧ a ≤ 100 ∧ 0 ≤ b ∧ b ≤ 10 ∧ 10 ≤ b + (m : Int)), hG (zs zK) d mt_73 0 (zargs 0 [.inr (.inr 361), .inl a, .inl b, .inl c]) [] H (fun r9 H9 => ∃ z : Int, r9 = some (.inl z) ∧ ((0 ≤ z ∧ z ≤ 1) ∧ (z = 0 ∨ H9.1 361 4 = H.1 361 4)) ∧ Inv H9 ∧ fq [(361, 3), (361, 4), (361, 5), (361, 9)] [362] true H H9)
/-- as an atom -/
def RT1c9 (m : Nat) : Prop := ∀ {d : Nat} (_ : 3 * m + 8 ≤ d) {H : hp} (_ : Inv H) {a b : Int} (_ : -2147483648 ≤ a ∧ a ≤ 2147483647) (_ : -2147483648 ≤ b ∧ b ≤ 2147483647) (_ : -2 ≤ a ∧ a ≤ 100 ∧ 0 ≤ b ∧ b ≤ 10 ∧ 10 ≤ b + (m : Int)), hG (zs zK) d mt_73 0 (zargs 0 [.inr (.inr 361), .inl a, .inl b, .inl 1]) [] H (fun r9 H9 => ∃ z : Int, r9 = some (.inl z) ∧ ((0 ≤ z ∧ z ≤ 1) ∧ (z = 0 ∨ H9.1 361 4 = H.1 361 4)) ∧ Inv H9 ∧ fq [(361, 3), (361, 4), (361, 5), (361, 9)] [362] true H H9)
def RA2c9 (m : Nat) : Prop := ∀ {d : Nat} (_ : 3 * m + 9 ≤ d) {H : hp} (_ : Inv H) {x a b c : Int} (_ : -2147483648 ≤ x ∧ x ≤ 2147483647) (_ : -2147483648 ≤ a ∧ a ≤ 2147483647) (_ : -2147483648 ≤ b ∧ b ≤ 2147483647) (_ : 0 ≤ c ∧ c ≤ 1) (_ : 0 ≤ x ∧ x < 16) (_ : -2 ≤ a ∧ a ≤ 100 ∧ 0 ≤ b ∧ b ≤ 10 ∧ 10 ≤ b + (m : Int)), hG (zs zK) d mt_74 0 (zargs 0 [.inr (.inr 361), .inl 2, .inl x, .inl a, .inl b, .inl c]) [] H (fun r9 H9 => ∃ z : Int, r9 = some (.inl z) ∧ ((0 ≤ z ∧ z ≤ 1) ∧ (z = 0 ∨ H9.1 361 4 = H.1 361 4)) ∧ Inv H9 ∧ fq [(361, 3), (361, 4), (361, 5), (361, 9)] [362] true H H9)
def RA1c9 (m : Nat) : Prop := ∀ {d : Nat} (_ : 3 * m + 9 ≤ d) {H : hp} (_ : Inv H) {x a b c : Int} (_ : -2147483648 ≤ x ∧ x ≤ 2147483647) (_ : -2147483648 ≤ a ∧ a ≤ 2147483647) (_ : -2147483648 ≤ b ∧ b ≤ 2147483647) (_ : 0 ≤ c ∧ c ≤ 1) (_ : 0 ≤ x ∧ x < 16) (_ : -2 ≤ a ∧ a ≤ 100 ∧ 0 ≤ b ∧ b ≤ 10 ∧ 10 ≤ b + (m : Int)), hG (zs zK) d mt_74 0 (zargs 0 [.inr (.inr 361), .inl 1, .inl x, .inl a, .inl b, .inl c]) [] H (fun r9 H9 => ∃ z : Int, r9 = some (.inl z) ∧ ((0 ≤ z ∧ z ≤ 1) ∧ (z = 0 ∨ H9.1 361 4 = H.1 361 4)) ∧ Inv H9 ∧ fq [(361, 3), (361, 4), (361, 5), (361, 9)] [362] true H H9)

/-! Reader.readApplied -/
set_option maxRecDepth 100000 in
theorem f_readApplied_a2_cut {d : Nat} (hd : 3 ≤ d) {H : hp} (hI : Inv H) {x : Int} {a : Int} {b : Int} (hx : -2147483648 ≤ x ∧ x ≤ 2147483647) (ha : -2147483648 ≤ a ∧ a ≤ 2147483647) (hb : -2147483648 ≤ b ∧ b ≤ 2147483647) (hp0 : 0 ≤ x ∧ x < 16) (hp1 : -2 ≤ a ∧ a ≤ 100 ∧ 0 ≤ b ∧ b ≤ 10) : ∀ w : Nat, (∀ (H1 : hp), Inv H1 → fq [(361, 3), (361, 4), (361, 5), (361, 9)] [362] true H H1 → ∀ (x7 : Int) (x8 : Int) (x9 : Int) , (-2147483648 ≤ x7 ∧ x7 ≤ 2147483647) → (-2147483648 ≤ x8 ∧ x8 ≤ 2147483647) → (-2147483648 ≤ x9 ∧ x9 ≤ 2147483647) → (0 ≤ x9) → (x7 ≤ 0) → (0 ≤ x8 ∧ x8 ≤ 1) → ((x8 = 0 ∨ H1.1 361 4 = H.1 361 4)) → (((100 - x9).toNat) < w) → hG (zs zK) d mt_74 86 [(0, .inr (.inr 361)), (1, .inl 2), (2, .inl x), (3, .inl a), (4, .inl b), (5, .inl 1), (6, .inr (.inr 18)), (7, .inl x7), (8, .inl x8), (9, .inl x9)] [] H1 (fun r9 H9 => ∃ z : Int, r9 = some (.inl z) ∧ ((0 ≤ z ∧ z ≤ 1) ∧ ((z = 0 ∨ H9.1 361 4 = H.1 361 4))) ∧ Inv H9 ∧ fq [(361, 3), (361, 4), (361, 5), (361, 9)] [362] true H H9)) := by
  intro w
  induction w with
  | zero => exact fun _ _ _ _ _ _ _ _ _ _ _ _ _ h => absurd h (Nat.not_lt_zero _)
  | succ w ih =>
    intro H1 hI1 hf1 x7 x8 x9 hx7 hx8 hx9 hi0 hi1 hi2 hi3 hw
    have g48 : -2147483648 ≤ (H1.1 361 4) ∧ (H1.1 361 4) ≤ 2147483647 := kn (x := kx_361) hI1 rfl 4
    refine k_run 1 (pc' := 88) (l' := [(0, .inr (.inr 361)), (1, .inl 2), (2, .inl x), (3, .inl a), (4, .inl b), (5, .inl 1), (6, .inr (.inr 18)), (7, .inl x7), (8, .inl x8), (9, .inl x9)]) (st' := [.inl x8]) rfl ?_
    refine h_zeq (off := 33) (t := 121) rfl rfl (by omega) (fun c49 => ?_) (fun c49 => ?_)
    · refine k_run 0 (pc' := 121) (l' := [(0, .inr (.inr 361)), (1, .inl 2), (2, .inl x), (3, .inl a), (4, .inl b), (5, .inl 1), (6, .inr (.inr 18)), (7, .inl x7), (8, .inl x8), (9, .inl x9)]) (st' := []) rfl ?_
      refine k_run 1 (pc' := 123) (l' := [(0, .inr (.inr 361)), (1, .inl 2), (2, .inl x), (3, .inl a), (4, .inl b), (5, .inl 1), (6, .inr (.inr 18)), (7, .inl x7), (8, .inl x8), (9, .inl x9)]) (st' := [.inl x8]) rfl ?_
      refine h_retz (x := x8) rfl rfl (by omega) ?_
      exact ⟨_, rfl, (by omega), hI1, hf1⟩
    · refine k_run 0 (pc' := 91) (l' := [(0, .inr (.inr 361)), (1, .inl 2), (2, .inl x), (3, .inl a), (4, .inl b), (5, .inl 1), (6, .inr (.inr 18)), (7, .inl x7), (8, .inl x8), (9, .inl x9)]) (st' := []) rfl ?_
      refine k_run 2 (pc' := 95) (l' := [(0, .inr (.inr 361)), (1, .inl 2), (2, .inl x), (3, .inl a), (4, .inl b), (5, .inl 1), (6, .inr (.inr 18)), (7, .inl x7), (8, .inl x8), (9, .inl x9)]) (st' := [.inl x7, .inl x9]) rfl ?_
      refine h_ige (off := 26) (t := 121) rfl rfl (by omega) (by omega) (fun c50 => ?_) (fun c50 => ?_)
      · refine k_run 0 (pc' := 121) (l' := [(0, .inr (.inr 361)), (1, .inl 2), (2, .inl x), (3, .inl a), (4, .inl b), (5, .inl 1), (6, .inr (.inr 18)), (7, .inl x7), (8, .inl x8), (9, .inl x9)]) (st' := []) rfl ?_
        refine k_run 1 (pc' := 123) (l' := [(0, .inr (.inr 361)), (1, .inl 2), (2, .inl x), (3, .inl a), (4, .inl b), (5, .inl 1), (6, .inr (.inr 18)), (7, .inl x7), (8, .inl x8), (9, .inl x9)]) (st' := [.inl x8]) rfl ?_
        refine h_retz (x := x8) rfl rfl (by omega) ?_
        exact ⟨_, rfl, (by omega), hI1, hf1⟩
      · refine k_run 0 (pc' := 98) (l' := [(0, .inr (.inr 361)), (1, .inl 2), (2, .inl x), (3, .inl a), (4, .inl b), (5, .inl 1), (6, .inr (.inr 18)), (7, .inl x7), (8, .inl x8), (9, .inl x9)]) (st' := []) rfl ?_
        exfalso
        omega
set_option maxRecDepth 100000 in
theorem f_readApplied_a2 {d : Nat} (hd : 3 ≤ d) {H : hp} (hI : Inv H) {x : Int} {a : Int} {b : Int} (hx : -2147483648 ≤ x ∧ x ≤ 2147483647) (ha : -2147483648 ≤ a ∧ a ≤ 2147483647) (hb : -2147483648 ≤ b ∧ b ≤ 2147483647) (hp0 : 0 ≤ x ∧ x < 16) (hp1 : -2 ≤ a ∧ a ≤ 100 ∧ 0 ≤ b ∧ b ≤ 10) : hG (zs zK) d mt_74 0 (zargs 0 [.inr (.inr 361), .inl 2, .inl x, .inl a, .inl b, .inl 1]) [] H (fun r9 H9 => ∃ z : Int, r9 = some (.inl z) ∧ ((0 ≤ z ∧ z ≤ 1) ∧ ((z = 0 ∨ H9.1 361 4 = H.1 361 4))) ∧ Inv H9 ∧ fq [(361, 3), (361, 4), (361, 5), (361, 9)] [362] true H H9) := by
  refine k_run 0 (pc' := 0) (l' := [(0, .inr (.inr 361)), (1, .inl 2), (2, .inl x), (3, .inl a), (4, .inl b), (5, .inl 1)]) (st' := []) rfl ?_
  refine k_run 2 (pc' := 2) (l' := [(0, .inr (.inr 361)), (1, .inl 2), (2, .inl x), (3, .inl a), (4, .inl b), (5, .inl 1)]) (st' := [.inl 2, .inl 2]) rfl ?_
  refine h_ine (off := 13) (t := 15) rfl rfl (by decide) (by decide) (fun c => absurd c (by decide)) (fun _ => ?_)
  refine k_run 0 (pc' := 5) (l' := [(0, .inr (.inr 361)), (1, .inl 2), (2, .inl x), (3, .inl a), (4, .inl b), (5, .inl 1)]) (st' := []) rfl ?_
  refine k_run 8 (pc' := 30) (l' := [(0, .inr (.inr 361)), (1, .inl 2), (2, .inl x), (3, .inl a), (4, .inl b), (5, .inl 1), (6, .inr (.inr 18))]) (st' := [.inl x, .inr (.inr 21)]) rfl ?_
  refine k_ild (c := 21) (j := (x).toNat) (i := x) (x := kx_21) rfl rfl (by decide) rfl (by decide) (by omega) (by omega) ?_
  have g1 : 0 ≤ (H.1 21 (x).toNat) ∧ (H.1 21 (x).toNat) ≤ 4 := kn (x := kx_21) hI rfl (x).toNat
  refine k_run 0 (pc' := 31) (l' := [(0, .inr (.inr 361)), (1, .inl 2), (2, .inl x), (3, .inl a), (4, .inl b), (5, .inl 1), (6, .inr (.inr 18))]) (st' := [.inl (H.1 21 (x).toNat)]) rfl ?_
  refine k_run 2 (pc' := 35) (l' := [(0, .inr (.inr 361)), (1, .inl 2), (2, .inl x), (3, .inl a), (4, .inl b), (5, .inl 1), (6, .inr (.inr 18)), (7, .inl (H.1 21 (x).toNat))]) (st' := [.inl 1]) rfl ?_
  refine h_zeq (off := 14) (t := 49) rfl rfl (by decide) (fun c => absurd c (by decide)) (fun _ => ?_)
  refine k_run 0 (pc' := 38) (l' := [(0, .inr (.inr 361)), (1, .inl 2), (2, .inl x), (3, .inl a), (4, .inl b), (5, .inl 1), (6, .inr (.inr 18)), (7, .inl (H.1 21 (x).toNat))]) (st' := []) rfl ?_
  refine k_run 1 (pc' := 40) (l' := [(0, .inr (.inr 361)), (1, .inl 2), (2, .inl x), (3, .inl a), (4, .inl b), (5, .inl 1), (6, .inr (.inr 18)), (7, .inl (H.1 21 (x).toNat))]) (st' := [.inl (H.1 21 (x).toNat)]) rfl ?_
  refine h_zle (off := 9) (t := 49) rfl rfl (by omega) (fun c2 => ?_) (fun c2 => ?_)
  · refine k_run 0 (pc' := 49) (l' := [(0, .inr (.inr 361)), (1, .inl 2), (2, .inl x), (3, .inl a), (4, .inl b), (5, .inl 1), (6, .inr (.inr 18)), (7, .inl (H.1 21 (x).toNat))]) (st' := []) rfl ?_
    refine k_run 1 (pc' := 50) (l' := [(0, .inr (.inr 361)), (1, .inl 2), (2, .inl x), (3, .inl a), (4, .inl b), (5, .inl 1), (6, .inr (.inr 18)), (7, .inl (H.1 21 (x).toNat))]) (st' := [.inl a]) rfl ?_
    refine h_zlt (off := 20) (t := 70) rfl rfl (by omega) (fun c3 => ?_) (fun c3 => ?_)
    · refine k_run 0 (pc' := 70) (l' := [(0, .inr (.inr 361)), (1, .inl 2), (2, .inl x), (3, .inl a), (4, .inl b), (5, .inl 1), (6, .inr (.inr 18)), (7, .inl (H.1 21 (x).toNat))]) (st' := []) rfl ?_
      refine k_run 4 (pc' := 75) (l' := [(0, .inr (.inr 361)), (1, .inl 2), (2, .inl x), (3, .inl a), (4, .inl b), (5, .inl 1), (6, .inr (.inr 18)), (7, .inl (H.1 21 (x).toNat))]) (st' := [.inl (H.1 21 (x).toNat), .inl x, .inl 2, .inr (.inr 361)]) rfl ?_
      refine h_cs (i := 153) (j := 48) (M' := mt_48) (xs := [.inl (H.1 21 (x).toNat), .inl x, .inl 2]) (rest := [.inr (.inr 361)]) rfl rfl rfl rfl rfl (Nat.le_of_ble_eq_true rfl) (Nat.le_of_ble_eq_true rfl) (by omega) (k_Term_codeOf (by omega)  (by decide) (by omega) (by omega)) ?_
      rintro _ _ ⟨z8, rfl, g4, rfl⟩
      refine k_run 0 (pc' := 78) (l' := [(0, .inr (.inr 361)), (1, .inl 2), (2, .inl x), (3, .inl a), (4, .inl b), (5, .inl 1), (6, .inr (.inr 18)), (7, .inl (H.1 21 (x).toNat))]) (st' := [.inl z8, .inr (.inr 361)]) rfl ?_
      have g9 : -2147483648 ≤ (H.1 361 4) ∧ (H.1 361 4) ≤ 2147483647 := kn (x := kx_361) hI rfl 4
      refine h_cv (i := 157) (j := 77) (b := 361) (M' := mt_77) (xs := [.inl z8]) (rest := []) rfl rfl rfl rfl (zs_K (x := kx_361) rfl (by decide)) rfl (Nat.le_of_ble_eq_true rfl) (Nat.le_of_ble_eq_true rfl) (by omega) (f_Reader_addName (by omega) hI (by omega)) ?_
      rintro _ H11 ⟨z14, rfl, g10, hI12, hq13⟩
      have hf15 : fq [(361, 3), (361, 4), (361, 5), (361, 9)] [362] true H H11 := fq_t (fq_rf _ _ _ _) hq13 rfl rfl rfl
      refine k_run 0 (pc' := 81) (l' := [(0, .inr (.inr 361)), (1, .inl 2), (2, .inl x), (3, .inl a), (4, .inl b), (5, .inl 1), (6, .inr (.inr 18)), (7, .inl (H.1 21 (x).toNat))]) (st' := [.inl z14]) rfl ?_
      refine k_run 3 (pc' := 86) (l' := [(0, .inr (.inr 361)), (1, .inl 2), (2, .inl x), (3, .inl a), (4, .inl b), (5, .inl 1), (6, .inr (.inr 18)), (7, .inl (H.1 21 (x).toNat)), (8, .inl z14), (9, .inl 0)]) (st' := []) rfl ?_
      have g16 : -2147483648 ≤ (H11.1 361 4) ∧ (H11.1 361 4) ≤ 2147483647 := kn (x := kx_361) hI12 rfl 4
      exact (f_readApplied_a2_cut hd hI hx ha hb hp0 hp1 _) H11 hI12 hf15 (H.1 21 (x).toNat) z14 (0 : Int) (by omega) (by omega) (by decide) (by omega) (by omega) (by omega) (by omega) (Nat.lt_succ_self _)
    · refine k_run 0 (pc' := 53) (l' := [(0, .inr (.inr 361)), (1, .inl 2), (2, .inl x), (3, .inl a), (4, .inl b), (5, .inl 1), (6, .inr (.inr 18)), (7, .inl (H.1 21 (x).toNat))]) (st' := []) rfl ?_
      refine k_run 3 (pc' := 59) (l' := [(0, .inr (.inr 361)), (1, .inl 2), (2, .inl x), (3, .inl a), (4, .inl b), (5, .inl 1), (6, .inr (.inr 18)), (7, .inl (H.1 21 (x).toNat))]) (st' := [.inl x, .inr (.inr 20)]) rfl ?_
      refine k_ild (c := 20) (j := (x).toNat) (i := x) (x := kx_20) rfl rfl (by decide) rfl (by decide) (by omega) (by omega) ?_
      have g17 : -2 ≤ (H.1 20 (x).toNat) ∧ (H.1 20 (x).toNat) ≤ 100 := kn (x := kx_20) hI rfl (x).toNat
      refine k_run 0 (pc' := 60) (l' := [(0, .inr (.inr 361)), (1, .inl 2), (2, .inl x), (3, .inl a), (4, .inl b), (5, .inl 1), (6, .inr (.inr 18)), (7, .inl (H.1 21 (x).toNat))]) (st' := [.inl (H.1 20 (x).toNat)]) rfl ?_
      refine k_run 1 (pc' := 61) (l' := [(0, .inr (.inr 361)), (1, .inl 2), (2, .inl x), (3, .inl a), (4, .inl b), (5, .inl 1), (6, .inr (.inr 18)), (7, .inl (H.1 21 (x).toNat))]) (st' := [.inl a, .inl (H.1 20 (x).toNat)]) rfl ?_
      refine h_ieq (off := 9) (t := 70) rfl rfl (by omega) (by omega) (fun c18 => ?_) (fun c18 => ?_)
      · refine k_run 0 (pc' := 70) (l' := [(0, .inr (.inr 361)), (1, .inl 2), (2, .inl x), (3, .inl a), (4, .inl b), (5, .inl 1), (6, .inr (.inr 18)), (7, .inl (H.1 21 (x).toNat))]) (st' := []) rfl ?_
        refine k_run 4 (pc' := 75) (l' := [(0, .inr (.inr 361)), (1, .inl 2), (2, .inl x), (3, .inl a), (4, .inl b), (5, .inl 1), (6, .inr (.inr 18)), (7, .inl (H.1 21 (x).toNat))]) (st' := [.inl (H.1 21 (x).toNat), .inl x, .inl 2, .inr (.inr 361)]) rfl ?_
        refine h_cs (i := 153) (j := 48) (M' := mt_48) (xs := [.inl (H.1 21 (x).toNat), .inl x, .inl 2]) (rest := [.inr (.inr 361)]) rfl rfl rfl rfl rfl (Nat.le_of_ble_eq_true rfl) (Nat.le_of_ble_eq_true rfl) (by omega) (k_Term_codeOf (by omega)  (by decide) (by omega) (by omega)) ?_
        rintro _ _ ⟨z23, rfl, g19, rfl⟩
        refine k_run 0 (pc' := 78) (l' := [(0, .inr (.inr 361)), (1, .inl 2), (2, .inl x), (3, .inl a), (4, .inl b), (5, .inl 1), (6, .inr (.inr 18)), (7, .inl (H.1 21 (x).toNat))]) (st' := [.inl z23, .inr (.inr 361)]) rfl ?_
        have g24 : -2147483648 ≤ (H.1 361 4) ∧ (H.1 361 4) ≤ 2147483647 := kn (x := kx_361) hI rfl 4
        refine h_cv (i := 157) (j := 77) (b := 361) (M' := mt_77) (xs := [.inl z23]) (rest := []) rfl rfl rfl rfl (zs_K (x := kx_361) rfl (by decide)) rfl (Nat.le_of_ble_eq_true rfl) (Nat.le_of_ble_eq_true rfl) (by omega) (f_Reader_addName (by omega) hI (by omega)) ?_
        rintro _ H26 ⟨z29, rfl, g25, hI27, hq28⟩
        have hf30 : fq [(361, 3), (361, 4), (361, 5), (361, 9)] [362] true H H26 := fq_t (fq_rf _ _ _ _) hq28 rfl rfl rfl
        refine k_run 0 (pc' := 81) (l' := [(0, .inr (.inr 361)), (1, .inl 2), (2, .inl x), (3, .inl a), (4, .inl b), (5, .inl 1), (6, .inr (.inr 18)), (7, .inl (H.1 21 (x).toNat))]) (st' := [.inl z29]) rfl ?_
        refine k_run 3 (pc' := 86) (l' := [(0, .inr (.inr 361)), (1, .inl 2), (2, .inl x), (3, .inl a), (4, .inl b), (5, .inl 1), (6, .inr (.inr 18)), (7, .inl (H.1 21 (x).toNat)), (8, .inl z29), (9, .inl 0)]) (st' := []) rfl ?_
        have g31 : -2147483648 ≤ (H26.1 361 4) ∧ (H26.1 361 4) ≤ 2147483647 := kn (x := kx_361) hI27 rfl 4
        exact (f_readApplied_a2_cut hd hI hx ha hb hp0 hp1 _) H26 hI27 hf30 (H.1 21 (x).toNat) z29 (0 : Int) (by omega) (by omega) (by decide) (by omega) (by omega) (by omega) (by omega) (Nat.lt_succ_self _)
      · refine k_run 0 (pc' := 64) (l' := [(0, .inr (.inr 361)), (1, .inl 2), (2, .inl x), (3, .inl a), (4, .inl b), (5, .inl 1), (6, .inr (.inr 18)), (7, .inl (H.1 21 (x).toNat))]) (st' := []) rfl ?_
        refine k_run 2 (pc' := 66) (l' := [(0, .inr (.inr 361)), (1, .inl 2), (2, .inl x), (3, .inl a), (4, .inl b), (5, .inl 1), (6, .inr (.inr 18)), (7, .inl (H.1 21 (x).toNat))]) (st' := [.inl 4, .inr (.inr 361)]) rfl ?_
        have g32 : -2147483648 ≤ (H.1 361 4) ∧ (H.1 361 4) ≤ 2147483647 := kn (x := kx_361) hI rfl 4
        refine h_cv (i := 128) (j := 86) (b := 361) (M' := mt_86) (xs := [.inl 4]) (rest := []) rfl rfl rfl rfl (zs_K (x := kx_361) rfl (by decide)) rfl (Nat.le_of_ble_eq_true rfl) (Nat.le_of_ble_eq_true rfl) (by omega) (f_Reader_fails (by omega) hI (by decide)) ?_
        rintro _ H34 ⟨z37, rfl, g33, hI35, hq36⟩
        have hf38 : fq [(361, 3), (361, 4), (361, 5), (361, 9)] [362] true H H34 := fq_t (fq_rf _ _ _ _) hq36 rfl rfl rfl
        refine k_run 0 (pc' := 69) (l' := [(0, .inr (.inr 361)), (1, .inl 2), (2, .inl x), (3, .inl a), (4, .inl b), (5, .inl 1), (6, .inr (.inr 18)), (7, .inl (H.1 21 (x).toNat))]) (st' := [.inl z37]) rfl ?_
        refine h_retz (x := z37) rfl rfl (by omega) ?_
        have g39 : -2147483648 ≤ (H34.1 361 4) ∧ (H34.1 361 4) ≤ 2147483647 := kn (x := kx_361) hI35 rfl 4
        exact ⟨_, rfl, (by omega), hI35, hf38⟩
  · refine k_run 0 (pc' := 43) (l' := [(0, .inr (.inr 361)), (1, .inl 2), (2, .inl x), (3, .inl a), (4, .inl b), (5, .inl 1), (6, .inr (.inr 18)), (7, .inl (H.1 21 (x).toNat))]) (st' := []) rfl ?_
    refine k_run 2 (pc' := 45) (l' := [(0, .inr (.inr 361)), (1, .inl 2), (2, .inl x), (3, .inl a), (4, .inl b), (5, .inl 1), (6, .inr (.inr 18)), (7, .inl (H.1 21 (x).toNat))]) (st' := [.inl 2, .inr (.inr 361)]) rfl ?_
    have g40 : -2147483648 ≤ (H.1 361 4) ∧ (H.1 361 4) ≤ 2147483647 := kn (x := kx_361) hI rfl 4
    refine h_cv (i := 128) (j := 86) (b := 361) (M' := mt_86) (xs := [.inl 2]) (rest := []) rfl rfl rfl rfl (zs_K (x := kx_361) rfl (by decide)) rfl (Nat.le_of_ble_eq_true rfl) (Nat.le_of_ble_eq_true rfl) (by omega) (f_Reader_fails (by omega) hI (by decide)) ?_
    rintro _ H42 ⟨z45, rfl, g41, hI43, hq44⟩
    have hf46 : fq [(361, 3), (361, 4), (361, 5), (361, 9)] [362] true H H42 := fq_t (fq_rf _ _ _ _) hq44 rfl rfl rfl
    refine k_run 0 (pc' := 48) (l' := [(0, .inr (.inr 361)), (1, .inl 2), (2, .inl x), (3, .inl a), (4, .inl b), (5, .inl 1), (6, .inr (.inr 18)), (7, .inl (H.1 21 (x).toNat))]) (st' := [.inl z45]) rfl ?_
    refine h_retz (x := z45) rfl rfl (by omega) ?_
    have g47 : -2147483648 ≤ (H42.1 361 4) ∧ (H42.1 361 4) ≤ 2147483647 := kn (x := kx_361) hI43 rfl 4
    exact ⟨_, rfl, (by omega), hI43, hf46⟩

/-! Reader.readApplied -/
set_option maxRecDepth 100000 in
theorem f_readApplied_a1_cut {d : Nat} (hd : 3 ≤ d) {H : hp} (hI : Inv H) {x : Int} {a : Int} {b : Int} (hx : -2147483648 ≤ x ∧ x ≤ 2147483647) (ha : -2147483648 ≤ a ∧ a ≤ 2147483647) (hb : -2147483648 ≤ b ∧ b ≤ 2147483647) (hp0 : 0 ≤ x ∧ x < 16) (hp1 : -2 ≤ a ∧ a ≤ 100 ∧ 0 ≤ b ∧ b ≤ 10) : ∀ w : Nat, (∀ (H1 : hp), Inv H1 → fq [(361, 3), (361, 4), (361, 5), (361, 9)] [362] true H H1 → ∀ (x7 : Int) (x8 : Int) (x9 : Int) , (-2147483648 ≤ x7 ∧ x7 ≤ 2147483647) → (-2147483648 ≤ x8 ∧ x8 ≤ 2147483647) → (-2147483648 ≤ x9 ∧ x9 ≤ 2147483647) → (0 ≤ x9) → (x7 ≤ 0) → (0 ≤ x8 ∧ x8 ≤ 1) → ((x8 = 0 ∨ H1.1 361 4 = H.1 361 4)) → (((100 - x9).toNat) < w) → hG (zs zK) d mt_74 86 [(0, .inr (.inr 361)), (1, .inl 1), (2, .inl x), (3, .inl a), (4, .inl b), (5, .inl 1), (6, .inr (.inr 13)), (7, .inl x7), (8, .inl x8), (9, .inl x9)] [] H1 (fun r9 H9 => ∃ z : Int, r9 = some (.inl z) ∧ ((0 ≤ z ∧ z ≤ 1) ∧ ((z = 0 ∨ H9.1 361 4 = H.1 361 4))) ∧ Inv H9 ∧ fq [(361, 3), (361, 4), (361, 5), (361, 9)] [362] true H H9)) := by
  intro w
  induction w with
  | zero => exact fun _ _ _ _ _ _ _ _ _ _ _ _ _ h => absurd h (Nat.not_lt_zero _)
  | succ w ih =>
    intro H1 hI1 hf1 x7 x8 x9 hx7 hx8 hx9 hi0 hi1 hi2 hi3 hw
    have g48 : -2147483648 ≤ (H1.1 361 4) ∧ (H1.1 361 4) ≤ 2147483647 := kn (x := kx_361) hI1 rfl 4
    refine k_run 1 (pc' := 88) (l' := [(0, .inr (.inr 361)), (1, .inl 1), (2, .inl x), (3, .inl a), (4, .inl b), (5, .inl 1), (6, .inr (.inr 13)), (7, .inl x7), (8, .inl x8), (9, .inl x9)]) (st' := [.inl x8]) rfl ?_
    refine h_zeq (off := 33) (t := 121) rfl rfl (by omega) (fun c49 => ?_) (fun c49 => ?_)
    · refine k_run 0 (pc' := 121) (l' := [(0, .inr (.inr 361)), (1, .inl 1), (2, .inl x), (3, .inl a), (4, .inl b), (5, .inl 1), (6, .inr (.inr 13)), (7, .inl x7), (8, .inl x8), (9, .inl x9)]) (st' := []) rfl ?_
      refine k_run 1 (pc' := 123) (l' := [(0, .inr (.inr 361)), (1, .inl 1), (2, .inl x), (3, .inl a), (4, .inl b), (5, .inl 1), (6, .inr (.inr 13)), (7, .inl x7), (8, .inl x8), (9, .inl x9)]) (st' := [.inl x8]) rfl ?_
      refine h_retz (x := x8) rfl rfl (by omega) ?_
      exact ⟨_, rfl, (by omega), hI1, hf1⟩
    · refine k_run 0 (pc' := 91) (l' := [(0, .inr (.inr 361)), (1, .inl 1), (2, .inl x), (3, .inl a), (4, .inl b), (5, .inl 1), (6, .inr (.inr 13)), (7, .inl x7), (8, .inl x8), (9, .inl x9)]) (st' := []) rfl ?_
      refine k_run 2 (pc' := 95) (l' := [(0, .inr (.inr 361)), (1, .inl 1), (2, .inl x), (3, .inl a), (4, .inl b), (5, .inl 1), (6, .inr (.inr 13)), (7, .inl x7), (8, .inl x8), (9, .inl x9)]) (st' := [.inl x7, .inl x9]) rfl ?_
      refine h_ige (off := 26) (t := 121) rfl rfl (by omega) (by omega) (fun c50 => ?_) (fun c50 => ?_)
      · refine k_run 0 (pc' := 121) (l' := [(0, .inr (.inr 361)), (1, .inl 1), (2, .inl x), (3, .inl a), (4, .inl b), (5, .inl 1), (6, .inr (.inr 13)), (7, .inl x7), (8, .inl x8), (9, .inl x9)]) (st' := []) rfl ?_
        refine k_run 1 (pc' := 123) (l' := [(0, .inr (.inr 361)), (1, .inl 1), (2, .inl x), (3, .inl a), (4, .inl b), (5, .inl 1), (6, .inr (.inr 13)), (7, .inl x7), (8, .inl x8), (9, .inl x9)]) (st' := [.inl x8]) rfl ?_
        refine h_retz (x := x8) rfl rfl (by omega) ?_
        exact ⟨_, rfl, (by omega), hI1, hf1⟩
      · refine k_run 0 (pc' := 98) (l' := [(0, .inr (.inr 361)), (1, .inl 1), (2, .inl x), (3, .inl a), (4, .inl b), (5, .inl 1), (6, .inr (.inr 13)), (7, .inl x7), (8, .inl x8), (9, .inl x9)]) (st' := []) rfl ?_
        exfalso
        omega
set_option maxRecDepth 100000 in
theorem f_readApplied_a1 {d : Nat} (hd : 3 ≤ d) {H : hp} (hI : Inv H) {x : Int} {a : Int} {b : Int} (hx : -2147483648 ≤ x ∧ x ≤ 2147483647) (ha : -2147483648 ≤ a ∧ a ≤ 2147483647) (hb : -2147483648 ≤ b ∧ b ≤ 2147483647) (hp0 : 0 ≤ x ∧ x < 16) (hp1 : -2 ≤ a ∧ a ≤ 100 ∧ 0 ≤ b ∧ b ≤ 10) : hG (zs zK) d mt_74 0 (zargs 0 [.inr (.inr 361), .inl 1, .inl x, .inl a, .inl b, .inl 1]) [] H (fun r9 H9 => ∃ z : Int, r9 = some (.inl z) ∧ ((0 ≤ z ∧ z ≤ 1) ∧ ((z = 0 ∨ H9.1 361 4 = H.1 361 4))) ∧ Inv H9 ∧ fq [(361, 3), (361, 4), (361, 5), (361, 9)] [362] true H H9) := by
  refine k_run 0 (pc' := 0) (l' := [(0, .inr (.inr 361)), (1, .inl 1), (2, .inl x), (3, .inl a), (4, .inl b), (5, .inl 1)]) (st' := []) rfl ?_
  refine k_run 2 (pc' := 2) (l' := [(0, .inr (.inr 361)), (1, .inl 1), (2, .inl x), (3, .inl a), (4, .inl b), (5, .inl 1)]) (st' := [.inl 2, .inl 1]) rfl ?_
  refine h_ine (off := 13) (t := 15) rfl rfl (by decide) (by decide) (fun _ => ?_) (fun c => absurd c (by decide))
  refine k_run 0 (pc' := 15) (l' := [(0, .inr (.inr 361)), (1, .inl 1), (2, .inl x), (3, .inl a), (4, .inl b), (5, .inl 1)]) (st' := []) rfl ?_
  refine k_run 7 (pc' := 30) (l' := [(0, .inr (.inr 361)), (1, .inl 1), (2, .inl x), (3, .inl a), (4, .inl b), (5, .inl 1), (6, .inr (.inr 13))]) (st' := [.inl x, .inr (.inr 16)]) rfl ?_
  refine k_ild (c := 16) (j := (x).toNat) (i := x) (x := kx_16) rfl rfl (by decide) rfl (by decide) (by omega) (by omega) ?_
  have g1 : 0 ≤ (H.1 16 (x).toNat) ∧ (H.1 16 (x).toNat) ≤ 4 := kn (x := kx_16) hI rfl (x).toNat
  refine k_run 0 (pc' := 31) (l' := [(0, .inr (.inr 361)), (1, .inl 1), (2, .inl x), (3, .inl a), (4, .inl b), (5, .inl 1), (6, .inr (.inr 13))]) (st' := [.inl (H.1 16 (x).toNat)]) rfl ?_
  refine k_run 2 (pc' := 35) (l' := [(0, .inr (.inr 361)), (1, .inl 1), (2, .inl x), (3, .inl a), (4, .inl b), (5, .inl 1), (6, .inr (.inr 13)), (7, .inl (H.1 16 (x).toNat))]) (st' := [.inl 1]) rfl ?_
  refine h_zeq (off := 14) (t := 49) rfl rfl (by decide) (fun c => absurd c (by decide)) (fun _ => ?_)
  refine k_run 0 (pc' := 38) (l' := [(0, .inr (.inr 361)), (1, .inl 1), (2, .inl x), (3, .inl a), (4, .inl b), (5, .inl 1), (6, .inr (.inr 13)), (7, .inl (H.1 16 (x).toNat))]) (st' := []) rfl ?_
  refine k_run 1 (pc' := 40) (l' := [(0, .inr (.inr 361)), (1, .inl 1), (2, .inl x), (3, .inl a), (4, .inl b), (5, .inl 1), (6, .inr (.inr 13)), (7, .inl (H.1 16 (x).toNat))]) (st' := [.inl (H.1 16 (x).toNat)]) rfl ?_
  refine h_zle (off := 9) (t := 49) rfl rfl (by omega) (fun c2 => ?_) (fun c2 => ?_)
  · refine k_run 0 (pc' := 49) (l' := [(0, .inr (.inr 361)), (1, .inl 1), (2, .inl x), (3, .inl a), (4, .inl b), (5, .inl 1), (6, .inr (.inr 13)), (7, .inl (H.1 16 (x).toNat))]) (st' := []) rfl ?_
    refine k_run 1 (pc' := 50) (l' := [(0, .inr (.inr 361)), (1, .inl 1), (2, .inl x), (3, .inl a), (4, .inl b), (5, .inl 1), (6, .inr (.inr 13)), (7, .inl (H.1 16 (x).toNat))]) (st' := [.inl a]) rfl ?_
    refine h_zlt (off := 20) (t := 70) rfl rfl (by omega) (fun c3 => ?_) (fun c3 => ?_)
    · refine k_run 0 (pc' := 70) (l' := [(0, .inr (.inr 361)), (1, .inl 1), (2, .inl x), (3, .inl a), (4, .inl b), (5, .inl 1), (6, .inr (.inr 13)), (7, .inl (H.1 16 (x).toNat))]) (st' := []) rfl ?_
      refine k_run 4 (pc' := 75) (l' := [(0, .inr (.inr 361)), (1, .inl 1), (2, .inl x), (3, .inl a), (4, .inl b), (5, .inl 1), (6, .inr (.inr 13)), (7, .inl (H.1 16 (x).toNat))]) (st' := [.inl (H.1 16 (x).toNat), .inl x, .inl 1, .inr (.inr 361)]) rfl ?_
      refine h_cs (i := 153) (j := 48) (M' := mt_48) (xs := [.inl (H.1 16 (x).toNat), .inl x, .inl 1]) (rest := [.inr (.inr 361)]) rfl rfl rfl rfl rfl (Nat.le_of_ble_eq_true rfl) (Nat.le_of_ble_eq_true rfl) (by omega) (k_Term_codeOf (by omega)  (by decide) (by omega) (by omega)) ?_
      rintro _ _ ⟨z8, rfl, g4, rfl⟩
      refine k_run 0 (pc' := 78) (l' := [(0, .inr (.inr 361)), (1, .inl 1), (2, .inl x), (3, .inl a), (4, .inl b), (5, .inl 1), (6, .inr (.inr 13)), (7, .inl (H.1 16 (x).toNat))]) (st' := [.inl z8, .inr (.inr 361)]) rfl ?_
      have g9 : -2147483648 ≤ (H.1 361 4) ∧ (H.1 361 4) ≤ 2147483647 := kn (x := kx_361) hI rfl 4
      refine h_cv (i := 157) (j := 77) (b := 361) (M' := mt_77) (xs := [.inl z8]) (rest := []) rfl rfl rfl rfl (zs_K (x := kx_361) rfl (by decide)) rfl (Nat.le_of_ble_eq_true rfl) (Nat.le_of_ble_eq_true rfl) (by omega) (f_Reader_addName (by omega) hI (by omega)) ?_
      rintro _ H11 ⟨z14, rfl, g10, hI12, hq13⟩
      have hf15 : fq [(361, 3), (361, 4), (361, 5), (361, 9)] [362] true H H11 := fq_t (fq_rf _ _ _ _) hq13 rfl rfl rfl
      refine k_run 0 (pc' := 81) (l' := [(0, .inr (.inr 361)), (1, .inl 1), (2, .inl x), (3, .inl a), (4, .inl b), (5, .inl 1), (6, .inr (.inr 13)), (7, .inl (H.1 16 (x).toNat))]) (st' := [.inl z14]) rfl ?_
      refine k_run 3 (pc' := 86) (l' := [(0, .inr (.inr 361)), (1, .inl 1), (2, .inl x), (3, .inl a), (4, .inl b), (5, .inl 1), (6, .inr (.inr 13)), (7, .inl (H.1 16 (x).toNat)), (8, .inl z14), (9, .inl 0)]) (st' := []) rfl ?_
      have g16 : -2147483648 ≤ (H11.1 361 4) ∧ (H11.1 361 4) ≤ 2147483647 := kn (x := kx_361) hI12 rfl 4
      exact (f_readApplied_a1_cut hd hI hx ha hb hp0 hp1 _) H11 hI12 hf15 (H.1 16 (x).toNat) z14 (0 : Int) (by omega) (by omega) (by decide) (by omega) (by omega) (by omega) (by omega) (Nat.lt_succ_self _)
    · refine k_run 0 (pc' := 53) (l' := [(0, .inr (.inr 361)), (1, .inl 1), (2, .inl x), (3, .inl a), (4, .inl b), (5, .inl 1), (6, .inr (.inr 13)), (7, .inl (H.1 16 (x).toNat))]) (st' := []) rfl ?_
      refine k_run 3 (pc' := 59) (l' := [(0, .inr (.inr 361)), (1, .inl 1), (2, .inl x), (3, .inl a), (4, .inl b), (5, .inl 1), (6, .inr (.inr 13)), (7, .inl (H.1 16 (x).toNat))]) (st' := [.inl x, .inr (.inr 15)]) rfl ?_
      refine k_ild (c := 15) (j := (x).toNat) (i := x) (x := kx_15) rfl rfl (by decide) rfl (by decide) (by omega) (by omega) ?_
      have g17 : -2 ≤ (H.1 15 (x).toNat) ∧ (H.1 15 (x).toNat) ≤ 100 := kn (x := kx_15) hI rfl (x).toNat
      refine k_run 0 (pc' := 60) (l' := [(0, .inr (.inr 361)), (1, .inl 1), (2, .inl x), (3, .inl a), (4, .inl b), (5, .inl 1), (6, .inr (.inr 13)), (7, .inl (H.1 16 (x).toNat))]) (st' := [.inl (H.1 15 (x).toNat)]) rfl ?_
      refine k_run 1 (pc' := 61) (l' := [(0, .inr (.inr 361)), (1, .inl 1), (2, .inl x), (3, .inl a), (4, .inl b), (5, .inl 1), (6, .inr (.inr 13)), (7, .inl (H.1 16 (x).toNat))]) (st' := [.inl a, .inl (H.1 15 (x).toNat)]) rfl ?_
      refine h_ieq (off := 9) (t := 70) rfl rfl (by omega) (by omega) (fun c18 => ?_) (fun c18 => ?_)
      · refine k_run 0 (pc' := 70) (l' := [(0, .inr (.inr 361)), (1, .inl 1), (2, .inl x), (3, .inl a), (4, .inl b), (5, .inl 1), (6, .inr (.inr 13)), (7, .inl (H.1 16 (x).toNat))]) (st' := []) rfl ?_
        refine k_run 4 (pc' := 75) (l' := [(0, .inr (.inr 361)), (1, .inl 1), (2, .inl x), (3, .inl a), (4, .inl b), (5, .inl 1), (6, .inr (.inr 13)), (7, .inl (H.1 16 (x).toNat))]) (st' := [.inl (H.1 16 (x).toNat), .inl x, .inl 1, .inr (.inr 361)]) rfl ?_
        refine h_cs (i := 153) (j := 48) (M' := mt_48) (xs := [.inl (H.1 16 (x).toNat), .inl x, .inl 1]) (rest := [.inr (.inr 361)]) rfl rfl rfl rfl rfl (Nat.le_of_ble_eq_true rfl) (Nat.le_of_ble_eq_true rfl) (by omega) (k_Term_codeOf (by omega)  (by decide) (by omega) (by omega)) ?_
        rintro _ _ ⟨z23, rfl, g19, rfl⟩
        refine k_run 0 (pc' := 78) (l' := [(0, .inr (.inr 361)), (1, .inl 1), (2, .inl x), (3, .inl a), (4, .inl b), (5, .inl 1), (6, .inr (.inr 13)), (7, .inl (H.1 16 (x).toNat))]) (st' := [.inl z23, .inr (.inr 361)]) rfl ?_
        have g24 : -2147483648 ≤ (H.1 361 4) ∧ (H.1 361 4) ≤ 2147483647 := kn (x := kx_361) hI rfl 4
        refine h_cv (i := 157) (j := 77) (b := 361) (M' := mt_77) (xs := [.inl z23]) (rest := []) rfl rfl rfl rfl (zs_K (x := kx_361) rfl (by decide)) rfl (Nat.le_of_ble_eq_true rfl) (Nat.le_of_ble_eq_true rfl) (by omega) (f_Reader_addName (by omega) hI (by omega)) ?_
        rintro _ H26 ⟨z29, rfl, g25, hI27, hq28⟩
        have hf30 : fq [(361, 3), (361, 4), (361, 5), (361, 9)] [362] true H H26 := fq_t (fq_rf _ _ _ _) hq28 rfl rfl rfl
        refine k_run 0 (pc' := 81) (l' := [(0, .inr (.inr 361)), (1, .inl 1), (2, .inl x), (3, .inl a), (4, .inl b), (5, .inl 1), (6, .inr (.inr 13)), (7, .inl (H.1 16 (x).toNat))]) (st' := [.inl z29]) rfl ?_
        refine k_run 3 (pc' := 86) (l' := [(0, .inr (.inr 361)), (1, .inl 1), (2, .inl x), (3, .inl a), (4, .inl b), (5, .inl 1), (6, .inr (.inr 13)), (7, .inl (H.1 16 (x).toNat)), (8, .inl z29), (9, .inl 0)]) (st' := []) rfl ?_
        have g31 : -2147483648 ≤ (H26.1 361 4) ∧ (H26.1 361 4) ≤ 2147483647 := kn (x := kx_361) hI27 rfl 4
        exact (f_readApplied_a1_cut hd hI hx ha hb hp0 hp1 _) H26 hI27 hf30 (H.1 16 (x).toNat) z29 (0 : Int) (by omega) (by omega) (by decide) (by omega) (by omega) (by omega) (by omega) (Nat.lt_succ_self _)
      · refine k_run 0 (pc' := 64) (l' := [(0, .inr (.inr 361)), (1, .inl 1), (2, .inl x), (3, .inl a), (4, .inl b), (5, .inl 1), (6, .inr (.inr 13)), (7, .inl (H.1 16 (x).toNat))]) (st' := []) rfl ?_
        refine k_run 2 (pc' := 66) (l' := [(0, .inr (.inr 361)), (1, .inl 1), (2, .inl x), (3, .inl a), (4, .inl b), (5, .inl 1), (6, .inr (.inr 13)), (7, .inl (H.1 16 (x).toNat))]) (st' := [.inl 4, .inr (.inr 361)]) rfl ?_
        have g32 : -2147483648 ≤ (H.1 361 4) ∧ (H.1 361 4) ≤ 2147483647 := kn (x := kx_361) hI rfl 4
        refine h_cv (i := 128) (j := 86) (b := 361) (M' := mt_86) (xs := [.inl 4]) (rest := []) rfl rfl rfl rfl (zs_K (x := kx_361) rfl (by decide)) rfl (Nat.le_of_ble_eq_true rfl) (Nat.le_of_ble_eq_true rfl) (by omega) (f_Reader_fails (by omega) hI (by decide)) ?_
        rintro _ H34 ⟨z37, rfl, g33, hI35, hq36⟩
        have hf38 : fq [(361, 3), (361, 4), (361, 5), (361, 9)] [362] true H H34 := fq_t (fq_rf _ _ _ _) hq36 rfl rfl rfl
        refine k_run 0 (pc' := 69) (l' := [(0, .inr (.inr 361)), (1, .inl 1), (2, .inl x), (3, .inl a), (4, .inl b), (5, .inl 1), (6, .inr (.inr 13)), (7, .inl (H.1 16 (x).toNat))]) (st' := [.inl z37]) rfl ?_
        refine h_retz (x := z37) rfl rfl (by omega) ?_
        have g39 : -2147483648 ≤ (H34.1 361 4) ∧ (H34.1 361 4) ≤ 2147483647 := kn (x := kx_361) hI35 rfl 4
        exact ⟨_, rfl, (by omega), hI35, hf38⟩
  · refine k_run 0 (pc' := 43) (l' := [(0, .inr (.inr 361)), (1, .inl 1), (2, .inl x), (3, .inl a), (4, .inl b), (5, .inl 1), (6, .inr (.inr 13)), (7, .inl (H.1 16 (x).toNat))]) (st' := []) rfl ?_
    refine k_run 2 (pc' := 45) (l' := [(0, .inr (.inr 361)), (1, .inl 1), (2, .inl x), (3, .inl a), (4, .inl b), (5, .inl 1), (6, .inr (.inr 13)), (7, .inl (H.1 16 (x).toNat))]) (st' := [.inl 2, .inr (.inr 361)]) rfl ?_
    have g40 : -2147483648 ≤ (H.1 361 4) ∧ (H.1 361 4) ≤ 2147483647 := kn (x := kx_361) hI rfl 4
    refine h_cv (i := 128) (j := 86) (b := 361) (M' := mt_86) (xs := [.inl 2]) (rest := []) rfl rfl rfl rfl (zs_K (x := kx_361) rfl (by decide)) rfl (Nat.le_of_ble_eq_true rfl) (Nat.le_of_ble_eq_true rfl) (by omega) (f_Reader_fails (by omega) hI (by decide)) ?_
    rintro _ H42 ⟨z45, rfl, g41, hI43, hq44⟩
    have hf46 : fq [(361, 3), (361, 4), (361, 5), (361, 9)] [362] true H H42 := fq_t (fq_rf _ _ _ _) hq44 rfl rfl rfl
    refine k_run 0 (pc' := 48) (l' := [(0, .inr (.inr 361)), (1, .inl 1), (2, .inl x), (3, .inl a), (4, .inl b), (5, .inl 1), (6, .inr (.inr 13)), (7, .inl (H.1 16 (x).toNat))]) (st' := [.inl z45]) rfl ?_
    refine h_retz (x := z45) rfl rfl (by omega) ?_
    have g47 : -2147483648 ≤ (H42.1 361 4) ∧ (H42.1 361 4) ≤ 2147483647 := kn (x := kx_361) hI43 rfl 4
    exact ⟨_, rfl, (by omega), hI43, hf46⟩

/-! Reader.readTerm -/
set_option maxRecDepth 100000 in
theorem f_readTerm_1 {m : Nat} {d : Nat} (hd : 3 * m + 8 ≤ d) {H : hp} (hI : Inv H) {a : Int} {b : Int} (ha : -2147483648 ≤ a ∧ a ≤ 2147483647) (hb : -2147483648 ≤ b ∧ b ≤ 2147483647) (hp0 : -2 ≤ a ∧ a ≤ 100 ∧ 0 ≤ b ∧ b ≤ 10 ∧ 10 ≤ b + (m : Int)) (hR : ∀ m1, m1 < m → RTc9 m1) : hG (zs zK) d mt_73 0 (zargs 0 [.inr (.inr 361), .inl a, .inl b, .inl 1]) [] H (fun r9 H9 => ∃ z : Int, r9 = some (.inl z) ∧ ((0 ≤ z ∧ z ≤ 1) ∧ ((z = 0 ∨ H9.1 361 4 = H.1 361 4))) ∧ Inv H9 ∧ fq [(361, 3), (361, 4), (361, 5), (361, 9)] [362] true H H9) := by
  refine k_run 0 (pc' := 0) (l' := [(0, .inr (.inr 361)), (1, .inl a), (2, .inl b), (3, .inl 1)]) (st' := []) rfl ?_
  refine k_run 1 (pc' := 1) (l' := [(0, .inr (.inr 361)), (1, .inl a), (2, .inl b), (3, .inl 1)]) (st' := [.inr (.inr 361)]) rfl ?_
  refine h_cv (i := 72) (j := 83) (b := 361) (M' := mt_83) (xs := []) (rest := []) rfl rfl rfl rfl (zs_K (x := kx_361) rfl (by decide)) rfl (Nat.le_of_ble_eq_true rfl) (Nat.le_of_ble_eq_true rfl) (by omega) (f_Reader_token (by omega) hI ) ?_
  rintro _ _ ⟨z5, rfl, g1, rfl⟩
  refine k_run 0 (pc' := 4) (l' := [(0, .inr (.inr 361)), (1, .inl a), (2, .inl b), (3, .inl 1)]) (st' := [.inl z5]) rfl ?_
  rcases (show (z5 ≠ 2 ∧ z5 ≠ 3 ∧ z5 ≠ 40 ∧ z5 ≠ 95) ∨ z5 = 2 ∨ z5 = 3 ∨ z5 = 40 ∨ z5 = 95 by omega) with c6 | c6 | c6 | c6 | c6
  · refine k_lsw (t := 193) rfl (by omega) (by decide) (lsw_no (by intro q9 hq9; simp only [List.mem_cons, List.not_mem_nil, or_false] at hq9; rcases hq9 with rfl | rfl | rfl | rfl <;> (dsimp only; omega))) rfl ?_
    refine k_run 1 (pc' := 194) (l' := [(0, .inr (.inr 361)), (1, .inl a), (2, .inl b), (3, .inl 1)]) (st' := [.inr (.inr 361)]) rfl ?_
    have g7 : -2147483648 ≤ (H.1 361 4) ∧ (H.1 361 4) ≤ 2147483647 := kn (x := kx_361) hI rfl 4
    refine h_cv (i := 89) (j := 85) (b := 361) (M' := mt_85) (xs := []) (rest := []) rfl rfl rfl rfl (zs_K (x := kx_361) rfl (by decide)) rfl (Nat.le_of_ble_eq_true rfl) (Nat.le_of_ble_eq_true rfl) (by omega) (f_Reader_misplaced (by omega) hI ) ?_
    rintro _ H9 ⟨z12, rfl, g8, hI10, hq11⟩
    have hf13 : fq [(361, 3), (361, 4), (361, 5), (361, 9)] [362] true H H9 := fq_t (fq_rf _ _ _ _) hq11 rfl rfl rfl
    refine k_run 0 (pc' := 197) (l' := [(0, .inr (.inr 361)), (1, .inl a), (2, .inl b), (3, .inl 1)]) (st' := [.inl z12]) rfl ?_
    refine h_retz (x := z12) rfl rfl (by omega) ?_
    have g14 : -2147483648 ≤ (H9.1 361 4) ∧ (H9.1 361 4) ≤ 2147483647 := kn (x := kx_361) hI10 rfl 4
    exact ⟨_, rfl, (by omega), hI10, hf13⟩
  · refine k_lsw (t := 48) rfl (by omega) (by decide) (by rw [c6]) rfl ?_
    refine k_run 4 (pc' := 56) (l' := [(0, .inr (.inr 361)), (1, .inl a), (2, .inl b), (3, .inl 1)]) (st' := [.inr (.inr 361), .inr (.inr 18)]) rfl ?_
    refine h_cv (i := 120) (j := 84) (b := 361) (M' := mt_84) (xs := []) (rest := [.inr (.inr 18)]) rfl rfl rfl rfl (zs_K (x := kx_361) rfl (by decide)) rfl (Nat.le_of_ble_eq_true rfl) (Nat.le_of_ble_eq_true rfl) (by omega) (f_Reader_name (by omega) hI ) ?_
    rintro _ _ ⟨z19, rfl, g15, rfl⟩
    refine k_run 0 (pc' := 59) (l' := [(0, .inr (.inr 361)), (1, .inl a), (2, .inl b), (3, .inl 1)]) (st' := [.inr (.inl z19), .inr (.inr 18)]) rfl ?_
    have g20 : 0 ≤ (H.1 18 4) ∧ (H.1 18 4) ≤ 16 := kn (x := kx_18) hI rfl 4
    refine h_cv (i := 124) (j := 41) (b := 18) (M' := mt_41) (xs := [.inr (.inl z19)]) (rest := []) rfl rfl rfl rfl (zs_K (x := kx_18) rfl (by decide)) rfl (Nat.le_of_ble_eq_true rfl) (Nat.le_of_ble_eq_true rfl) (by omega) (k_Symbols_find_18 (by omega) hI ) ?_
    rintro _ _ ⟨z25, rfl, g21, rfl⟩
    refine k_run 0 (pc' := 62) (l' := [(0, .inr (.inr 361)), (1, .inl a), (2, .inl b), (3, .inl 1)]) (st' := [.inl z25]) rfl ?_
    refine k_run 2 (pc' := 66) (l' := [(0, .inr (.inr 361)), (1, .inl a), (2, .inl b), (3, .inl 1), (4, .inl z25)]) (st' := [.inl z25]) rfl ?_
    refine h_zge (off := 9) (t := 75) rfl rfl (by omega) (fun c26 => ?_) (fun c26 => ?_)
    · refine k_run 0 (pc' := 75) (l' := [(0, .inr (.inr 361)), (1, .inl a), (2, .inl b), (3, .inl 1), (4, .inl z25)]) (st' := []) rfl ?_
      refine k_run 6 (pc' := 82) (l' := [(0, .inr (.inr 361)), (1, .inl a), (2, .inl b), (3, .inl 1), (4, .inl z25)]) (st' := [.inl 1, .inl b, .inl a, .inl z25, .inl 2, .inr (.inr 361)]) rfl ?_
      have g27 : -2147483648 ≤ (H.1 361 4) ∧ (H.1 361 4) ≤ 2147483647 := kn (x := kx_361) hI rfl 4
      refine h_cv (i := 215) (j := 74) (b := 361) (M' := mt_74) (xs := [.inl 1, .inl b, .inl a, .inl z25, .inl 2]) (rest := []) rfl rfl rfl rfl (zs_K (x := kx_361) rfl (by decide)) rfl (Nat.le_of_ble_eq_true rfl) (Nat.le_of_ble_eq_true rfl) (by omega) (f_readApplied_a2 (by omega) hI (by omega) (by omega) (by omega) (by omega) (by omega)) ?_
      rintro _ H29 ⟨z32, rfl, g28, hI30, hq31⟩
      have hf33 : fq [(361, 3), (361, 4), (361, 5), (361, 9)] [362] true H H29 := fq_t (fq_rf _ _ _ _) hq31 rfl rfl rfl
      refine k_run 0 (pc' := 85) (l' := [(0, .inr (.inr 361)), (1, .inl a), (2, .inl b), (3, .inl 1), (4, .inl z25)]) (st' := [.inl z32]) rfl ?_
      refine h_retz (x := z32) rfl rfl (by omega) ?_
      have g34 : -2147483648 ≤ (H29.1 361 4) ∧ (H29.1 361 4) ≤ 2147483647 := kn (x := kx_361) hI30 rfl 4
      exact ⟨_, rfl, (by omega), hI30, hf33⟩
    · refine k_run 0 (pc' := 69) (l' := [(0, .inr (.inr 361)), (1, .inl a), (2, .inl b), (3, .inl 1), (4, .inl z25)]) (st' := []) rfl ?_
      refine k_run 2 (pc' := 71) (l' := [(0, .inr (.inr 361)), (1, .inl a), (2, .inl b), (3, .inl 1), (4, .inl z25)]) (st' := [.inl a, .inr (.inr 361)]) rfl ?_
      have g35 : -2147483648 ≤ (H.1 361 4) ∧ (H.1 361 4) ≤ 2147483647 := kn (x := kx_361) hI rfl 4
      refine h_cv (i := 212) (j := 75) (b := 361) (M' := mt_75) (xs := [.inl a]) (rest := []) rfl rfl rfl rfl (zs_K (x := kx_361) rfl (by decide)) rfl (Nat.le_of_ble_eq_true rfl) (Nat.le_of_ble_eq_true rfl) (by omega) (f_Reader_readVariable (by omega) hI (by omega) (by omega)) ?_
      rintro _ H37 ⟨z40, rfl, g36, hI38, hq39⟩
      have hf41 : fq [(361, 3), (361, 4), (361, 5), (361, 9)] [362] true H H37 := fq_t (fq_rf _ _ _ _) hq39 rfl rfl rfl
      refine k_run 0 (pc' := 74) (l' := [(0, .inr (.inr 361)), (1, .inl a), (2, .inl b), (3, .inl 1), (4, .inl z25)]) (st' := [.inl z40]) rfl ?_
      refine h_retz (x := z40) rfl rfl (by omega) ?_
      have g42 : -2147483648 ≤ (H37.1 361 4) ∧ (H37.1 361 4) ≤ 2147483647 := kn (x := kx_361) hI38 rfl 4
      exact ⟨_, rfl, (by omega), hI38, hf41⟩
  · refine k_lsw (t := 86) rfl (by omega) (by decide) (by rw [c6]) rfl ?_
    refine k_run 4 (pc' := 94) (l' := [(0, .inr (.inr 361)), (1, .inl a), (2, .inl b), (3, .inl 1)]) (st' := [.inr (.inr 361), .inr (.inr 13)]) rfl ?_
    refine h_cv (i := 120) (j := 84) (b := 361) (M' := mt_84) (xs := []) (rest := [.inr (.inr 13)]) rfl rfl rfl rfl (zs_K (x := kx_361) rfl (by decide)) rfl (Nat.le_of_ble_eq_true rfl) (Nat.le_of_ble_eq_true rfl) (by omega) (f_Reader_name (by omega) hI ) ?_
    rintro _ _ ⟨z47, rfl, g43, rfl⟩
    refine k_run 0 (pc' := 97) (l' := [(0, .inr (.inr 361)), (1, .inl a), (2, .inl b), (3, .inl 1)]) (st' := [.inr (.inl z47), .inr (.inr 13)]) rfl ?_
    have g48 : 0 ≤ (H.1 13 4) ∧ (H.1 13 4) ≤ 16 := kn (x := kx_13) hI rfl 4
    refine h_cv (i := 124) (j := 41) (b := 13) (M' := mt_41) (xs := [.inr (.inl z47)]) (rest := []) rfl rfl rfl rfl (zs_K (x := kx_13) rfl (by decide)) rfl (Nat.le_of_ble_eq_true rfl) (Nat.le_of_ble_eq_true rfl) (by omega) (k_Symbols_find_13 (by omega) hI ) ?_
    rintro _ _ ⟨z53, rfl, g49, rfl⟩
    refine k_run 0 (pc' := 100) (l' := [(0, .inr (.inr 361)), (1, .inl a), (2, .inl b), (3, .inl 1)]) (st' := [.inl z53]) rfl ?_
    refine k_run 2 (pc' := 104) (l' := [(0, .inr (.inr 361)), (1, .inl a), (2, .inl b), (3, .inl 1), (5, .inl z53)]) (st' := [.inl z53]) rfl ?_
    refine h_zge (off := 9) (t := 113) rfl rfl (by omega) (fun c54 => ?_) (fun c54 => ?_)
    · refine k_run 0 (pc' := 113) (l' := [(0, .inr (.inr 361)), (1, .inl a), (2, .inl b), (3, .inl 1), (5, .inl z53)]) (st' := []) rfl ?_
      refine k_run 6 (pc' := 120) (l' := [(0, .inr (.inr 361)), (1, .inl a), (2, .inl b), (3, .inl 1), (5, .inl z53)]) (st' := [.inl 1, .inl b, .inl a, .inl z53, .inl 1, .inr (.inr 361)]) rfl ?_
      have g55 : -2147483648 ≤ (H.1 361 4) ∧ (H.1 361 4) ≤ 2147483647 := kn (x := kx_361) hI rfl 4
      refine h_cv (i := 215) (j := 74) (b := 361) (M' := mt_74) (xs := [.inl 1, .inl b, .inl a, .inl z53, .inl 1]) (rest := []) rfl rfl rfl rfl (zs_K (x := kx_361) rfl (by decide)) rfl (Nat.le_of_ble_eq_true rfl) (Nat.le_of_ble_eq_true rfl) (by omega) (f_readApplied_a1 (by omega) hI (by omega) (by omega) (by omega) (by omega) (by omega)) ?_
      rintro _ H57 ⟨z60, rfl, g56, hI58, hq59⟩
      have hf61 : fq [(361, 3), (361, 4), (361, 5), (361, 9)] [362] true H H57 := fq_t (fq_rf _ _ _ _) hq59 rfl rfl rfl
      refine k_run 0 (pc' := 123) (l' := [(0, .inr (.inr 361)), (1, .inl a), (2, .inl b), (3, .inl 1), (5, .inl z53)]) (st' := [.inl z60]) rfl ?_
      refine h_retz (x := z60) rfl rfl (by omega) ?_
      have g62 : -2147483648 ≤ (H57.1 361 4) ∧ (H57.1 361 4) ≤ 2147483647 := kn (x := kx_361) hI58 rfl 4
      exact ⟨_, rfl, (by omega), hI58, hf61⟩
    · refine k_run 0 (pc' := 107) (l' := [(0, .inr (.inr 361)), (1, .inl a), (2, .inl b), (3, .inl 1), (5, .inl z53)]) (st' := []) rfl ?_
      refine k_run 2 (pc' := 109) (l' := [(0, .inr (.inr 361)), (1, .inl a), (2, .inl b), (3, .inl 1), (5, .inl z53)]) (st' := [.inl 3, .inr (.inr 361)]) rfl ?_
      have g63 : -2147483648 ≤ (H.1 361 4) ∧ (H.1 361 4) ≤ 2147483647 := kn (x := kx_361) hI rfl 4
      refine h_cv (i := 128) (j := 86) (b := 361) (M' := mt_86) (xs := [.inl 3]) (rest := []) rfl rfl rfl rfl (zs_K (x := kx_361) rfl (by decide)) rfl (Nat.le_of_ble_eq_true rfl) (Nat.le_of_ble_eq_true rfl) (by omega) (f_Reader_fails (by omega) hI (by decide)) ?_
      rintro _ H65 ⟨z68, rfl, g64, hI66, hq67⟩
      have hf69 : fq [(361, 3), (361, 4), (361, 5), (361, 9)] [362] true H H65 := fq_t (fq_rf _ _ _ _) hq67 rfl rfl rfl
      refine k_run 0 (pc' := 112) (l' := [(0, .inr (.inr 361)), (1, .inl a), (2, .inl b), (3, .inl 1), (5, .inl z53)]) (st' := [.inl z68]) rfl ?_
      refine h_retz (x := z68) rfl rfl (by omega) ?_
      have g70 : -2147483648 ≤ (H65.1 361 4) ∧ (H65.1 361 4) ≤ 2147483647 := kn (x := kx_361) hI66 rfl 4
      exact ⟨_, rfl, (by omega), hI66, hf69⟩
  · refine k_lsw (t := 144) rfl (by omega) (by decide) (by rw [c6]) rfl ?_
    refine k_run 2 (pc' := 147) (l' := [(0, .inr (.inr 361)), (1, .inl a), (2, .inl b), (3, .inl 1)]) (st' := [.inl 10, .inl b]) rfl ?_
    refine h_ilt (off := 9) (t := 156) rfl rfl (by omega) (by decide) (fun c71 => ?_) (fun c71 => ?_)
    · refine k_run 0 (pc' := 156) (l' := [(0, .inr (.inr 361)), (1, .inl a), (2, .inl b), (3, .inl 1)]) (st' := []) rfl ?_
      refine k_run 3 (pc' := 161) (l' := [(0, .inr (.inr 361)), (1, .inl a), (2, .inl b), (3, .inl 1)]) (st' := [.inl (H.1 361 3), .inr (.inr 361)]) rfl ?_
      have g72 : -2147483648 ≤ (H.1 361 3) ∧ (H.1 361 3) ≤ 2147483647 := kn (x := kx_361) hI rfl 3
      refine k_run 2 (pc' := 163) (l' := [(0, .inr (.inr 361)), (1, .inl a), (2, .inl b), (3, .inl 1)]) (st' := [.inl ((H.1 361 3) + 1), .inr (.inr 361)]) rfl ?_
      refine k_putw (a := 361) (x := kx_361) rfl rfl rfl (by decide) (by decide) rfl rfl rfl rfl hI rfl (fun H73 hI74 hw75 => ?_)
      have hf77 : fq [(361, 3), (361, 4), (361, 5), (361, 9)] [362] true H H73 := fq_w (fq_rf _ _ _ _) hw75 (fpo (by decide) rfl)
      refine k_run 0 (pc' := 166) (l' := [(0, .inr (.inr 361)), (1, .inl a), (2, .inl b), (3, .inl 1)]) (st' := []) rfl ?_
      refine k_run 6 (pc' := 172) (l' := [(0, .inr (.inr 361)), (1, .inl a), (2, .inl b), (3, .inl 1)]) (st' := [.inl 0, .inl (b + 1), .inl a, .inr (.inr 361)]) rfl ?_
      have g78 : -2147483648 ≤ (H73.1 361 4) ∧ (H73.1 361 4) ≤ 2147483647 := kn (x := kx_361) hI74 rfl 4
      have e79 : (H73.1 361 4) = (H.1 361 4) := hw75.2 _ _ (fun q => absurd q.2 (by decide))
      refine h_cv (i := 109) (j := 73) (b := 361) (M' := mt_73) (xs := [.inl 0, .inl (b + 1), .inl a]) (rest := []) rfl rfl rfl rfl (zs_K (x := kx_361) rfl (by decide)) rfl (Nat.le_of_ble_eq_true rfl) (Nat.le_of_ble_eq_true rfl) (by omega) (hR (m - 1) (by omega) (by omega) hI74 (by omega) (by omega) (by decide) (by omega)) ?_
      rintro _ H81 ⟨z84, rfl, g80, hI82, hq83⟩
      have hf85 : fq [(361, 3), (361, 4), (361, 5), (361, 9)] [362] true H H81 := fq_t hf77 hq83 rfl rfl rfl
      refine k_run 0 (pc' := 175) (l' := [(0, .inr (.inr 361)), (1, .inl a), (2, .inl b), (3, .inl 1)]) (st' := [.inl z84]) rfl ?_
      refine h_zeq (off := 16) (t := 191) rfl rfl (by omega) (fun c86 => ?_) (fun c86 => ?_)
      · refine k_run 0 (pc' := 191) (l' := [(0, .inr (.inr 361)), (1, .inl a), (2, .inl b), (3, .inl 1)]) (st' := []) rfl ?_
        refine k_run 1 (pc' := 192) (l' := [(0, .inr (.inr 361)), (1, .inl a), (2, .inl b), (3, .inl 1)]) (st' := [.inl 0]) rfl ?_
        refine h_retz (x := 0) rfl rfl (by decide) ?_
        have g87 : -2147483648 ≤ (H81.1 361 4) ∧ (H81.1 361 4) ≤ 2147483647 := kn (x := kx_361) hI82 rfl 4
        exact ⟨_, rfl, (by omega), hI82, hf85⟩
      · refine k_run 0 (pc' := 178) (l' := [(0, .inr (.inr 361)), (1, .inl a), (2, .inl b), (3, .inl 1)]) (st' := []) rfl ?_
        refine k_run 2 (pc' := 181) (l' := [(0, .inr (.inr 361)), (1, .inl a), (2, .inl b), (3, .inl 1)]) (st' := [.inl 41, .inr (.inr 361)]) rfl ?_
        have g88 : -2147483648 ≤ (H81.1 361 4) ∧ (H81.1 361 4) ≤ 2147483647 := kn (x := kx_361) hI82 rfl 4
        refine h_cv (i := 92) (j := 82) (b := 361) (M' := mt_82) (xs := [.inl 41]) (rest := []) rfl rfl rfl rfl (zs_K (x := kx_361) rfl (by decide)) rfl (Nat.le_of_ble_eq_true rfl) (Nat.le_of_ble_eq_true rfl) (by omega) (f_Reader_take (by omega) hI82 (by decide)) ?_
        rintro _ H90 ⟨z93, rfl, g89, hI91, hq92⟩
        have hf94 : fq [(361, 3), (361, 4), (361, 5), (361, 9)] [362] true H H90 := fq_t hf85 hq92 rfl rfl rfl
        refine k_run 0 (pc' := 184) (l' := [(0, .inr (.inr 361)), (1, .inl a), (2, .inl b), (3, .inl 1)]) (st' := [.inl z93]) rfl ?_
        refine h_zeq (off := 7) (t := 191) rfl rfl (by omega) (fun c95 => ?_) (fun c95 => ?_)
        · refine k_run 0 (pc' := 191) (l' := [(0, .inr (.inr 361)), (1, .inl a), (2, .inl b), (3, .inl 1)]) (st' := []) rfl ?_
          refine k_run 1 (pc' := 192) (l' := [(0, .inr (.inr 361)), (1, .inl a), (2, .inl b), (3, .inl 1)]) (st' := [.inl 0]) rfl ?_
          refine h_retz (x := 0) rfl rfl (by decide) ?_
          have g96 : -2147483648 ≤ (H90.1 361 4) ∧ (H90.1 361 4) ≤ 2147483647 := kn (x := kx_361) hI91 rfl 4
          exact ⟨_, rfl, (by omega), hI91, hf94⟩
        · refine k_run 0 (pc' := 187) (l' := [(0, .inr (.inr 361)), (1, .inl a), (2, .inl b), (3, .inl 1)]) (st' := []) rfl ?_
          refine k_run 2 (pc' := 192) (l' := [(0, .inr (.inr 361)), (1, .inl a), (2, .inl b), (3, .inl 1)]) (st' := [.inl 1]) rfl ?_
          refine h_retz (x := 1) rfl rfl (by decide) ?_
          have g97 : -2147483648 ≤ (H90.1 361 4) ∧ (H90.1 361 4) ≤ 2147483647 := kn (x := kx_361) hI91 rfl 4
          exact ⟨_, rfl, (by omega), hI91, hf94⟩
    · refine k_run 0 (pc' := 150) (l' := [(0, .inr (.inr 361)), (1, .inl a), (2, .inl b), (3, .inl 1)]) (st' := []) rfl ?_
      refine k_run 2 (pc' := 152) (l' := [(0, .inr (.inr 361)), (1, .inl a), (2, .inl b), (3, .inl 1)]) (st' := [.inl 5, .inr (.inr 361)]) rfl ?_
      have g98 : -2147483648 ≤ (H.1 361 4) ∧ (H.1 361 4) ≤ 2147483647 := kn (x := kx_361) hI rfl 4
      refine h_cv (i := 128) (j := 86) (b := 361) (M' := mt_86) (xs := [.inl 5]) (rest := []) rfl rfl rfl rfl (zs_K (x := kx_361) rfl (by decide)) rfl (Nat.le_of_ble_eq_true rfl) (Nat.le_of_ble_eq_true rfl) (by omega) (f_Reader_fails (by omega) hI (by decide)) ?_
      rintro _ H100 ⟨z103, rfl, g99, hI101, hq102⟩
      have hf104 : fq [(361, 3), (361, 4), (361, 5), (361, 9)] [362] true H H100 := fq_t (fq_rf _ _ _ _) hq102 rfl rfl rfl
      refine k_run 0 (pc' := 155) (l' := [(0, .inr (.inr 361)), (1, .inl a), (2, .inl b), (3, .inl 1)]) (st' := [.inl z103]) rfl ?_
      refine h_retz (x := z103) rfl rfl (by omega) ?_
      have g105 : -2147483648 ≤ (H100.1 361 4) ∧ (H100.1 361 4) ≤ 2147483647 := kn (x := kx_361) hI101 rfl 4
      exact ⟨_, rfl, (by omega), hI101, hf104⟩
  · refine k_lsw (t := 124) rfl (by omega) (by decide) (by rw [c6]) rfl ?_
    refine k_run 2 (pc' := 127) (l' := [(0, .inr (.inr 361)), (1, .inl a), (2, .inl b), (3, .inl 1)]) (st' := [.inl (-2), .inl a]) rfl ?_
    refine h_ine (off := 11) (t := 138) rfl rfl (by omega) (by decide) (fun c106 => ?_) (fun c106 => ?_)
    · refine k_run 0 (pc' := 138) (l' := [(0, .inr (.inr 361)), (1, .inl a), (2, .inl b), (3, .inl 1)]) (st' := []) rfl ?_
      refine k_run 2 (pc' := 140) (l' := [(0, .inr (.inr 361)), (1, .inl a), (2, .inl b), (3, .inl 1)]) (st' := [.inl 0, .inr (.inr 361)]) rfl ?_
      have g107 : -2147483648 ≤ (H.1 361 4) ∧ (H.1 361 4) ≤ 2147483647 := kn (x := kx_361) hI rfl 4
      refine h_cv (i := 157) (j := 77) (b := 361) (M' := mt_77) (xs := [.inl 0]) (rest := []) rfl rfl rfl rfl (zs_K (x := kx_361) rfl (by decide)) rfl (Nat.le_of_ble_eq_true rfl) (Nat.le_of_ble_eq_true rfl) (by omega) (f_Reader_addName (by omega) hI (by decide)) ?_
      rintro _ H109 ⟨z112, rfl, g108, hI110, hq111⟩
      have hf113 : fq [(361, 3), (361, 4), (361, 5), (361, 9)] [362] true H H109 := fq_t (fq_rf _ _ _ _) hq111 rfl rfl rfl
      refine k_run 0 (pc' := 143) (l' := [(0, .inr (.inr 361)), (1, .inl a), (2, .inl b), (3, .inl 1)]) (st' := [.inl z112]) rfl ?_
      refine h_retz (x := z112) rfl rfl (by omega) ?_
      have g114 : -2147483648 ≤ (H109.1 361 4) ∧ (H109.1 361 4) ≤ 2147483647 := kn (x := kx_361) hI110 rfl 4
      exact ⟨_, rfl, (by omega), hI110, hf113⟩
    · refine k_run 0 (pc' := 130) (l' := [(0, .inr (.inr 361)), (1, .inl a), (2, .inl b), (3, .inl 1)]) (st' := []) rfl ?_
      refine k_run 2 (pc' := 132) (l' := [(0, .inr (.inr 361)), (1, .inl a), (2, .inl b), (3, .inl 1)]) (st' := [.inl 2, .inr (.inr 361)]) rfl ?_
      have g115 : -2147483648 ≤ (H.1 361 4) ∧ (H.1 361 4) ≤ 2147483647 := kn (x := kx_361) hI rfl 4
      refine h_cv (i := 128) (j := 86) (b := 361) (M' := mt_86) (xs := [.inl 2]) (rest := []) rfl rfl rfl rfl (zs_K (x := kx_361) rfl (by decide)) rfl (Nat.le_of_ble_eq_true rfl) (Nat.le_of_ble_eq_true rfl) (by omega) (f_Reader_fails (by omega) hI (by decide)) ?_
      rintro _ H117 ⟨z120, rfl, g116, hI118, hq119⟩
      have hf121 : fq [(361, 3), (361, 4), (361, 5), (361, 9)] [362] true H H117 := fq_t (fq_rf _ _ _ _) hq119 rfl rfl rfl
      refine k_run 0 (pc' := 135) (l' := [(0, .inr (.inr 361)), (1, .inl a), (2, .inl b), (3, .inl 1)]) (st' := [.inl z120]) rfl ?_
      refine k_run 1 (pc' := 143) (l' := [(0, .inr (.inr 361)), (1, .inl a), (2, .inl b), (3, .inl 1)]) (st' := [.inl z120]) rfl ?_
      refine h_retz (x := z120) rfl rfl (by omega) ?_
      have g122 : -2147483648 ≤ (H117.1 361 4) ∧ (H117.1 361 4) ≤ 2147483647 := kn (x := kx_361) hI118 rfl 4
      exact ⟨_, rfl, (by omega), hI118, hf121⟩

/-! Reader.readApplied -/
set_option maxRecDepth 100000 in
theorem f_readApplied_2_cut {m : Nat} {d : Nat} (hd : 3 * m + 9 ≤ d) {H : hp} (hI : Inv H) {x : Int} {a : Int} {b : Int} {c : Int} (hx : -2147483648 ≤ x ∧ x ≤ 2147483647) (ha : -2147483648 ≤ a ∧ a ≤ 2147483647) (hb : -2147483648 ≤ b ∧ b ≤ 2147483647) (hc : 0 ≤ c ∧ c ≤ 1) (hp0 : 0 ≤ x ∧ x < 16) (hp1 : -2 ≤ a ∧ a ≤ 100 ∧ 0 ≤ b ∧ b ≤ 10 ∧ 10 ≤ b + (m : Int)) (hR1 : RT1c9 m) : ∀ w : Nat, (∀ (H1 : hp), Inv H1 → fq [(361, 3), (361, 4), (361, 5), (361, 9)] [362] true H H1 → ∀ (x7 : Int) (x8 : Int) (x9 : Int) , (-2147483648 ≤ x7 ∧ x7 ≤ 2147483647) → (-2147483648 ≤ x8 ∧ x8 ≤ 2147483647) → (-2147483648 ≤ x9 ∧ x9 ≤ 2147483647) → (0 ≤ x9) → (x7 ≤ 4) → (0 ≤ x8 ∧ x8 ≤ 1) → ((x8 = 0 ∨ H1.1 361 4 = H.1 361 4)) → (((100 - x9).toNat) < w) → hG (zs zK) d mt_74 86 [(0, .inr (.inr 361)), (1, .inl 2), (2, .inl x), (3, .inl a), (4, .inl b), (5, .inl c), (6, .inr (.inr 18)), (7, .inl x7), (8, .inl x8), (9, .inl x9)] [] H1 (fun r9 H9 => ∃ z : Int, r9 = some (.inl z) ∧ ((0 ≤ z ∧ z ≤ 1) ∧ ((z = 0 ∨ H9.1 361 4 = H.1 361 4))) ∧ Inv H9 ∧ fq [(361, 3), (361, 4), (361, 5), (361, 9)] [362] true H H9)) := by
  intro w
  induction w with
  | zero => exact fun _ _ _ _ _ _ _ _ _ _ _ _ _ h => absurd h (Nat.not_lt_zero _)
  | succ w ih =>
    intro H1 hI1 hf1 x7 x8 x9 hx7 hx8 hx9 hi0 hi1 hi2 hi3 hw
    have g86 : -2147483648 ≤ (H1.1 361 4) ∧ (H1.1 361 4) ≤ 2147483647 := kn (x := kx_361) hI1 rfl 4
    refine k_run 1 (pc' := 88) (l' := [(0, .inr (.inr 361)), (1, .inl 2), (2, .inl x), (3, .inl a), (4, .inl b), (5, .inl c), (6, .inr (.inr 18)), (7, .inl x7), (8, .inl x8), (9, .inl x9)]) (st' := [.inl x8]) rfl ?_
    refine h_zeq (off := 33) (t := 121) rfl rfl (by omega) (fun c87 => ?_) (fun c87 => ?_)
    · refine k_run 0 (pc' := 121) (l' := [(0, .inr (.inr 361)), (1, .inl 2), (2, .inl x), (3, .inl a), (4, .inl b), (5, .inl c), (6, .inr (.inr 18)), (7, .inl x7), (8, .inl x8), (9, .inl x9)]) (st' := []) rfl ?_
      refine k_run 1 (pc' := 123) (l' := [(0, .inr (.inr 361)), (1, .inl 2), (2, .inl x), (3, .inl a), (4, .inl b), (5, .inl c), (6, .inr (.inr 18)), (7, .inl x7), (8, .inl x8), (9, .inl x9)]) (st' := [.inl x8]) rfl ?_
      refine h_retz (x := x8) rfl rfl (by omega) ?_
      exact ⟨_, rfl, (by omega), hI1, hf1⟩
    · refine k_run 0 (pc' := 91) (l' := [(0, .inr (.inr 361)), (1, .inl 2), (2, .inl x), (3, .inl a), (4, .inl b), (5, .inl c), (6, .inr (.inr 18)), (7, .inl x7), (8, .inl x8), (9, .inl x9)]) (st' := []) rfl ?_
      refine k_run 2 (pc' := 95) (l' := [(0, .inr (.inr 361)), (1, .inl 2), (2, .inl x), (3, .inl a), (4, .inl b), (5, .inl c), (6, .inr (.inr 18)), (7, .inl x7), (8, .inl x8), (9, .inl x9)]) (st' := [.inl x7, .inl x9]) rfl ?_
      refine h_ige (off := 26) (t := 121) rfl rfl (by omega) (by omega) (fun c88 => ?_) (fun c88 => ?_)
      · refine k_run 0 (pc' := 121) (l' := [(0, .inr (.inr 361)), (1, .inl 2), (2, .inl x), (3, .inl a), (4, .inl b), (5, .inl c), (6, .inr (.inr 18)), (7, .inl x7), (8, .inl x8), (9, .inl x9)]) (st' := []) rfl ?_
        refine k_run 1 (pc' := 123) (l' := [(0, .inr (.inr 361)), (1, .inl 2), (2, .inl x), (3, .inl a), (4, .inl b), (5, .inl c), (6, .inr (.inr 18)), (7, .inl x7), (8, .inl x8), (9, .inl x9)]) (st' := [.inl x8]) rfl ?_
        refine h_retz (x := x8) rfl rfl (by omega) ?_
        exact ⟨_, rfl, (by omega), hI1, hf1⟩
      · refine k_run 0 (pc' := 98) (l' := [(0, .inr (.inr 361)), (1, .inl 2), (2, .inl x), (3, .inl a), (4, .inl b), (5, .inl c), (6, .inr (.inr 18)), (7, .inl x7), (8, .inl x8), (9, .inl x9)]) (st' := []) rfl ?_
        refine k_run 4 (pc' := 104) (l' := [(0, .inr (.inr 361)), (1, .inl 2), (2, .inl x), (3, .inl a), (4, .inl b), (5, .inl c), (6, .inr (.inr 18)), (7, .inl x7), (8, .inl x8), (9, .inl x9)]) (st' := [.inl x9, .inl x, .inr (.inr 18), .inr (.inr 361)]) rfl ?_
        refine h_cv (i := 160) (j := 45) (b := 18) (M' := mt_45) (xs := [.inl x9, .inl x]) (rest := [.inr (.inr 361)]) rfl rfl rfl rfl (zs_K (x := kx_18) rfl (by decide)) rfl (Nat.le_of_ble_eq_true rfl) (Nat.le_of_ble_eq_true rfl) (by omega) (k_Symbols_argument_18 (by omega) hI1 (by omega) (by omega) (by omega)) ?_
        rintro _ _ ⟨z93, rfl, g89, rfl⟩
        refine k_run 0 (pc' := 107) (l' := [(0, .inr (.inr 361)), (1, .inl 2), (2, .inl x), (3, .inl a), (4, .inl b), (5, .inl c), (6, .inr (.inr 18)), (7, .inl x7), (8, .inl x8), (9, .inl x9)]) (st' := [.inl z93, .inr (.inr 361)]) rfl ?_
        refine k_run 2 (pc' := 110) (l' := [(0, .inr (.inr 361)), (1, .inl 2), (2, .inl x), (3, .inl a), (4, .inl b), (5, .inl c), (6, .inr (.inr 18)), (7, .inl x7), (8, .inl x8), (9, .inl x9)]) (st' := [.inl 1, .inl b, .inl z93, .inr (.inr 361)]) rfl ?_
        refine h_cv (i := 109) (j := 73) (b := 361) (M' := mt_73) (xs := [.inl 1, .inl b, .inl z93]) (rest := []) rfl rfl rfl rfl (zs_K (x := kx_361) rfl (by decide)) rfl (Nat.le_of_ble_eq_true rfl) (Nat.le_of_ble_eq_true rfl) (by omega) (hR1 (by omega) hI1 (by omega) (by omega) (by omega)) ?_
        rintro _ H95 ⟨z98, rfl, g94, hI96, hq97⟩
        have hf99 : fq [(361, 3), (361, 4), (361, 5), (361, 9)] [362] true H H95 := fq_t hf1 hq97 rfl rfl rfl
        refine k_run 0 (pc' := 113) (l' := [(0, .inr (.inr 361)), (1, .inl 2), (2, .inl x), (3, .inl a), (4, .inl b), (5, .inl c), (6, .inr (.inr 18)), (7, .inl x7), (8, .inl x8), (9, .inl x9)]) (st' := [.inl z98]) rfl ?_
        refine k_run 3 (pc' := 86) (l' := [(0, .inr (.inr 361)), (1, .inl 2), (2, .inl x), (3, .inl a), (4, .inl b), (5, .inl c), (6, .inr (.inr 18)), (7, .inl x7), (8, .inl z98), (9, .inl (x9 + 1))]) (st' := []) rfl ?_
        have g100 : -2147483648 ≤ (H95.1 361 4) ∧ (H95.1 361 4) ≤ 2147483647 := kn (x := kx_361) hI96 rfl 4
        exact ih H95 hI96 hf99 x7 z98 (x9 + 1) (by omega) (by omega) (by omega) (by omega) (by omega) (by omega) (by omega) (by omega)
set_option maxRecDepth 100000 in
theorem f_readApplied_2 {m : Nat} {d : Nat} (hd : 3 * m + 9 ≤ d) {H : hp} (hI : Inv H) {x : Int} {a : Int} {b : Int} {c : Int} (hx : -2147483648 ≤ x ∧ x ≤ 2147483647) (ha : -2147483648 ≤ a ∧ a ≤ 2147483647) (hb : -2147483648 ≤ b ∧ b ≤ 2147483647) (hc : 0 ≤ c ∧ c ≤ 1) (hp0 : 0 ≤ x ∧ x < 16) (hp1 : -2 ≤ a ∧ a ≤ 100 ∧ 0 ≤ b ∧ b ≤ 10 ∧ 10 ≤ b + (m : Int)) (hR1 : RT1c9 m) : hG (zs zK) d mt_74 0 (zargs 0 [.inr (.inr 361), .inl 2, .inl x, .inl a, .inl b, .inl c]) [] H (fun r9 H9 => ∃ z : Int, r9 = some (.inl z) ∧ ((0 ≤ z ∧ z ≤ 1) ∧ ((z = 0 ∨ H9.1 361 4 = H.1 361 4))) ∧ Inv H9 ∧ fq [(361, 3), (361, 4), (361, 5), (361, 9)] [362] true H H9) := by
  refine k_run 0 (pc' := 0) (l' := [(0, .inr (.inr 361)), (1, .inl 2), (2, .inl x), (3, .inl a), (4, .inl b), (5, .inl c)]) (st' := []) rfl ?_
  refine k_run 2 (pc' := 2) (l' := [(0, .inr (.inr 361)), (1, .inl 2), (2, .inl x), (3, .inl a), (4, .inl b), (5, .inl c)]) (st' := [.inl 2, .inl 2]) rfl ?_
  refine h_ine (off := 13) (t := 15) rfl rfl (by decide) (by decide) (fun c => absurd c (by decide)) (fun _ => ?_)
  refine k_run 0 (pc' := 5) (l' := [(0, .inr (.inr 361)), (1, .inl 2), (2, .inl x), (3, .inl a), (4, .inl b), (5, .inl c)]) (st' := []) rfl ?_
  refine k_run 8 (pc' := 30) (l' := [(0, .inr (.inr 361)), (1, .inl 2), (2, .inl x), (3, .inl a), (4, .inl b), (5, .inl c), (6, .inr (.inr 18))]) (st' := [.inl x, .inr (.inr 21)]) rfl ?_
  refine k_ild (c := 21) (j := (x).toNat) (i := x) (x := kx_21) rfl rfl (by decide) rfl (by decide) (by omega) (by omega) ?_
  have g1 : 0 ≤ (H.1 21 (x).toNat) ∧ (H.1 21 (x).toNat) ≤ 4 := kn (x := kx_21) hI rfl (x).toNat
  refine k_run 0 (pc' := 31) (l' := [(0, .inr (.inr 361)), (1, .inl 2), (2, .inl x), (3, .inl a), (4, .inl b), (5, .inl c), (6, .inr (.inr 18))]) (st' := [.inl (H.1 21 (x).toNat)]) rfl ?_
  refine k_run 2 (pc' := 35) (l' := [(0, .inr (.inr 361)), (1, .inl 2), (2, .inl x), (3, .inl a), (4, .inl b), (5, .inl c), (6, .inr (.inr 18)), (7, .inl (H.1 21 (x).toNat))]) (st' := [.inl c]) rfl ?_
  refine h_zeq (off := 14) (t := 49) rfl rfl (by omega) (fun c2 => ?_) (fun c2 => ?_)
  · refine k_run 0 (pc' := 49) (l' := [(0, .inr (.inr 361)), (1, .inl 2), (2, .inl x), (3, .inl a), (4, .inl b), (5, .inl c), (6, .inr (.inr 18)), (7, .inl (H.1 21 (x).toNat))]) (st' := []) rfl ?_
    refine k_run 1 (pc' := 50) (l' := [(0, .inr (.inr 361)), (1, .inl 2), (2, .inl x), (3, .inl a), (4, .inl b), (5, .inl c), (6, .inr (.inr 18)), (7, .inl (H.1 21 (x).toNat))]) (st' := [.inl a]) rfl ?_
    refine h_zlt (off := 20) (t := 70) rfl rfl (by omega) (fun c3 => ?_) (fun c3 => ?_)
    · refine k_run 0 (pc' := 70) (l' := [(0, .inr (.inr 361)), (1, .inl 2), (2, .inl x), (3, .inl a), (4, .inl b), (5, .inl c), (6, .inr (.inr 18)), (7, .inl (H.1 21 (x).toNat))]) (st' := []) rfl ?_
      refine k_run 4 (pc' := 75) (l' := [(0, .inr (.inr 361)), (1, .inl 2), (2, .inl x), (3, .inl a), (4, .inl b), (5, .inl c), (6, .inr (.inr 18)), (7, .inl (H.1 21 (x).toNat))]) (st' := [.inl (H.1 21 (x).toNat), .inl x, .inl 2, .inr (.inr 361)]) rfl ?_
      refine h_cs (i := 153) (j := 48) (M' := mt_48) (xs := [.inl (H.1 21 (x).toNat), .inl x, .inl 2]) (rest := [.inr (.inr 361)]) rfl rfl rfl rfl rfl (Nat.le_of_ble_eq_true rfl) (Nat.le_of_ble_eq_true rfl) (by omega) (k_Term_codeOf (by omega)  (by decide) (by omega) (by omega)) ?_
      rintro _ _ ⟨z8, rfl, g4, rfl⟩
      refine k_run 0 (pc' := 78) (l' := [(0, .inr (.inr 361)), (1, .inl 2), (2, .inl x), (3, .inl a), (4, .inl b), (5, .inl c), (6, .inr (.inr 18)), (7, .inl (H.1 21 (x).toNat))]) (st' := [.inl z8, .inr (.inr 361)]) rfl ?_
      have g9 : -2147483648 ≤ (H.1 361 4) ∧ (H.1 361 4) ≤ 2147483647 := kn (x := kx_361) hI rfl 4
      refine h_cv (i := 157) (j := 77) (b := 361) (M' := mt_77) (xs := [.inl z8]) (rest := []) rfl rfl rfl rfl (zs_K (x := kx_361) rfl (by decide)) rfl (Nat.le_of_ble_eq_true rfl) (Nat.le_of_ble_eq_true rfl) (by omega) (f_Reader_addName (by omega) hI (by omega)) ?_
      rintro _ H11 ⟨z14, rfl, g10, hI12, hq13⟩
      have hf15 : fq [(361, 3), (361, 4), (361, 5), (361, 9)] [362] true H H11 := fq_t (fq_rf _ _ _ _) hq13 rfl rfl rfl
      refine k_run 0 (pc' := 81) (l' := [(0, .inr (.inr 361)), (1, .inl 2), (2, .inl x), (3, .inl a), (4, .inl b), (5, .inl c), (6, .inr (.inr 18)), (7, .inl (H.1 21 (x).toNat))]) (st' := [.inl z14]) rfl ?_
      refine k_run 3 (pc' := 86) (l' := [(0, .inr (.inr 361)), (1, .inl 2), (2, .inl x), (3, .inl a), (4, .inl b), (5, .inl c), (6, .inr (.inr 18)), (7, .inl (H.1 21 (x).toNat)), (8, .inl z14), (9, .inl 0)]) (st' := []) rfl ?_
      have g16 : -2147483648 ≤ (H11.1 361 4) ∧ (H11.1 361 4) ≤ 2147483647 := kn (x := kx_361) hI12 rfl 4
      exact (f_readApplied_2_cut hd hI hx ha hb hc hp0 hp1 hR1 _) H11 hI12 hf15 (H.1 21 (x).toNat) z14 (0 : Int) (by omega) (by omega) (by decide) (by omega) (by omega) (by omega) (by omega) (Nat.lt_succ_self _)
    · refine k_run 0 (pc' := 53) (l' := [(0, .inr (.inr 361)), (1, .inl 2), (2, .inl x), (3, .inl a), (4, .inl b), (5, .inl c), (6, .inr (.inr 18)), (7, .inl (H.1 21 (x).toNat))]) (st' := []) rfl ?_
      refine k_run 3 (pc' := 59) (l' := [(0, .inr (.inr 361)), (1, .inl 2), (2, .inl x), (3, .inl a), (4, .inl b), (5, .inl c), (6, .inr (.inr 18)), (7, .inl (H.1 21 (x).toNat))]) (st' := [.inl x, .inr (.inr 20)]) rfl ?_
      refine k_ild (c := 20) (j := (x).toNat) (i := x) (x := kx_20) rfl rfl (by decide) rfl (by decide) (by omega) (by omega) ?_
      have g17 : -2 ≤ (H.1 20 (x).toNat) ∧ (H.1 20 (x).toNat) ≤ 100 := kn (x := kx_20) hI rfl (x).toNat
      refine k_run 0 (pc' := 60) (l' := [(0, .inr (.inr 361)), (1, .inl 2), (2, .inl x), (3, .inl a), (4, .inl b), (5, .inl c), (6, .inr (.inr 18)), (7, .inl (H.1 21 (x).toNat))]) (st' := [.inl (H.1 20 (x).toNat)]) rfl ?_
      refine k_run 1 (pc' := 61) (l' := [(0, .inr (.inr 361)), (1, .inl 2), (2, .inl x), (3, .inl a), (4, .inl b), (5, .inl c), (6, .inr (.inr 18)), (7, .inl (H.1 21 (x).toNat))]) (st' := [.inl a, .inl (H.1 20 (x).toNat)]) rfl ?_
      refine h_ieq (off := 9) (t := 70) rfl rfl (by omega) (by omega) (fun c18 => ?_) (fun c18 => ?_)
      · refine k_run 0 (pc' := 70) (l' := [(0, .inr (.inr 361)), (1, .inl 2), (2, .inl x), (3, .inl a), (4, .inl b), (5, .inl c), (6, .inr (.inr 18)), (7, .inl (H.1 21 (x).toNat))]) (st' := []) rfl ?_
        refine k_run 4 (pc' := 75) (l' := [(0, .inr (.inr 361)), (1, .inl 2), (2, .inl x), (3, .inl a), (4, .inl b), (5, .inl c), (6, .inr (.inr 18)), (7, .inl (H.1 21 (x).toNat))]) (st' := [.inl (H.1 21 (x).toNat), .inl x, .inl 2, .inr (.inr 361)]) rfl ?_
        refine h_cs (i := 153) (j := 48) (M' := mt_48) (xs := [.inl (H.1 21 (x).toNat), .inl x, .inl 2]) (rest := [.inr (.inr 361)]) rfl rfl rfl rfl rfl (Nat.le_of_ble_eq_true rfl) (Nat.le_of_ble_eq_true rfl) (by omega) (k_Term_codeOf (by omega)  (by decide) (by omega) (by omega)) ?_
        rintro _ _ ⟨z23, rfl, g19, rfl⟩
        refine k_run 0 (pc' := 78) (l' := [(0, .inr (.inr 361)), (1, .inl 2), (2, .inl x), (3, .inl a), (4, .inl b), (5, .inl c), (6, .inr (.inr 18)), (7, .inl (H.1 21 (x).toNat))]) (st' := [.inl z23, .inr (.inr 361)]) rfl ?_
        have g24 : -2147483648 ≤ (H.1 361 4) ∧ (H.1 361 4) ≤ 2147483647 := kn (x := kx_361) hI rfl 4
        refine h_cv (i := 157) (j := 77) (b := 361) (M' := mt_77) (xs := [.inl z23]) (rest := []) rfl rfl rfl rfl (zs_K (x := kx_361) rfl (by decide)) rfl (Nat.le_of_ble_eq_true rfl) (Nat.le_of_ble_eq_true rfl) (by omega) (f_Reader_addName (by omega) hI (by omega)) ?_
        rintro _ H26 ⟨z29, rfl, g25, hI27, hq28⟩
        have hf30 : fq [(361, 3), (361, 4), (361, 5), (361, 9)] [362] true H H26 := fq_t (fq_rf _ _ _ _) hq28 rfl rfl rfl
        refine k_run 0 (pc' := 81) (l' := [(0, .inr (.inr 361)), (1, .inl 2), (2, .inl x), (3, .inl a), (4, .inl b), (5, .inl c), (6, .inr (.inr 18)), (7, .inl (H.1 21 (x).toNat))]) (st' := [.inl z29]) rfl ?_
        refine k_run 3 (pc' := 86) (l' := [(0, .inr (.inr 361)), (1, .inl 2), (2, .inl x), (3, .inl a), (4, .inl b), (5, .inl c), (6, .inr (.inr 18)), (7, .inl (H.1 21 (x).toNat)), (8, .inl z29), (9, .inl 0)]) (st' := []) rfl ?_
        have g31 : -2147483648 ≤ (H26.1 361 4) ∧ (H26.1 361 4) ≤ 2147483647 := kn (x := kx_361) hI27 rfl 4
        exact (f_readApplied_2_cut hd hI hx ha hb hc hp0 hp1 hR1 _) H26 hI27 hf30 (H.1 21 (x).toNat) z29 (0 : Int) (by omega) (by omega) (by decide) (by omega) (by omega) (by omega) (by omega) (Nat.lt_succ_self _)
      · refine k_run 0 (pc' := 64) (l' := [(0, .inr (.inr 361)), (1, .inl 2), (2, .inl x), (3, .inl a), (4, .inl b), (5, .inl c), (6, .inr (.inr 18)), (7, .inl (H.1 21 (x).toNat))]) (st' := []) rfl ?_
        refine k_run 2 (pc' := 66) (l' := [(0, .inr (.inr 361)), (1, .inl 2), (2, .inl x), (3, .inl a), (4, .inl b), (5, .inl c), (6, .inr (.inr 18)), (7, .inl (H.1 21 (x).toNat))]) (st' := [.inl 4, .inr (.inr 361)]) rfl ?_
        have g32 : -2147483648 ≤ (H.1 361 4) ∧ (H.1 361 4) ≤ 2147483647 := kn (x := kx_361) hI rfl 4
        refine h_cv (i := 128) (j := 86) (b := 361) (M' := mt_86) (xs := [.inl 4]) (rest := []) rfl rfl rfl rfl (zs_K (x := kx_361) rfl (by decide)) rfl (Nat.le_of_ble_eq_true rfl) (Nat.le_of_ble_eq_true rfl) (by omega) (f_Reader_fails (by omega) hI (by decide)) ?_
        rintro _ H34 ⟨z37, rfl, g33, hI35, hq36⟩
        have hf38 : fq [(361, 3), (361, 4), (361, 5), (361, 9)] [362] true H H34 := fq_t (fq_rf _ _ _ _) hq36 rfl rfl rfl
        refine k_run 0 (pc' := 69) (l' := [(0, .inr (.inr 361)), (1, .inl 2), (2, .inl x), (3, .inl a), (4, .inl b), (5, .inl c), (6, .inr (.inr 18)), (7, .inl (H.1 21 (x).toNat))]) (st' := [.inl z37]) rfl ?_
        refine h_retz (x := z37) rfl rfl (by omega) ?_
        have g39 : -2147483648 ≤ (H34.1 361 4) ∧ (H34.1 361 4) ≤ 2147483647 := kn (x := kx_361) hI35 rfl 4
        exact ⟨_, rfl, (by omega), hI35, hf38⟩
  · refine k_run 0 (pc' := 38) (l' := [(0, .inr (.inr 361)), (1, .inl 2), (2, .inl x), (3, .inl a), (4, .inl b), (5, .inl c), (6, .inr (.inr 18)), (7, .inl (H.1 21 (x).toNat))]) (st' := []) rfl ?_
    refine k_run 1 (pc' := 40) (l' := [(0, .inr (.inr 361)), (1, .inl 2), (2, .inl x), (3, .inl a), (4, .inl b), (5, .inl c), (6, .inr (.inr 18)), (7, .inl (H.1 21 (x).toNat))]) (st' := [.inl (H.1 21 (x).toNat)]) rfl ?_
    refine h_zle (off := 9) (t := 49) rfl rfl (by omega) (fun c40 => ?_) (fun c40 => ?_)
    · refine k_run 0 (pc' := 49) (l' := [(0, .inr (.inr 361)), (1, .inl 2), (2, .inl x), (3, .inl a), (4, .inl b), (5, .inl c), (6, .inr (.inr 18)), (7, .inl (H.1 21 (x).toNat))]) (st' := []) rfl ?_
      refine k_run 1 (pc' := 50) (l' := [(0, .inr (.inr 361)), (1, .inl 2), (2, .inl x), (3, .inl a), (4, .inl b), (5, .inl c), (6, .inr (.inr 18)), (7, .inl (H.1 21 (x).toNat))]) (st' := [.inl a]) rfl ?_
      refine h_zlt (off := 20) (t := 70) rfl rfl (by omega) (fun c41 => ?_) (fun c41 => ?_)
      · refine k_run 0 (pc' := 70) (l' := [(0, .inr (.inr 361)), (1, .inl 2), (2, .inl x), (3, .inl a), (4, .inl b), (5, .inl c), (6, .inr (.inr 18)), (7, .inl (H.1 21 (x).toNat))]) (st' := []) rfl ?_
        refine k_run 4 (pc' := 75) (l' := [(0, .inr (.inr 361)), (1, .inl 2), (2, .inl x), (3, .inl a), (4, .inl b), (5, .inl c), (6, .inr (.inr 18)), (7, .inl (H.1 21 (x).toNat))]) (st' := [.inl (H.1 21 (x).toNat), .inl x, .inl 2, .inr (.inr 361)]) rfl ?_
        refine h_cs (i := 153) (j := 48) (M' := mt_48) (xs := [.inl (H.1 21 (x).toNat), .inl x, .inl 2]) (rest := [.inr (.inr 361)]) rfl rfl rfl rfl rfl (Nat.le_of_ble_eq_true rfl) (Nat.le_of_ble_eq_true rfl) (by omega) (k_Term_codeOf (by omega)  (by decide) (by omega) (by omega)) ?_
        rintro _ _ ⟨z46, rfl, g42, rfl⟩
        refine k_run 0 (pc' := 78) (l' := [(0, .inr (.inr 361)), (1, .inl 2), (2, .inl x), (3, .inl a), (4, .inl b), (5, .inl c), (6, .inr (.inr 18)), (7, .inl (H.1 21 (x).toNat))]) (st' := [.inl z46, .inr (.inr 361)]) rfl ?_
        have g47 : -2147483648 ≤ (H.1 361 4) ∧ (H.1 361 4) ≤ 2147483647 := kn (x := kx_361) hI rfl 4
        refine h_cv (i := 157) (j := 77) (b := 361) (M' := mt_77) (xs := [.inl z46]) (rest := []) rfl rfl rfl rfl (zs_K (x := kx_361) rfl (by decide)) rfl (Nat.le_of_ble_eq_true rfl) (Nat.le_of_ble_eq_true rfl) (by omega) (f_Reader_addName (by omega) hI (by omega)) ?_
        rintro _ H49 ⟨z52, rfl, g48, hI50, hq51⟩
        have hf53 : fq [(361, 3), (361, 4), (361, 5), (361, 9)] [362] true H H49 := fq_t (fq_rf _ _ _ _) hq51 rfl rfl rfl
        refine k_run 0 (pc' := 81) (l' := [(0, .inr (.inr 361)), (1, .inl 2), (2, .inl x), (3, .inl a), (4, .inl b), (5, .inl c), (6, .inr (.inr 18)), (7, .inl (H.1 21 (x).toNat))]) (st' := [.inl z52]) rfl ?_
        refine k_run 3 (pc' := 86) (l' := [(0, .inr (.inr 361)), (1, .inl 2), (2, .inl x), (3, .inl a), (4, .inl b), (5, .inl c), (6, .inr (.inr 18)), (7, .inl (H.1 21 (x).toNat)), (8, .inl z52), (9, .inl 0)]) (st' := []) rfl ?_
        have g54 : -2147483648 ≤ (H49.1 361 4) ∧ (H49.1 361 4) ≤ 2147483647 := kn (x := kx_361) hI50 rfl 4
        exact (f_readApplied_2_cut hd hI hx ha hb hc hp0 hp1 hR1 _) H49 hI50 hf53 (H.1 21 (x).toNat) z52 (0 : Int) (by omega) (by omega) (by decide) (by omega) (by omega) (by omega) (by omega) (Nat.lt_succ_self _)
      · refine k_run 0 (pc' := 53) (l' := [(0, .inr (.inr 361)), (1, .inl 2), (2, .inl x), (3, .inl a), (4, .inl b), (5, .inl c), (6, .inr (.inr 18)), (7, .inl (H.1 21 (x).toNat))]) (st' := []) rfl ?_
        refine k_run 3 (pc' := 59) (l' := [(0, .inr (.inr 361)), (1, .inl 2), (2, .inl x), (3, .inl a), (4, .inl b), (5, .inl c), (6, .inr (.inr 18)), (7, .inl (H.1 21 (x).toNat))]) (st' := [.inl x, .inr (.inr 20)]) rfl ?_
        refine k_ild (c := 20) (j := (x).toNat) (i := x) (x := kx_20) rfl rfl (by decide) rfl (by decide) (by omega) (by omega) ?_
        have g55 : -2 ≤ (H.1 20 (x).toNat) ∧ (H.1 20 (x).toNat) ≤ 100 := kn (x := kx_20) hI rfl (x).toNat
        refine k_run 0 (pc' := 60) (l' := [(0, .inr (.inr 361)), (1, .inl 2), (2, .inl x), (3, .inl a), (4, .inl b), (5, .inl c), (6, .inr (.inr 18)), (7, .inl (H.1 21 (x).toNat))]) (st' := [.inl (H.1 20 (x).toNat)]) rfl ?_
        refine k_run 1 (pc' := 61) (l' := [(0, .inr (.inr 361)), (1, .inl 2), (2, .inl x), (3, .inl a), (4, .inl b), (5, .inl c), (6, .inr (.inr 18)), (7, .inl (H.1 21 (x).toNat))]) (st' := [.inl a, .inl (H.1 20 (x).toNat)]) rfl ?_
        refine h_ieq (off := 9) (t := 70) rfl rfl (by omega) (by omega) (fun c56 => ?_) (fun c56 => ?_)
        · refine k_run 0 (pc' := 70) (l' := [(0, .inr (.inr 361)), (1, .inl 2), (2, .inl x), (3, .inl a), (4, .inl b), (5, .inl c), (6, .inr (.inr 18)), (7, .inl (H.1 21 (x).toNat))]) (st' := []) rfl ?_
          refine k_run 4 (pc' := 75) (l' := [(0, .inr (.inr 361)), (1, .inl 2), (2, .inl x), (3, .inl a), (4, .inl b), (5, .inl c), (6, .inr (.inr 18)), (7, .inl (H.1 21 (x).toNat))]) (st' := [.inl (H.1 21 (x).toNat), .inl x, .inl 2, .inr (.inr 361)]) rfl ?_
          refine h_cs (i := 153) (j := 48) (M' := mt_48) (xs := [.inl (H.1 21 (x).toNat), .inl x, .inl 2]) (rest := [.inr (.inr 361)]) rfl rfl rfl rfl rfl (Nat.le_of_ble_eq_true rfl) (Nat.le_of_ble_eq_true rfl) (by omega) (k_Term_codeOf (by omega)  (by decide) (by omega) (by omega)) ?_
          rintro _ _ ⟨z61, rfl, g57, rfl⟩
          refine k_run 0 (pc' := 78) (l' := [(0, .inr (.inr 361)), (1, .inl 2), (2, .inl x), (3, .inl a), (4, .inl b), (5, .inl c), (6, .inr (.inr 18)), (7, .inl (H.1 21 (x).toNat))]) (st' := [.inl z61, .inr (.inr 361)]) rfl ?_
          have g62 : -2147483648 ≤ (H.1 361 4) ∧ (H.1 361 4) ≤ 2147483647 := kn (x := kx_361) hI rfl 4
          refine h_cv (i := 157) (j := 77) (b := 361) (M' := mt_77) (xs := [.inl z61]) (rest := []) rfl rfl rfl rfl (zs_K (x := kx_361) rfl (by decide)) rfl (Nat.le_of_ble_eq_true rfl) (Nat.le_of_ble_eq_true rfl) (by omega) (f_Reader_addName (by omega) hI (by omega)) ?_
          rintro _ H64 ⟨z67, rfl, g63, hI65, hq66⟩
          have hf68 : fq [(361, 3), (361, 4), (361, 5), (361, 9)] [362] true H H64 := fq_t (fq_rf _ _ _ _) hq66 rfl rfl rfl
          refine k_run 0 (pc' := 81) (l' := [(0, .inr (.inr 361)), (1, .inl 2), (2, .inl x), (3, .inl a), (4, .inl b), (5, .inl c), (6, .inr (.inr 18)), (7, .inl (H.1 21 (x).toNat))]) (st' := [.inl z67]) rfl ?_
          refine k_run 3 (pc' := 86) (l' := [(0, .inr (.inr 361)), (1, .inl 2), (2, .inl x), (3, .inl a), (4, .inl b), (5, .inl c), (6, .inr (.inr 18)), (7, .inl (H.1 21 (x).toNat)), (8, .inl z67), (9, .inl 0)]) (st' := []) rfl ?_
          have g69 : -2147483648 ≤ (H64.1 361 4) ∧ (H64.1 361 4) ≤ 2147483647 := kn (x := kx_361) hI65 rfl 4
          exact (f_readApplied_2_cut hd hI hx ha hb hc hp0 hp1 hR1 _) H64 hI65 hf68 (H.1 21 (x).toNat) z67 (0 : Int) (by omega) (by omega) (by decide) (by omega) (by omega) (by omega) (by omega) (Nat.lt_succ_self _)
        · refine k_run 0 (pc' := 64) (l' := [(0, .inr (.inr 361)), (1, .inl 2), (2, .inl x), (3, .inl a), (4, .inl b), (5, .inl c), (6, .inr (.inr 18)), (7, .inl (H.1 21 (x).toNat))]) (st' := []) rfl ?_
          refine k_run 2 (pc' := 66) (l' := [(0, .inr (.inr 361)), (1, .inl 2), (2, .inl x), (3, .inl a), (4, .inl b), (5, .inl c), (6, .inr (.inr 18)), (7, .inl (H.1 21 (x).toNat))]) (st' := [.inl 4, .inr (.inr 361)]) rfl ?_
          have g70 : -2147483648 ≤ (H.1 361 4) ∧ (H.1 361 4) ≤ 2147483647 := kn (x := kx_361) hI rfl 4
          refine h_cv (i := 128) (j := 86) (b := 361) (M' := mt_86) (xs := [.inl 4]) (rest := []) rfl rfl rfl rfl (zs_K (x := kx_361) rfl (by decide)) rfl (Nat.le_of_ble_eq_true rfl) (Nat.le_of_ble_eq_true rfl) (by omega) (f_Reader_fails (by omega) hI (by decide)) ?_
          rintro _ H72 ⟨z75, rfl, g71, hI73, hq74⟩
          have hf76 : fq [(361, 3), (361, 4), (361, 5), (361, 9)] [362] true H H72 := fq_t (fq_rf _ _ _ _) hq74 rfl rfl rfl
          refine k_run 0 (pc' := 69) (l' := [(0, .inr (.inr 361)), (1, .inl 2), (2, .inl x), (3, .inl a), (4, .inl b), (5, .inl c), (6, .inr (.inr 18)), (7, .inl (H.1 21 (x).toNat))]) (st' := [.inl z75]) rfl ?_
          refine h_retz (x := z75) rfl rfl (by omega) ?_
          have g77 : -2147483648 ≤ (H72.1 361 4) ∧ (H72.1 361 4) ≤ 2147483647 := kn (x := kx_361) hI73 rfl 4
          exact ⟨_, rfl, (by omega), hI73, hf76⟩
    · refine k_run 0 (pc' := 43) (l' := [(0, .inr (.inr 361)), (1, .inl 2), (2, .inl x), (3, .inl a), (4, .inl b), (5, .inl c), (6, .inr (.inr 18)), (7, .inl (H.1 21 (x).toNat))]) (st' := []) rfl ?_
      refine k_run 2 (pc' := 45) (l' := [(0, .inr (.inr 361)), (1, .inl 2), (2, .inl x), (3, .inl a), (4, .inl b), (5, .inl c), (6, .inr (.inr 18)), (7, .inl (H.1 21 (x).toNat))]) (st' := [.inl 2, .inr (.inr 361)]) rfl ?_
      have g78 : -2147483648 ≤ (H.1 361 4) ∧ (H.1 361 4) ≤ 2147483647 := kn (x := kx_361) hI rfl 4
      refine h_cv (i := 128) (j := 86) (b := 361) (M' := mt_86) (xs := [.inl 2]) (rest := []) rfl rfl rfl rfl (zs_K (x := kx_361) rfl (by decide)) rfl (Nat.le_of_ble_eq_true rfl) (Nat.le_of_ble_eq_true rfl) (by omega) (f_Reader_fails (by omega) hI (by decide)) ?_
      rintro _ H80 ⟨z83, rfl, g79, hI81, hq82⟩
      have hf84 : fq [(361, 3), (361, 4), (361, 5), (361, 9)] [362] true H H80 := fq_t (fq_rf _ _ _ _) hq82 rfl rfl rfl
      refine k_run 0 (pc' := 48) (l' := [(0, .inr (.inr 361)), (1, .inl 2), (2, .inl x), (3, .inl a), (4, .inl b), (5, .inl c), (6, .inr (.inr 18)), (7, .inl (H.1 21 (x).toNat))]) (st' := [.inl z83]) rfl ?_
      refine h_retz (x := z83) rfl rfl (by omega) ?_
      have g85 : -2147483648 ≤ (H80.1 361 4) ∧ (H80.1 361 4) ≤ 2147483647 := kn (x := kx_361) hI81 rfl 4
      exact ⟨_, rfl, (by omega), hI81, hf84⟩

/-! Reader.readApplied -/
set_option maxRecDepth 100000 in
theorem f_readApplied_1_cut {m : Nat} {d : Nat} (hd : 3 * m + 9 ≤ d) {H : hp} (hI : Inv H) {x : Int} {a : Int} {b : Int} {c : Int} (hx : -2147483648 ≤ x ∧ x ≤ 2147483647) (ha : -2147483648 ≤ a ∧ a ≤ 2147483647) (hb : -2147483648 ≤ b ∧ b ≤ 2147483647) (hc : 0 ≤ c ∧ c ≤ 1) (hp0 : 0 ≤ x ∧ x < 16) (hp1 : -2 ≤ a ∧ a ≤ 100 ∧ 0 ≤ b ∧ b ≤ 10 ∧ 10 ≤ b + (m : Int)) (hR1 : RT1c9 m) : ∀ w : Nat, (∀ (H1 : hp), Inv H1 → fq [(361, 3), (361, 4), (361, 5), (361, 9)] [362] true H H1 → ∀ (x7 : Int) (x8 : Int) (x9 : Int) , (-2147483648 ≤ x7 ∧ x7 ≤ 2147483647) → (-2147483648 ≤ x8 ∧ x8 ≤ 2147483647) → (-2147483648 ≤ x9 ∧ x9 ≤ 2147483647) → (0 ≤ x9) → (x7 ≤ 4) → (0 ≤ x8 ∧ x8 ≤ 1) → ((x8 = 0 ∨ H1.1 361 4 = H.1 361 4)) → (((100 - x9).toNat) < w) → hG (zs zK) d mt_74 86 [(0, .inr (.inr 361)), (1, .inl 1), (2, .inl x), (3, .inl a), (4, .inl b), (5, .inl c), (6, .inr (.inr 13)), (7, .inl x7), (8, .inl x8), (9, .inl x9)] [] H1 (fun r9 H9 => ∃ z : Int, r9 = some (.inl z) ∧ ((0 ≤ z ∧ z ≤ 1) ∧ ((z = 0 ∨ H9.1 361 4 = H.1 361 4))) ∧ Inv H9 ∧ fq [(361, 3), (361, 4), (361, 5), (361, 9)] [362] true H H9)) := by
  intro w
  induction w with
  | zero => exact fun _ _ _ _ _ _ _ _ _ _ _ _ _ h => absurd h (Nat.not_lt_zero _)
  | succ w ih =>
    intro H1 hI1 hf1 x7 x8 x9 hx7 hx8 hx9 hi0 hi1 hi2 hi3 hw
    have g86 : -2147483648 ≤ (H1.1 361 4) ∧ (H1.1 361 4) ≤ 2147483647 := kn (x := kx_361) hI1 rfl 4
    refine k_run 1 (pc' := 88) (l' := [(0, .inr (.inr 361)), (1, .inl 1), (2, .inl x), (3, .inl a), (4, .inl b), (5, .inl c), (6, .inr (.inr 13)), (7, .inl x7), (8, .inl x8), (9, .inl x9)]) (st' := [.inl x8]) rfl ?_
    refine h_zeq (off := 33) (t := 121) rfl rfl (by omega) (fun c87 => ?_) (fun c87 => ?_)
    · refine k_run 0 (pc' := 121) (l' := [(0, .inr (.inr 361)), (1, .inl 1), (2, .inl x), (3, .inl a), (4, .inl b), (5, .inl c), (6, .inr (.inr 13)), (7, .inl x7), (8, .inl x8), (9, .inl x9)]) (st' := []) rfl ?_
      refine k_run 1 (pc' := 123) (l' := [(0, .inr (.inr 361)), (1, .inl 1), (2, .inl x), (3, .inl a), (4, .inl b), (5, .inl c), (6, .inr (.inr 13)), (7, .inl x7), (8, .inl x8), (9, .inl x9)]) (st' := [.inl x8]) rfl ?_
      refine h_retz (x := x8) rfl rfl (by omega) ?_
      exact ⟨_, rfl, (by omega), hI1, hf1⟩
    · refine k_run 0 (pc' := 91) (l' := [(0, .inr (.inr 361)), (1, .inl 1), (2, .inl x), (3, .inl a), (4, .inl b), (5, .inl c), (6, .inr (.inr 13)), (7, .inl x7), (8, .inl x8), (9, .inl x9)]) (st' := []) rfl ?_
      refine k_run 2 (pc' := 95) (l' := [(0, .inr (.inr 361)), (1, .inl 1), (2, .inl x), (3, .inl a), (4, .inl b), (5, .inl c), (6, .inr (.inr 13)), (7, .inl x7), (8, .inl x8), (9, .inl x9)]) (st' := [.inl x7, .inl x9]) rfl ?_
      refine h_ige (off := 26) (t := 121) rfl rfl (by omega) (by omega) (fun c88 => ?_) (fun c88 => ?_)
      · refine k_run 0 (pc' := 121) (l' := [(0, .inr (.inr 361)), (1, .inl 1), (2, .inl x), (3, .inl a), (4, .inl b), (5, .inl c), (6, .inr (.inr 13)), (7, .inl x7), (8, .inl x8), (9, .inl x9)]) (st' := []) rfl ?_
        refine k_run 1 (pc' := 123) (l' := [(0, .inr (.inr 361)), (1, .inl 1), (2, .inl x), (3, .inl a), (4, .inl b), (5, .inl c), (6, .inr (.inr 13)), (7, .inl x7), (8, .inl x8), (9, .inl x9)]) (st' := [.inl x8]) rfl ?_
        refine h_retz (x := x8) rfl rfl (by omega) ?_
        exact ⟨_, rfl, (by omega), hI1, hf1⟩
      · refine k_run 0 (pc' := 98) (l' := [(0, .inr (.inr 361)), (1, .inl 1), (2, .inl x), (3, .inl a), (4, .inl b), (5, .inl c), (6, .inr (.inr 13)), (7, .inl x7), (8, .inl x8), (9, .inl x9)]) (st' := []) rfl ?_
        refine k_run 4 (pc' := 104) (l' := [(0, .inr (.inr 361)), (1, .inl 1), (2, .inl x), (3, .inl a), (4, .inl b), (5, .inl c), (6, .inr (.inr 13)), (7, .inl x7), (8, .inl x8), (9, .inl x9)]) (st' := [.inl x9, .inl x, .inr (.inr 13), .inr (.inr 361)]) rfl ?_
        refine h_cv (i := 160) (j := 45) (b := 13) (M' := mt_45) (xs := [.inl x9, .inl x]) (rest := [.inr (.inr 361)]) rfl rfl rfl rfl (zs_K (x := kx_13) rfl (by decide)) rfl (Nat.le_of_ble_eq_true rfl) (Nat.le_of_ble_eq_true rfl) (by omega) (k_Symbols_argument_13 (by omega) hI1 (by omega) (by omega) (by omega)) ?_
        rintro _ _ ⟨z93, rfl, g89, rfl⟩
        refine k_run 0 (pc' := 107) (l' := [(0, .inr (.inr 361)), (1, .inl 1), (2, .inl x), (3, .inl a), (4, .inl b), (5, .inl c), (6, .inr (.inr 13)), (7, .inl x7), (8, .inl x8), (9, .inl x9)]) (st' := [.inl z93, .inr (.inr 361)]) rfl ?_
        refine k_run 2 (pc' := 110) (l' := [(0, .inr (.inr 361)), (1, .inl 1), (2, .inl x), (3, .inl a), (4, .inl b), (5, .inl c), (6, .inr (.inr 13)), (7, .inl x7), (8, .inl x8), (9, .inl x9)]) (st' := [.inl 1, .inl b, .inl z93, .inr (.inr 361)]) rfl ?_
        refine h_cv (i := 109) (j := 73) (b := 361) (M' := mt_73) (xs := [.inl 1, .inl b, .inl z93]) (rest := []) rfl rfl rfl rfl (zs_K (x := kx_361) rfl (by decide)) rfl (Nat.le_of_ble_eq_true rfl) (Nat.le_of_ble_eq_true rfl) (by omega) (hR1 (by omega) hI1 (by omega) (by omega) (by omega)) ?_
        rintro _ H95 ⟨z98, rfl, g94, hI96, hq97⟩
        have hf99 : fq [(361, 3), (361, 4), (361, 5), (361, 9)] [362] true H H95 := fq_t hf1 hq97 rfl rfl rfl
        refine k_run 0 (pc' := 113) (l' := [(0, .inr (.inr 361)), (1, .inl 1), (2, .inl x), (3, .inl a), (4, .inl b), (5, .inl c), (6, .inr (.inr 13)), (7, .inl x7), (8, .inl x8), (9, .inl x9)]) (st' := [.inl z98]) rfl ?_
        refine k_run 3 (pc' := 86) (l' := [(0, .inr (.inr 361)), (1, .inl 1), (2, .inl x), (3, .inl a), (4, .inl b), (5, .inl c), (6, .inr (.inr 13)), (7, .inl x7), (8, .inl z98), (9, .inl (x9 + 1))]) (st' := []) rfl ?_
        have g100 : -2147483648 ≤ (H95.1 361 4) ∧ (H95.1 361 4) ≤ 2147483647 := kn (x := kx_361) hI96 rfl 4
        exact ih H95 hI96 hf99 x7 z98 (x9 + 1) (by omega) (by omega) (by omega) (by omega) (by omega) (by omega) (by omega) (by omega)
set_option maxRecDepth 100000 in
theorem f_readApplied_1 {m : Nat} {d : Nat} (hd : 3 * m + 9 ≤ d) {H : hp} (hI : Inv H) {x : Int} {a : Int} {b : Int} {c : Int} (hx : -2147483648 ≤ x ∧ x ≤ 2147483647) (ha : -2147483648 ≤ a ∧ a ≤ 2147483647) (hb : -2147483648 ≤ b ∧ b ≤ 2147483647) (hc : 0 ≤ c ∧ c ≤ 1) (hp0 : 0 ≤ x ∧ x < 16) (hp1 : -2 ≤ a ∧ a ≤ 100 ∧ 0 ≤ b ∧ b ≤ 10 ∧ 10 ≤ b + (m : Int)) (hR1 : RT1c9 m) : hG (zs zK) d mt_74 0 (zargs 0 [.inr (.inr 361), .inl 1, .inl x, .inl a, .inl b, .inl c]) [] H (fun r9 H9 => ∃ z : Int, r9 = some (.inl z) ∧ ((0 ≤ z ∧ z ≤ 1) ∧ ((z = 0 ∨ H9.1 361 4 = H.1 361 4))) ∧ Inv H9 ∧ fq [(361, 3), (361, 4), (361, 5), (361, 9)] [362] true H H9) := by
  refine k_run 0 (pc' := 0) (l' := [(0, .inr (.inr 361)), (1, .inl 1), (2, .inl x), (3, .inl a), (4, .inl b), (5, .inl c)]) (st' := []) rfl ?_
  refine k_run 2 (pc' := 2) (l' := [(0, .inr (.inr 361)), (1, .inl 1), (2, .inl x), (3, .inl a), (4, .inl b), (5, .inl c)]) (st' := [.inl 2, .inl 1]) rfl ?_
  refine h_ine (off := 13) (t := 15) rfl rfl (by decide) (by decide) (fun _ => ?_) (fun c => absurd c (by decide))
  refine k_run 0 (pc' := 15) (l' := [(0, .inr (.inr 361)), (1, .inl 1), (2, .inl x), (3, .inl a), (4, .inl b), (5, .inl c)]) (st' := []) rfl ?_
  refine k_run 7 (pc' := 30) (l' := [(0, .inr (.inr 361)), (1, .inl 1), (2, .inl x), (3, .inl a), (4, .inl b), (5, .inl c), (6, .inr (.inr 13))]) (st' := [.inl x, .inr (.inr 16)]) rfl ?_
  refine k_ild (c := 16) (j := (x).toNat) (i := x) (x := kx_16) rfl rfl (by decide) rfl (by decide) (by omega) (by omega) ?_
  have g1 : 0 ≤ (H.1 16 (x).toNat) ∧ (H.1 16 (x).toNat) ≤ 4 := kn (x := kx_16) hI rfl (x).toNat
  refine k_run 0 (pc' := 31) (l' := [(0, .inr (.inr 361)), (1, .inl 1), (2, .inl x), (3, .inl a), (4, .inl b), (5, .inl c), (6, .inr (.inr 13))]) (st' := [.inl (H.1 16 (x).toNat)]) rfl ?_
  refine k_run 2 (pc' := 35) (l' := [(0, .inr (.inr 361)), (1, .inl 1), (2, .inl x), (3, .inl a), (4, .inl b), (5, .inl c), (6, .inr (.inr 13)), (7, .inl (H.1 16 (x).toNat))]) (st' := [.inl c]) rfl ?_
  refine h_zeq (off := 14) (t := 49) rfl rfl (by omega) (fun c2 => ?_) (fun c2 => ?_)
  · refine k_run 0 (pc' := 49) (l' := [(0, .inr (.inr 361)), (1, .inl 1), (2, .inl x), (3, .inl a), (4, .inl b), (5, .inl c), (6, .inr (.inr 13)), (7, .inl (H.1 16 (x).toNat))]) (st' := []) rfl ?_
    refine k_run 1 (pc' := 50) (l' := [(0, .inr (.inr 361)), (1, .inl 1), (2, .inl x), (3, .inl a), (4, .inl b), (5, .inl c), (6, .inr (.inr 13)), (7, .inl (H.1 16 (x).toNat))]) (st' := [.inl a]) rfl ?_
    refine h_zlt (off := 20) (t := 70) rfl rfl (by omega) (fun c3 => ?_) (fun c3 => ?_)
    · refine k_run 0 (pc' := 70) (l' := [(0, .inr (.inr 361)), (1, .inl 1), (2, .inl x), (3, .inl a), (4, .inl b), (5, .inl c), (6, .inr (.inr 13)), (7, .inl (H.1 16 (x).toNat))]) (st' := []) rfl ?_
      refine k_run 4 (pc' := 75) (l' := [(0, .inr (.inr 361)), (1, .inl 1), (2, .inl x), (3, .inl a), (4, .inl b), (5, .inl c), (6, .inr (.inr 13)), (7, .inl (H.1 16 (x).toNat))]) (st' := [.inl (H.1 16 (x).toNat), .inl x, .inl 1, .inr (.inr 361)]) rfl ?_
      refine h_cs (i := 153) (j := 48) (M' := mt_48) (xs := [.inl (H.1 16 (x).toNat), .inl x, .inl 1]) (rest := [.inr (.inr 361)]) rfl rfl rfl rfl rfl (Nat.le_of_ble_eq_true rfl) (Nat.le_of_ble_eq_true rfl) (by omega) (k_Term_codeOf (by omega)  (by decide) (by omega) (by omega)) ?_
      rintro _ _ ⟨z8, rfl, g4, rfl⟩
      refine k_run 0 (pc' := 78) (l' := [(0, .inr (.inr 361)), (1, .inl 1), (2, .inl x), (3, .inl a), (4, .inl b), (5, .inl c), (6, .inr (.inr 13)), (7, .inl (H.1 16 (x).toNat))]) (st' := [.inl z8, .inr (.inr 361)]) rfl ?_
      have g9 : -2147483648 ≤ (H.1 361 4) ∧ (H.1 361 4) ≤ 2147483647 := kn (x := kx_361) hI rfl 4
      refine h_cv (i := 157) (j := 77) (b := 361) (M' := mt_77) (xs := [.inl z8]) (rest := []) rfl rfl rfl rfl (zs_K (x := kx_361) rfl (by decide)) rfl (Nat.le_of_ble_eq_true rfl) (Nat.le_of_ble_eq_true rfl) (by omega) (f_Reader_addName (by omega) hI (by omega)) ?_
      rintro _ H11 ⟨z14, rfl, g10, hI12, hq13⟩
      have hf15 : fq [(361, 3), (361, 4), (361, 5), (361, 9)] [362] true H H11 := fq_t (fq_rf _ _ _ _) hq13 rfl rfl rfl
      refine k_run 0 (pc' := 81) (l' := [(0, .inr (.inr 361)), (1, .inl 1), (2, .inl x), (3, .inl a), (4, .inl b), (5, .inl c), (6, .inr (.inr 13)), (7, .inl (H.1 16 (x).toNat))]) (st' := [.inl z14]) rfl ?_
      refine k_run 3 (pc' := 86) (l' := [(0, .inr (.inr 361)), (1, .inl 1), (2, .inl x), (3, .inl a), (4, .inl b), (5, .inl c), (6, .inr (.inr 13)), (7, .inl (H.1 16 (x).toNat)), (8, .inl z14), (9, .inl 0)]) (st' := []) rfl ?_
      have g16 : -2147483648 ≤ (H11.1 361 4) ∧ (H11.1 361 4) ≤ 2147483647 := kn (x := kx_361) hI12 rfl 4
      exact (f_readApplied_1_cut hd hI hx ha hb hc hp0 hp1 hR1 _) H11 hI12 hf15 (H.1 16 (x).toNat) z14 (0 : Int) (by omega) (by omega) (by decide) (by omega) (by omega) (by omega) (by omega) (Nat.lt_succ_self _)
    · refine k_run 0 (pc' := 53) (l' := [(0, .inr (.inr 361)), (1, .inl 1), (2, .inl x), (3, .inl a), (4, .inl b), (5, .inl c), (6, .inr (.inr 13)), (7, .inl (H.1 16 (x).toNat))]) (st' := []) rfl ?_
      refine k_run 3 (pc' := 59) (l' := [(0, .inr (.inr 361)), (1, .inl 1), (2, .inl x), (3, .inl a), (4, .inl b), (5, .inl c), (6, .inr (.inr 13)), (7, .inl (H.1 16 (x).toNat))]) (st' := [.inl x, .inr (.inr 15)]) rfl ?_
      refine k_ild (c := 15) (j := (x).toNat) (i := x) (x := kx_15) rfl rfl (by decide) rfl (by decide) (by omega) (by omega) ?_
      have g17 : -2 ≤ (H.1 15 (x).toNat) ∧ (H.1 15 (x).toNat) ≤ 100 := kn (x := kx_15) hI rfl (x).toNat
      refine k_run 0 (pc' := 60) (l' := [(0, .inr (.inr 361)), (1, .inl 1), (2, .inl x), (3, .inl a), (4, .inl b), (5, .inl c), (6, .inr (.inr 13)), (7, .inl (H.1 16 (x).toNat))]) (st' := [.inl (H.1 15 (x).toNat)]) rfl ?_
      refine k_run 1 (pc' := 61) (l' := [(0, .inr (.inr 361)), (1, .inl 1), (2, .inl x), (3, .inl a), (4, .inl b), (5, .inl c), (6, .inr (.inr 13)), (7, .inl (H.1 16 (x).toNat))]) (st' := [.inl a, .inl (H.1 15 (x).toNat)]) rfl ?_
      refine h_ieq (off := 9) (t := 70) rfl rfl (by omega) (by omega) (fun c18 => ?_) (fun c18 => ?_)
      · refine k_run 0 (pc' := 70) (l' := [(0, .inr (.inr 361)), (1, .inl 1), (2, .inl x), (3, .inl a), (4, .inl b), (5, .inl c), (6, .inr (.inr 13)), (7, .inl (H.1 16 (x).toNat))]) (st' := []) rfl ?_
        refine k_run 4 (pc' := 75) (l' := [(0, .inr (.inr 361)), (1, .inl 1), (2, .inl x), (3, .inl a), (4, .inl b), (5, .inl c), (6, .inr (.inr 13)), (7, .inl (H.1 16 (x).toNat))]) (st' := [.inl (H.1 16 (x).toNat), .inl x, .inl 1, .inr (.inr 361)]) rfl ?_
        refine h_cs (i := 153) (j := 48) (M' := mt_48) (xs := [.inl (H.1 16 (x).toNat), .inl x, .inl 1]) (rest := [.inr (.inr 361)]) rfl rfl rfl rfl rfl (Nat.le_of_ble_eq_true rfl) (Nat.le_of_ble_eq_true rfl) (by omega) (k_Term_codeOf (by omega)  (by decide) (by omega) (by omega)) ?_
        rintro _ _ ⟨z23, rfl, g19, rfl⟩
        refine k_run 0 (pc' := 78) (l' := [(0, .inr (.inr 361)), (1, .inl 1), (2, .inl x), (3, .inl a), (4, .inl b), (5, .inl c), (6, .inr (.inr 13)), (7, .inl (H.1 16 (x).toNat))]) (st' := [.inl z23, .inr (.inr 361)]) rfl ?_
        have g24 : -2147483648 ≤ (H.1 361 4) ∧ (H.1 361 4) ≤ 2147483647 := kn (x := kx_361) hI rfl 4
        refine h_cv (i := 157) (j := 77) (b := 361) (M' := mt_77) (xs := [.inl z23]) (rest := []) rfl rfl rfl rfl (zs_K (x := kx_361) rfl (by decide)) rfl (Nat.le_of_ble_eq_true rfl) (Nat.le_of_ble_eq_true rfl) (by omega) (f_Reader_addName (by omega) hI (by omega)) ?_
        rintro _ H26 ⟨z29, rfl, g25, hI27, hq28⟩
        have hf30 : fq [(361, 3), (361, 4), (361, 5), (361, 9)] [362] true H H26 := fq_t (fq_rf _ _ _ _) hq28 rfl rfl rfl
        refine k_run 0 (pc' := 81) (l' := [(0, .inr (.inr 361)), (1, .inl 1), (2, .inl x), (3, .inl a), (4, .inl b), (5, .inl c), (6, .inr (.inr 13)), (7, .inl (H.1 16 (x).toNat))]) (st' := [.inl z29]) rfl ?_
        refine k_run 3 (pc' := 86) (l' := [(0, .inr (.inr 361)), (1, .inl 1), (2, .inl x), (3, .inl a), (4, .inl b), (5, .inl c), (6, .inr (.inr 13)), (7, .inl (H.1 16 (x).toNat)), (8, .inl z29), (9, .inl 0)]) (st' := []) rfl ?_
        have g31 : -2147483648 ≤ (H26.1 361 4) ∧ (H26.1 361 4) ≤ 2147483647 := kn (x := kx_361) hI27 rfl 4
        exact (f_readApplied_1_cut hd hI hx ha hb hc hp0 hp1 hR1 _) H26 hI27 hf30 (H.1 16 (x).toNat) z29 (0 : Int) (by omega) (by omega) (by decide) (by omega) (by omega) (by omega) (by omega) (Nat.lt_succ_self _)
      · refine k_run 0 (pc' := 64) (l' := [(0, .inr (.inr 361)), (1, .inl 1), (2, .inl x), (3, .inl a), (4, .inl b), (5, .inl c), (6, .inr (.inr 13)), (7, .inl (H.1 16 (x).toNat))]) (st' := []) rfl ?_
        refine k_run 2 (pc' := 66) (l' := [(0, .inr (.inr 361)), (1, .inl 1), (2, .inl x), (3, .inl a), (4, .inl b), (5, .inl c), (6, .inr (.inr 13)), (7, .inl (H.1 16 (x).toNat))]) (st' := [.inl 4, .inr (.inr 361)]) rfl ?_
        have g32 : -2147483648 ≤ (H.1 361 4) ∧ (H.1 361 4) ≤ 2147483647 := kn (x := kx_361) hI rfl 4
        refine h_cv (i := 128) (j := 86) (b := 361) (M' := mt_86) (xs := [.inl 4]) (rest := []) rfl rfl rfl rfl (zs_K (x := kx_361) rfl (by decide)) rfl (Nat.le_of_ble_eq_true rfl) (Nat.le_of_ble_eq_true rfl) (by omega) (f_Reader_fails (by omega) hI (by decide)) ?_
        rintro _ H34 ⟨z37, rfl, g33, hI35, hq36⟩
        have hf38 : fq [(361, 3), (361, 4), (361, 5), (361, 9)] [362] true H H34 := fq_t (fq_rf _ _ _ _) hq36 rfl rfl rfl
        refine k_run 0 (pc' := 69) (l' := [(0, .inr (.inr 361)), (1, .inl 1), (2, .inl x), (3, .inl a), (4, .inl b), (5, .inl c), (6, .inr (.inr 13)), (7, .inl (H.1 16 (x).toNat))]) (st' := [.inl z37]) rfl ?_
        refine h_retz (x := z37) rfl rfl (by omega) ?_
        have g39 : -2147483648 ≤ (H34.1 361 4) ∧ (H34.1 361 4) ≤ 2147483647 := kn (x := kx_361) hI35 rfl 4
        exact ⟨_, rfl, (by omega), hI35, hf38⟩
  · refine k_run 0 (pc' := 38) (l' := [(0, .inr (.inr 361)), (1, .inl 1), (2, .inl x), (3, .inl a), (4, .inl b), (5, .inl c), (6, .inr (.inr 13)), (7, .inl (H.1 16 (x).toNat))]) (st' := []) rfl ?_
    refine k_run 1 (pc' := 40) (l' := [(0, .inr (.inr 361)), (1, .inl 1), (2, .inl x), (3, .inl a), (4, .inl b), (5, .inl c), (6, .inr (.inr 13)), (7, .inl (H.1 16 (x).toNat))]) (st' := [.inl (H.1 16 (x).toNat)]) rfl ?_
    refine h_zle (off := 9) (t := 49) rfl rfl (by omega) (fun c40 => ?_) (fun c40 => ?_)
    · refine k_run 0 (pc' := 49) (l' := [(0, .inr (.inr 361)), (1, .inl 1), (2, .inl x), (3, .inl a), (4, .inl b), (5, .inl c), (6, .inr (.inr 13)), (7, .inl (H.1 16 (x).toNat))]) (st' := []) rfl ?_
      refine k_run 1 (pc' := 50) (l' := [(0, .inr (.inr 361)), (1, .inl 1), (2, .inl x), (3, .inl a), (4, .inl b), (5, .inl c), (6, .inr (.inr 13)), (7, .inl (H.1 16 (x).toNat))]) (st' := [.inl a]) rfl ?_
      refine h_zlt (off := 20) (t := 70) rfl rfl (by omega) (fun c41 => ?_) (fun c41 => ?_)
      · refine k_run 0 (pc' := 70) (l' := [(0, .inr (.inr 361)), (1, .inl 1), (2, .inl x), (3, .inl a), (4, .inl b), (5, .inl c), (6, .inr (.inr 13)), (7, .inl (H.1 16 (x).toNat))]) (st' := []) rfl ?_
        refine k_run 4 (pc' := 75) (l' := [(0, .inr (.inr 361)), (1, .inl 1), (2, .inl x), (3, .inl a), (4, .inl b), (5, .inl c), (6, .inr (.inr 13)), (7, .inl (H.1 16 (x).toNat))]) (st' := [.inl (H.1 16 (x).toNat), .inl x, .inl 1, .inr (.inr 361)]) rfl ?_
        refine h_cs (i := 153) (j := 48) (M' := mt_48) (xs := [.inl (H.1 16 (x).toNat), .inl x, .inl 1]) (rest := [.inr (.inr 361)]) rfl rfl rfl rfl rfl (Nat.le_of_ble_eq_true rfl) (Nat.le_of_ble_eq_true rfl) (by omega) (k_Term_codeOf (by omega)  (by decide) (by omega) (by omega)) ?_
        rintro _ _ ⟨z46, rfl, g42, rfl⟩
        refine k_run 0 (pc' := 78) (l' := [(0, .inr (.inr 361)), (1, .inl 1), (2, .inl x), (3, .inl a), (4, .inl b), (5, .inl c), (6, .inr (.inr 13)), (7, .inl (H.1 16 (x).toNat))]) (st' := [.inl z46, .inr (.inr 361)]) rfl ?_
        have g47 : -2147483648 ≤ (H.1 361 4) ∧ (H.1 361 4) ≤ 2147483647 := kn (x := kx_361) hI rfl 4
        refine h_cv (i := 157) (j := 77) (b := 361) (M' := mt_77) (xs := [.inl z46]) (rest := []) rfl rfl rfl rfl (zs_K (x := kx_361) rfl (by decide)) rfl (Nat.le_of_ble_eq_true rfl) (Nat.le_of_ble_eq_true rfl) (by omega) (f_Reader_addName (by omega) hI (by omega)) ?_
        rintro _ H49 ⟨z52, rfl, g48, hI50, hq51⟩
        have hf53 : fq [(361, 3), (361, 4), (361, 5), (361, 9)] [362] true H H49 := fq_t (fq_rf _ _ _ _) hq51 rfl rfl rfl
        refine k_run 0 (pc' := 81) (l' := [(0, .inr (.inr 361)), (1, .inl 1), (2, .inl x), (3, .inl a), (4, .inl b), (5, .inl c), (6, .inr (.inr 13)), (7, .inl (H.1 16 (x).toNat))]) (st' := [.inl z52]) rfl ?_
        refine k_run 3 (pc' := 86) (l' := [(0, .inr (.inr 361)), (1, .inl 1), (2, .inl x), (3, .inl a), (4, .inl b), (5, .inl c), (6, .inr (.inr 13)), (7, .inl (H.1 16 (x).toNat)), (8, .inl z52), (9, .inl 0)]) (st' := []) rfl ?_
        have g54 : -2147483648 ≤ (H49.1 361 4) ∧ (H49.1 361 4) ≤ 2147483647 := kn (x := kx_361) hI50 rfl 4
        exact (f_readApplied_1_cut hd hI hx ha hb hc hp0 hp1 hR1 _) H49 hI50 hf53 (H.1 16 (x).toNat) z52 (0 : Int) (by omega) (by omega) (by decide) (by omega) (by omega) (by omega) (by omega) (Nat.lt_succ_self _)
      · refine k_run 0 (pc' := 53) (l' := [(0, .inr (.inr 361)), (1, .inl 1), (2, .inl x), (3, .inl a), (4, .inl b), (5, .inl c), (6, .inr (.inr 13)), (7, .inl (H.1 16 (x).toNat))]) (st' := []) rfl ?_
        refine k_run 3 (pc' := 59) (l' := [(0, .inr (.inr 361)), (1, .inl 1), (2, .inl x), (3, .inl a), (4, .inl b), (5, .inl c), (6, .inr (.inr 13)), (7, .inl (H.1 16 (x).toNat))]) (st' := [.inl x, .inr (.inr 15)]) rfl ?_
        refine k_ild (c := 15) (j := (x).toNat) (i := x) (x := kx_15) rfl rfl (by decide) rfl (by decide) (by omega) (by omega) ?_
        have g55 : -2 ≤ (H.1 15 (x).toNat) ∧ (H.1 15 (x).toNat) ≤ 100 := kn (x := kx_15) hI rfl (x).toNat
        refine k_run 0 (pc' := 60) (l' := [(0, .inr (.inr 361)), (1, .inl 1), (2, .inl x), (3, .inl a), (4, .inl b), (5, .inl c), (6, .inr (.inr 13)), (7, .inl (H.1 16 (x).toNat))]) (st' := [.inl (H.1 15 (x).toNat)]) rfl ?_
        refine k_run 1 (pc' := 61) (l' := [(0, .inr (.inr 361)), (1, .inl 1), (2, .inl x), (3, .inl a), (4, .inl b), (5, .inl c), (6, .inr (.inr 13)), (7, .inl (H.1 16 (x).toNat))]) (st' := [.inl a, .inl (H.1 15 (x).toNat)]) rfl ?_
        refine h_ieq (off := 9) (t := 70) rfl rfl (by omega) (by omega) (fun c56 => ?_) (fun c56 => ?_)
        · refine k_run 0 (pc' := 70) (l' := [(0, .inr (.inr 361)), (1, .inl 1), (2, .inl x), (3, .inl a), (4, .inl b), (5, .inl c), (6, .inr (.inr 13)), (7, .inl (H.1 16 (x).toNat))]) (st' := []) rfl ?_
          refine k_run 4 (pc' := 75) (l' := [(0, .inr (.inr 361)), (1, .inl 1), (2, .inl x), (3, .inl a), (4, .inl b), (5, .inl c), (6, .inr (.inr 13)), (7, .inl (H.1 16 (x).toNat))]) (st' := [.inl (H.1 16 (x).toNat), .inl x, .inl 1, .inr (.inr 361)]) rfl ?_
          refine h_cs (i := 153) (j := 48) (M' := mt_48) (xs := [.inl (H.1 16 (x).toNat), .inl x, .inl 1]) (rest := [.inr (.inr 361)]) rfl rfl rfl rfl rfl (Nat.le_of_ble_eq_true rfl) (Nat.le_of_ble_eq_true rfl) (by omega) (k_Term_codeOf (by omega)  (by decide) (by omega) (by omega)) ?_
          rintro _ _ ⟨z61, rfl, g57, rfl⟩
          refine k_run 0 (pc' := 78) (l' := [(0, .inr (.inr 361)), (1, .inl 1), (2, .inl x), (3, .inl a), (4, .inl b), (5, .inl c), (6, .inr (.inr 13)), (7, .inl (H.1 16 (x).toNat))]) (st' := [.inl z61, .inr (.inr 361)]) rfl ?_
          have g62 : -2147483648 ≤ (H.1 361 4) ∧ (H.1 361 4) ≤ 2147483647 := kn (x := kx_361) hI rfl 4
          refine h_cv (i := 157) (j := 77) (b := 361) (M' := mt_77) (xs := [.inl z61]) (rest := []) rfl rfl rfl rfl (zs_K (x := kx_361) rfl (by decide)) rfl (Nat.le_of_ble_eq_true rfl) (Nat.le_of_ble_eq_true rfl) (by omega) (f_Reader_addName (by omega) hI (by omega)) ?_
          rintro _ H64 ⟨z67, rfl, g63, hI65, hq66⟩
          have hf68 : fq [(361, 3), (361, 4), (361, 5), (361, 9)] [362] true H H64 := fq_t (fq_rf _ _ _ _) hq66 rfl rfl rfl
          refine k_run 0 (pc' := 81) (l' := [(0, .inr (.inr 361)), (1, .inl 1), (2, .inl x), (3, .inl a), (4, .inl b), (5, .inl c), (6, .inr (.inr 13)), (7, .inl (H.1 16 (x).toNat))]) (st' := [.inl z67]) rfl ?_
          refine k_run 3 (pc' := 86) (l' := [(0, .inr (.inr 361)), (1, .inl 1), (2, .inl x), (3, .inl a), (4, .inl b), (5, .inl c), (6, .inr (.inr 13)), (7, .inl (H.1 16 (x).toNat)), (8, .inl z67), (9, .inl 0)]) (st' := []) rfl ?_
          have g69 : -2147483648 ≤ (H64.1 361 4) ∧ (H64.1 361 4) ≤ 2147483647 := kn (x := kx_361) hI65 rfl 4
          exact (f_readApplied_1_cut hd hI hx ha hb hc hp0 hp1 hR1 _) H64 hI65 hf68 (H.1 16 (x).toNat) z67 (0 : Int) (by omega) (by omega) (by decide) (by omega) (by omega) (by omega) (by omega) (Nat.lt_succ_self _)
        · refine k_run 0 (pc' := 64) (l' := [(0, .inr (.inr 361)), (1, .inl 1), (2, .inl x), (3, .inl a), (4, .inl b), (5, .inl c), (6, .inr (.inr 13)), (7, .inl (H.1 16 (x).toNat))]) (st' := []) rfl ?_
          refine k_run 2 (pc' := 66) (l' := [(0, .inr (.inr 361)), (1, .inl 1), (2, .inl x), (3, .inl a), (4, .inl b), (5, .inl c), (6, .inr (.inr 13)), (7, .inl (H.1 16 (x).toNat))]) (st' := [.inl 4, .inr (.inr 361)]) rfl ?_
          have g70 : -2147483648 ≤ (H.1 361 4) ∧ (H.1 361 4) ≤ 2147483647 := kn (x := kx_361) hI rfl 4
          refine h_cv (i := 128) (j := 86) (b := 361) (M' := mt_86) (xs := [.inl 4]) (rest := []) rfl rfl rfl rfl (zs_K (x := kx_361) rfl (by decide)) rfl (Nat.le_of_ble_eq_true rfl) (Nat.le_of_ble_eq_true rfl) (by omega) (f_Reader_fails (by omega) hI (by decide)) ?_
          rintro _ H72 ⟨z75, rfl, g71, hI73, hq74⟩
          have hf76 : fq [(361, 3), (361, 4), (361, 5), (361, 9)] [362] true H H72 := fq_t (fq_rf _ _ _ _) hq74 rfl rfl rfl
          refine k_run 0 (pc' := 69) (l' := [(0, .inr (.inr 361)), (1, .inl 1), (2, .inl x), (3, .inl a), (4, .inl b), (5, .inl c), (6, .inr (.inr 13)), (7, .inl (H.1 16 (x).toNat))]) (st' := [.inl z75]) rfl ?_
          refine h_retz (x := z75) rfl rfl (by omega) ?_
          have g77 : -2147483648 ≤ (H72.1 361 4) ∧ (H72.1 361 4) ≤ 2147483647 := kn (x := kx_361) hI73 rfl 4
          exact ⟨_, rfl, (by omega), hI73, hf76⟩
    · refine k_run 0 (pc' := 43) (l' := [(0, .inr (.inr 361)), (1, .inl 1), (2, .inl x), (3, .inl a), (4, .inl b), (5, .inl c), (6, .inr (.inr 13)), (7, .inl (H.1 16 (x).toNat))]) (st' := []) rfl ?_
      refine k_run 2 (pc' := 45) (l' := [(0, .inr (.inr 361)), (1, .inl 1), (2, .inl x), (3, .inl a), (4, .inl b), (5, .inl c), (6, .inr (.inr 13)), (7, .inl (H.1 16 (x).toNat))]) (st' := [.inl 2, .inr (.inr 361)]) rfl ?_
      have g78 : -2147483648 ≤ (H.1 361 4) ∧ (H.1 361 4) ≤ 2147483647 := kn (x := kx_361) hI rfl 4
      refine h_cv (i := 128) (j := 86) (b := 361) (M' := mt_86) (xs := [.inl 2]) (rest := []) rfl rfl rfl rfl (zs_K (x := kx_361) rfl (by decide)) rfl (Nat.le_of_ble_eq_true rfl) (Nat.le_of_ble_eq_true rfl) (by omega) (f_Reader_fails (by omega) hI (by decide)) ?_
      rintro _ H80 ⟨z83, rfl, g79, hI81, hq82⟩
      have hf84 : fq [(361, 3), (361, 4), (361, 5), (361, 9)] [362] true H H80 := fq_t (fq_rf _ _ _ _) hq82 rfl rfl rfl
      refine k_run 0 (pc' := 48) (l' := [(0, .inr (.inr 361)), (1, .inl 1), (2, .inl x), (3, .inl a), (4, .inl b), (5, .inl c), (6, .inr (.inr 13)), (7, .inl (H.1 16 (x).toNat))]) (st' := [.inl z83]) rfl ?_
      refine h_retz (x := z83) rfl rfl (by omega) ?_
      have g85 : -2147483648 ≤ (H80.1 361 4) ∧ (H80.1 361 4) ≤ 2147483647 := kn (x := kx_361) hI81 rfl 4
      exact ⟨_, rfl, (by omega), hI81, hf84⟩

/-! Reader.readTerm -/
set_option maxRecDepth 100000 in
theorem f_readTerm_0 {m : Nat} {d : Nat} (hd : 3 * m + 10 ≤ d) {H : hp} (hI : Inv H) {a : Int} {b : Int} {c : Int} (ha : -2147483648 ≤ a ∧ a ≤ 2147483647) (hb : -2147483648 ≤ b ∧ b ≤ 2147483647) (hc : 0 ≤ c ∧ c ≤ 1) (hp0 : -2 ≤ a ∧ a ≤ 100 ∧ 0 ≤ b ∧ b ≤ 10 ∧ 10 ≤ b + (m : Int)) (hR : ∀ m1, m1 < m → RTc9 m1) (hA1 : RA1c9 m) (hA2 : RA2c9 m) : hG (zs zK) d mt_73 0 (zargs 0 [.inr (.inr 361), .inl a, .inl b, .inl c]) [] H (fun r9 H9 => ∃ z : Int, r9 = some (.inl z) ∧ ((0 ≤ z ∧ z ≤ 1) ∧ ((z = 0 ∨ H9.1 361 4 = H.1 361 4))) ∧ Inv H9 ∧ fq [(361, 3), (361, 4), (361, 5), (361, 9)] [362] true H H9) := by
  refine k_run 0 (pc' := 0) (l' := [(0, .inr (.inr 361)), (1, .inl a), (2, .inl b), (3, .inl c)]) (st' := []) rfl ?_
  refine k_run 1 (pc' := 1) (l' := [(0, .inr (.inr 361)), (1, .inl a), (2, .inl b), (3, .inl c)]) (st' := [.inr (.inr 361)]) rfl ?_
  refine h_cv (i := 72) (j := 83) (b := 361) (M' := mt_83) (xs := []) (rest := []) rfl rfl rfl rfl (zs_K (x := kx_361) rfl (by decide)) rfl (Nat.le_of_ble_eq_true rfl) (Nat.le_of_ble_eq_true rfl) (by omega) (f_Reader_token (by omega) hI ) ?_
  rintro _ _ ⟨z5, rfl, g1, rfl⟩
  refine k_run 0 (pc' := 4) (l' := [(0, .inr (.inr 361)), (1, .inl a), (2, .inl b), (3, .inl c)]) (st' := [.inl z5]) rfl ?_
  rcases (show (z5 ≠ 2 ∧ z5 ≠ 3 ∧ z5 ≠ 40 ∧ z5 ≠ 95) ∨ z5 = 2 ∨ z5 = 3 ∨ z5 = 40 ∨ z5 = 95 by omega) with c6 | c6 | c6 | c6 | c6
  · refine k_lsw (t := 193) rfl (by omega) (by decide) (lsw_no (by intro q9 hq9; simp only [List.mem_cons, List.not_mem_nil, or_false] at hq9; rcases hq9 with rfl | rfl | rfl | rfl <;> (dsimp only; omega))) rfl ?_
    refine k_run 1 (pc' := 194) (l' := [(0, .inr (.inr 361)), (1, .inl a), (2, .inl b), (3, .inl c)]) (st' := [.inr (.inr 361)]) rfl ?_
    have g7 : -2147483648 ≤ (H.1 361 4) ∧ (H.1 361 4) ≤ 2147483647 := kn (x := kx_361) hI rfl 4
    refine h_cv (i := 89) (j := 85) (b := 361) (M' := mt_85) (xs := []) (rest := []) rfl rfl rfl rfl (zs_K (x := kx_361) rfl (by decide)) rfl (Nat.le_of_ble_eq_true rfl) (Nat.le_of_ble_eq_true rfl) (by omega) (f_Reader_misplaced (by omega) hI ) ?_
    rintro _ H9 ⟨z12, rfl, g8, hI10, hq11⟩
    have hf13 : fq [(361, 3), (361, 4), (361, 5), (361, 9)] [362] true H H9 := fq_t (fq_rf _ _ _ _) hq11 rfl rfl rfl
    refine k_run 0 (pc' := 197) (l' := [(0, .inr (.inr 361)), (1, .inl a), (2, .inl b), (3, .inl c)]) (st' := [.inl z12]) rfl ?_
    refine h_retz (x := z12) rfl rfl (by omega) ?_
    have g14 : -2147483648 ≤ (H9.1 361 4) ∧ (H9.1 361 4) ≤ 2147483647 := kn (x := kx_361) hI10 rfl 4
    exact ⟨_, rfl, (by omega), hI10, hf13⟩
  · refine k_lsw (t := 48) rfl (by omega) (by decide) (by rw [c6]) rfl ?_
    refine k_run 4 (pc' := 56) (l' := [(0, .inr (.inr 361)), (1, .inl a), (2, .inl b), (3, .inl c)]) (st' := [.inr (.inr 361), .inr (.inr 18)]) rfl ?_
    refine h_cv (i := 120) (j := 84) (b := 361) (M' := mt_84) (xs := []) (rest := [.inr (.inr 18)]) rfl rfl rfl rfl (zs_K (x := kx_361) rfl (by decide)) rfl (Nat.le_of_ble_eq_true rfl) (Nat.le_of_ble_eq_true rfl) (by omega) (f_Reader_name (by omega) hI ) ?_
    rintro _ _ ⟨z19, rfl, g15, rfl⟩
    refine k_run 0 (pc' := 59) (l' := [(0, .inr (.inr 361)), (1, .inl a), (2, .inl b), (3, .inl c)]) (st' := [.inr (.inl z19), .inr (.inr 18)]) rfl ?_
    have g20 : 0 ≤ (H.1 18 4) ∧ (H.1 18 4) ≤ 16 := kn (x := kx_18) hI rfl 4
    refine h_cv (i := 124) (j := 41) (b := 18) (M' := mt_41) (xs := [.inr (.inl z19)]) (rest := []) rfl rfl rfl rfl (zs_K (x := kx_18) rfl (by decide)) rfl (Nat.le_of_ble_eq_true rfl) (Nat.le_of_ble_eq_true rfl) (by omega) (k_Symbols_find_18 (by omega) hI ) ?_
    rintro _ _ ⟨z25, rfl, g21, rfl⟩
    refine k_run 0 (pc' := 62) (l' := [(0, .inr (.inr 361)), (1, .inl a), (2, .inl b), (3, .inl c)]) (st' := [.inl z25]) rfl ?_
    refine k_run 2 (pc' := 66) (l' := [(0, .inr (.inr 361)), (1, .inl a), (2, .inl b), (3, .inl c), (4, .inl z25)]) (st' := [.inl z25]) rfl ?_
    refine h_zge (off := 9) (t := 75) rfl rfl (by omega) (fun c26 => ?_) (fun c26 => ?_)
    · refine k_run 0 (pc' := 75) (l' := [(0, .inr (.inr 361)), (1, .inl a), (2, .inl b), (3, .inl c), (4, .inl z25)]) (st' := []) rfl ?_
      refine k_run 6 (pc' := 82) (l' := [(0, .inr (.inr 361)), (1, .inl a), (2, .inl b), (3, .inl c), (4, .inl z25)]) (st' := [.inl c, .inl b, .inl a, .inl z25, .inl 2, .inr (.inr 361)]) rfl ?_
      have g27 : -2147483648 ≤ (H.1 361 4) ∧ (H.1 361 4) ≤ 2147483647 := kn (x := kx_361) hI rfl 4
      refine h_cv (i := 215) (j := 74) (b := 361) (M' := mt_74) (xs := [.inl c, .inl b, .inl a, .inl z25, .inl 2]) (rest := []) rfl rfl rfl rfl (zs_K (x := kx_361) rfl (by decide)) rfl (Nat.le_of_ble_eq_true rfl) (Nat.le_of_ble_eq_true rfl) (by omega) (hA2 (by omega) hI (by omega) (by omega) (by omega) (by omega) (by omega) (by omega)) ?_
      rintro _ H29 ⟨z32, rfl, g28, hI30, hq31⟩
      have hf33 : fq [(361, 3), (361, 4), (361, 5), (361, 9)] [362] true H H29 := fq_t (fq_rf _ _ _ _) hq31 rfl rfl rfl
      refine k_run 0 (pc' := 85) (l' := [(0, .inr (.inr 361)), (1, .inl a), (2, .inl b), (3, .inl c), (4, .inl z25)]) (st' := [.inl z32]) rfl ?_
      refine h_retz (x := z32) rfl rfl (by omega) ?_
      have g34 : -2147483648 ≤ (H29.1 361 4) ∧ (H29.1 361 4) ≤ 2147483647 := kn (x := kx_361) hI30 rfl 4
      exact ⟨_, rfl, (by omega), hI30, hf33⟩
    · refine k_run 0 (pc' := 69) (l' := [(0, .inr (.inr 361)), (1, .inl a), (2, .inl b), (3, .inl c), (4, .inl z25)]) (st' := []) rfl ?_
      refine k_run 2 (pc' := 71) (l' := [(0, .inr (.inr 361)), (1, .inl a), (2, .inl b), (3, .inl c), (4, .inl z25)]) (st' := [.inl a, .inr (.inr 361)]) rfl ?_
      have g35 : -2147483648 ≤ (H.1 361 4) ∧ (H.1 361 4) ≤ 2147483647 := kn (x := kx_361) hI rfl 4
      refine h_cv (i := 212) (j := 75) (b := 361) (M' := mt_75) (xs := [.inl a]) (rest := []) rfl rfl rfl rfl (zs_K (x := kx_361) rfl (by decide)) rfl (Nat.le_of_ble_eq_true rfl) (Nat.le_of_ble_eq_true rfl) (by omega) (f_Reader_readVariable (by omega) hI (by omega) (by omega)) ?_
      rintro _ H37 ⟨z40, rfl, g36, hI38, hq39⟩
      have hf41 : fq [(361, 3), (361, 4), (361, 5), (361, 9)] [362] true H H37 := fq_t (fq_rf _ _ _ _) hq39 rfl rfl rfl
      refine k_run 0 (pc' := 74) (l' := [(0, .inr (.inr 361)), (1, .inl a), (2, .inl b), (3, .inl c), (4, .inl z25)]) (st' := [.inl z40]) rfl ?_
      refine h_retz (x := z40) rfl rfl (by omega) ?_
      have g42 : -2147483648 ≤ (H37.1 361 4) ∧ (H37.1 361 4) ≤ 2147483647 := kn (x := kx_361) hI38 rfl 4
      exact ⟨_, rfl, (by omega), hI38, hf41⟩
  · refine k_lsw (t := 86) rfl (by omega) (by decide) (by rw [c6]) rfl ?_
    refine k_run 4 (pc' := 94) (l' := [(0, .inr (.inr 361)), (1, .inl a), (2, .inl b), (3, .inl c)]) (st' := [.inr (.inr 361), .inr (.inr 13)]) rfl ?_
    refine h_cv (i := 120) (j := 84) (b := 361) (M' := mt_84) (xs := []) (rest := [.inr (.inr 13)]) rfl rfl rfl rfl (zs_K (x := kx_361) rfl (by decide)) rfl (Nat.le_of_ble_eq_true rfl) (Nat.le_of_ble_eq_true rfl) (by omega) (f_Reader_name (by omega) hI ) ?_
    rintro _ _ ⟨z47, rfl, g43, rfl⟩
    refine k_run 0 (pc' := 97) (l' := [(0, .inr (.inr 361)), (1, .inl a), (2, .inl b), (3, .inl c)]) (st' := [.inr (.inl z47), .inr (.inr 13)]) rfl ?_
    have g48 : 0 ≤ (H.1 13 4) ∧ (H.1 13 4) ≤ 16 := kn (x := kx_13) hI rfl 4
    refine h_cv (i := 124) (j := 41) (b := 13) (M' := mt_41) (xs := [.inr (.inl z47)]) (rest := []) rfl rfl rfl rfl (zs_K (x := kx_13) rfl (by decide)) rfl (Nat.le_of_ble_eq_true rfl) (Nat.le_of_ble_eq_true rfl) (by omega) (k_Symbols_find_13 (by omega) hI ) ?_
    rintro _ _ ⟨z53, rfl, g49, rfl⟩
    refine k_run 0 (pc' := 100) (l' := [(0, .inr (.inr 361)), (1, .inl a), (2, .inl b), (3, .inl c)]) (st' := [.inl z53]) rfl ?_
    refine k_run 2 (pc' := 104) (l' := [(0, .inr (.inr 361)), (1, .inl a), (2, .inl b), (3, .inl c), (5, .inl z53)]) (st' := [.inl z53]) rfl ?_
    refine h_zge (off := 9) (t := 113) rfl rfl (by omega) (fun c54 => ?_) (fun c54 => ?_)
    · refine k_run 0 (pc' := 113) (l' := [(0, .inr (.inr 361)), (1, .inl a), (2, .inl b), (3, .inl c), (5, .inl z53)]) (st' := []) rfl ?_
      refine k_run 6 (pc' := 120) (l' := [(0, .inr (.inr 361)), (1, .inl a), (2, .inl b), (3, .inl c), (5, .inl z53)]) (st' := [.inl c, .inl b, .inl a, .inl z53, .inl 1, .inr (.inr 361)]) rfl ?_
      have g55 : -2147483648 ≤ (H.1 361 4) ∧ (H.1 361 4) ≤ 2147483647 := kn (x := kx_361) hI rfl 4
      refine h_cv (i := 215) (j := 74) (b := 361) (M' := mt_74) (xs := [.inl c, .inl b, .inl a, .inl z53, .inl 1]) (rest := []) rfl rfl rfl rfl (zs_K (x := kx_361) rfl (by decide)) rfl (Nat.le_of_ble_eq_true rfl) (Nat.le_of_ble_eq_true rfl) (by omega) (hA1 (by omega) hI (by omega) (by omega) (by omega) (by omega) (by omega) (by omega)) ?_
      rintro _ H57 ⟨z60, rfl, g56, hI58, hq59⟩
      have hf61 : fq [(361, 3), (361, 4), (361, 5), (361, 9)] [362] true H H57 := fq_t (fq_rf _ _ _ _) hq59 rfl rfl rfl
      refine k_run 0 (pc' := 123) (l' := [(0, .inr (.inr 361)), (1, .inl a), (2, .inl b), (3, .inl c), (5, .inl z53)]) (st' := [.inl z60]) rfl ?_
      refine h_retz (x := z60) rfl rfl (by omega) ?_
      have g62 : -2147483648 ≤ (H57.1 361 4) ∧ (H57.1 361 4) ≤ 2147483647 := kn (x := kx_361) hI58 rfl 4
      exact ⟨_, rfl, (by omega), hI58, hf61⟩
    · refine k_run 0 (pc' := 107) (l' := [(0, .inr (.inr 361)), (1, .inl a), (2, .inl b), (3, .inl c), (5, .inl z53)]) (st' := []) rfl ?_
      refine k_run 2 (pc' := 109) (l' := [(0, .inr (.inr 361)), (1, .inl a), (2, .inl b), (3, .inl c), (5, .inl z53)]) (st' := [.inl 3, .inr (.inr 361)]) rfl ?_
      have g63 : -2147483648 ≤ (H.1 361 4) ∧ (H.1 361 4) ≤ 2147483647 := kn (x := kx_361) hI rfl 4
      refine h_cv (i := 128) (j := 86) (b := 361) (M' := mt_86) (xs := [.inl 3]) (rest := []) rfl rfl rfl rfl (zs_K (x := kx_361) rfl (by decide)) rfl (Nat.le_of_ble_eq_true rfl) (Nat.le_of_ble_eq_true rfl) (by omega) (f_Reader_fails (by omega) hI (by decide)) ?_
      rintro _ H65 ⟨z68, rfl, g64, hI66, hq67⟩
      have hf69 : fq [(361, 3), (361, 4), (361, 5), (361, 9)] [362] true H H65 := fq_t (fq_rf _ _ _ _) hq67 rfl rfl rfl
      refine k_run 0 (pc' := 112) (l' := [(0, .inr (.inr 361)), (1, .inl a), (2, .inl b), (3, .inl c), (5, .inl z53)]) (st' := [.inl z68]) rfl ?_
      refine h_retz (x := z68) rfl rfl (by omega) ?_
      have g70 : -2147483648 ≤ (H65.1 361 4) ∧ (H65.1 361 4) ≤ 2147483647 := kn (x := kx_361) hI66 rfl 4
      exact ⟨_, rfl, (by omega), hI66, hf69⟩
  · refine k_lsw (t := 144) rfl (by omega) (by decide) (by rw [c6]) rfl ?_
    refine k_run 2 (pc' := 147) (l' := [(0, .inr (.inr 361)), (1, .inl a), (2, .inl b), (3, .inl c)]) (st' := [.inl 10, .inl b]) rfl ?_
    refine h_ilt (off := 9) (t := 156) rfl rfl (by omega) (by decide) (fun c71 => ?_) (fun c71 => ?_)
    · refine k_run 0 (pc' := 156) (l' := [(0, .inr (.inr 361)), (1, .inl a), (2, .inl b), (3, .inl c)]) (st' := []) rfl ?_
      refine k_run 3 (pc' := 161) (l' := [(0, .inr (.inr 361)), (1, .inl a), (2, .inl b), (3, .inl c)]) (st' := [.inl (H.1 361 3), .inr (.inr 361)]) rfl ?_
      have g72 : -2147483648 ≤ (H.1 361 3) ∧ (H.1 361 3) ≤ 2147483647 := kn (x := kx_361) hI rfl 3
      refine k_run 2 (pc' := 163) (l' := [(0, .inr (.inr 361)), (1, .inl a), (2, .inl b), (3, .inl c)]) (st' := [.inl ((H.1 361 3) + 1), .inr (.inr 361)]) rfl ?_
      refine k_putw (a := 361) (x := kx_361) rfl rfl rfl (by decide) (by decide) rfl rfl rfl rfl hI rfl (fun H73 hI74 hw75 => ?_)
      have hf77 : fq [(361, 3), (361, 4), (361, 5), (361, 9)] [362] true H H73 := fq_w (fq_rf _ _ _ _) hw75 (fpo (by decide) rfl)
      refine k_run 0 (pc' := 166) (l' := [(0, .inr (.inr 361)), (1, .inl a), (2, .inl b), (3, .inl c)]) (st' := []) rfl ?_
      refine k_run 6 (pc' := 172) (l' := [(0, .inr (.inr 361)), (1, .inl a), (2, .inl b), (3, .inl c)]) (st' := [.inl 0, .inl (b + 1), .inl a, .inr (.inr 361)]) rfl ?_
      have g78 : -2147483648 ≤ (H73.1 361 4) ∧ (H73.1 361 4) ≤ 2147483647 := kn (x := kx_361) hI74 rfl 4
      have e79 : (H73.1 361 4) = (H.1 361 4) := hw75.2 _ _ (fun q => absurd q.2 (by decide))
      refine h_cv (i := 109) (j := 73) (b := 361) (M' := mt_73) (xs := [.inl 0, .inl (b + 1), .inl a]) (rest := []) rfl rfl rfl rfl (zs_K (x := kx_361) rfl (by decide)) rfl (Nat.le_of_ble_eq_true rfl) (Nat.le_of_ble_eq_true rfl) (by omega) (hR (m - 1) (by omega) (by omega) hI74 (by omega) (by omega) (by decide) (by omega)) ?_
      rintro _ H81 ⟨z84, rfl, g80, hI82, hq83⟩
      have hf85 : fq [(361, 3), (361, 4), (361, 5), (361, 9)] [362] true H H81 := fq_t hf77 hq83 rfl rfl rfl
      refine k_run 0 (pc' := 175) (l' := [(0, .inr (.inr 361)), (1, .inl a), (2, .inl b), (3, .inl c)]) (st' := [.inl z84]) rfl ?_
      refine h_zeq (off := 16) (t := 191) rfl rfl (by omega) (fun c86 => ?_) (fun c86 => ?_)
      · refine k_run 0 (pc' := 191) (l' := [(0, .inr (.inr 361)), (1, .inl a), (2, .inl b), (3, .inl c)]) (st' := []) rfl ?_
        refine k_run 1 (pc' := 192) (l' := [(0, .inr (.inr 361)), (1, .inl a), (2, .inl b), (3, .inl c)]) (st' := [.inl 0]) rfl ?_
        refine h_retz (x := 0) rfl rfl (by decide) ?_
        have g87 : -2147483648 ≤ (H81.1 361 4) ∧ (H81.1 361 4) ≤ 2147483647 := kn (x := kx_361) hI82 rfl 4
        exact ⟨_, rfl, (by omega), hI82, hf85⟩
      · refine k_run 0 (pc' := 178) (l' := [(0, .inr (.inr 361)), (1, .inl a), (2, .inl b), (3, .inl c)]) (st' := []) rfl ?_
        refine k_run 2 (pc' := 181) (l' := [(0, .inr (.inr 361)), (1, .inl a), (2, .inl b), (3, .inl c)]) (st' := [.inl 41, .inr (.inr 361)]) rfl ?_
        have g88 : -2147483648 ≤ (H81.1 361 4) ∧ (H81.1 361 4) ≤ 2147483647 := kn (x := kx_361) hI82 rfl 4
        refine h_cv (i := 92) (j := 82) (b := 361) (M' := mt_82) (xs := [.inl 41]) (rest := []) rfl rfl rfl rfl (zs_K (x := kx_361) rfl (by decide)) rfl (Nat.le_of_ble_eq_true rfl) (Nat.le_of_ble_eq_true rfl) (by omega) (f_Reader_take (by omega) hI82 (by decide)) ?_
        rintro _ H90 ⟨z93, rfl, g89, hI91, hq92⟩
        have hf94 : fq [(361, 3), (361, 4), (361, 5), (361, 9)] [362] true H H90 := fq_t hf85 hq92 rfl rfl rfl
        refine k_run 0 (pc' := 184) (l' := [(0, .inr (.inr 361)), (1, .inl a), (2, .inl b), (3, .inl c)]) (st' := [.inl z93]) rfl ?_
        refine h_zeq (off := 7) (t := 191) rfl rfl (by omega) (fun c95 => ?_) (fun c95 => ?_)
        · refine k_run 0 (pc' := 191) (l' := [(0, .inr (.inr 361)), (1, .inl a), (2, .inl b), (3, .inl c)]) (st' := []) rfl ?_
          refine k_run 1 (pc' := 192) (l' := [(0, .inr (.inr 361)), (1, .inl a), (2, .inl b), (3, .inl c)]) (st' := [.inl 0]) rfl ?_
          refine h_retz (x := 0) rfl rfl (by decide) ?_
          have g96 : -2147483648 ≤ (H90.1 361 4) ∧ (H90.1 361 4) ≤ 2147483647 := kn (x := kx_361) hI91 rfl 4
          exact ⟨_, rfl, (by omega), hI91, hf94⟩
        · refine k_run 0 (pc' := 187) (l' := [(0, .inr (.inr 361)), (1, .inl a), (2, .inl b), (3, .inl c)]) (st' := []) rfl ?_
          refine k_run 2 (pc' := 192) (l' := [(0, .inr (.inr 361)), (1, .inl a), (2, .inl b), (3, .inl c)]) (st' := [.inl 1]) rfl ?_
          refine h_retz (x := 1) rfl rfl (by decide) ?_
          have g97 : -2147483648 ≤ (H90.1 361 4) ∧ (H90.1 361 4) ≤ 2147483647 := kn (x := kx_361) hI91 rfl 4
          exact ⟨_, rfl, (by omega), hI91, hf94⟩
    · refine k_run 0 (pc' := 150) (l' := [(0, .inr (.inr 361)), (1, .inl a), (2, .inl b), (3, .inl c)]) (st' := []) rfl ?_
      refine k_run 2 (pc' := 152) (l' := [(0, .inr (.inr 361)), (1, .inl a), (2, .inl b), (3, .inl c)]) (st' := [.inl 5, .inr (.inr 361)]) rfl ?_
      have g98 : -2147483648 ≤ (H.1 361 4) ∧ (H.1 361 4) ≤ 2147483647 := kn (x := kx_361) hI rfl 4
      refine h_cv (i := 128) (j := 86) (b := 361) (M' := mt_86) (xs := [.inl 5]) (rest := []) rfl rfl rfl rfl (zs_K (x := kx_361) rfl (by decide)) rfl (Nat.le_of_ble_eq_true rfl) (Nat.le_of_ble_eq_true rfl) (by omega) (f_Reader_fails (by omega) hI (by decide)) ?_
      rintro _ H100 ⟨z103, rfl, g99, hI101, hq102⟩
      have hf104 : fq [(361, 3), (361, 4), (361, 5), (361, 9)] [362] true H H100 := fq_t (fq_rf _ _ _ _) hq102 rfl rfl rfl
      refine k_run 0 (pc' := 155) (l' := [(0, .inr (.inr 361)), (1, .inl a), (2, .inl b), (3, .inl c)]) (st' := [.inl z103]) rfl ?_
      refine h_retz (x := z103) rfl rfl (by omega) ?_
      have g105 : -2147483648 ≤ (H100.1 361 4) ∧ (H100.1 361 4) ≤ 2147483647 := kn (x := kx_361) hI101 rfl 4
      exact ⟨_, rfl, (by omega), hI101, hf104⟩
  · refine k_lsw (t := 124) rfl (by omega) (by decide) (by rw [c6]) rfl ?_
    refine k_run 2 (pc' := 127) (l' := [(0, .inr (.inr 361)), (1, .inl a), (2, .inl b), (3, .inl c)]) (st' := [.inl (-2), .inl a]) rfl ?_
    refine h_ine (off := 11) (t := 138) rfl rfl (by omega) (by decide) (fun c106 => ?_) (fun c106 => ?_)
    · refine k_run 0 (pc' := 138) (l' := [(0, .inr (.inr 361)), (1, .inl a), (2, .inl b), (3, .inl c)]) (st' := []) rfl ?_
      refine k_run 2 (pc' := 140) (l' := [(0, .inr (.inr 361)), (1, .inl a), (2, .inl b), (3, .inl c)]) (st' := [.inl 0, .inr (.inr 361)]) rfl ?_
      have g107 : -2147483648 ≤ (H.1 361 4) ∧ (H.1 361 4) ≤ 2147483647 := kn (x := kx_361) hI rfl 4
      refine h_cv (i := 157) (j := 77) (b := 361) (M' := mt_77) (xs := [.inl 0]) (rest := []) rfl rfl rfl rfl (zs_K (x := kx_361) rfl (by decide)) rfl (Nat.le_of_ble_eq_true rfl) (Nat.le_of_ble_eq_true rfl) (by omega) (f_Reader_addName (by omega) hI (by decide)) ?_
      rintro _ H109 ⟨z112, rfl, g108, hI110, hq111⟩
      have hf113 : fq [(361, 3), (361, 4), (361, 5), (361, 9)] [362] true H H109 := fq_t (fq_rf _ _ _ _) hq111 rfl rfl rfl
      refine k_run 0 (pc' := 143) (l' := [(0, .inr (.inr 361)), (1, .inl a), (2, .inl b), (3, .inl c)]) (st' := [.inl z112]) rfl ?_
      refine h_retz (x := z112) rfl rfl (by omega) ?_
      have g114 : -2147483648 ≤ (H109.1 361 4) ∧ (H109.1 361 4) ≤ 2147483647 := kn (x := kx_361) hI110 rfl 4
      exact ⟨_, rfl, (by omega), hI110, hf113⟩
    · refine k_run 0 (pc' := 130) (l' := [(0, .inr (.inr 361)), (1, .inl a), (2, .inl b), (3, .inl c)]) (st' := []) rfl ?_
      refine k_run 2 (pc' := 132) (l' := [(0, .inr (.inr 361)), (1, .inl a), (2, .inl b), (3, .inl c)]) (st' := [.inl 2, .inr (.inr 361)]) rfl ?_
      have g115 : -2147483648 ≤ (H.1 361 4) ∧ (H.1 361 4) ≤ 2147483647 := kn (x := kx_361) hI rfl 4
      refine h_cv (i := 128) (j := 86) (b := 361) (M' := mt_86) (xs := [.inl 2]) (rest := []) rfl rfl rfl rfl (zs_K (x := kx_361) rfl (by decide)) rfl (Nat.le_of_ble_eq_true rfl) (Nat.le_of_ble_eq_true rfl) (by omega) (f_Reader_fails (by omega) hI (by decide)) ?_
      rintro _ H117 ⟨z120, rfl, g116, hI118, hq119⟩
      have hf121 : fq [(361, 3), (361, 4), (361, 5), (361, 9)] [362] true H H117 := fq_t (fq_rf _ _ _ _) hq119 rfl rfl rfl
      refine k_run 0 (pc' := 135) (l' := [(0, .inr (.inr 361)), (1, .inl a), (2, .inl b), (3, .inl c)]) (st' := [.inl z120]) rfl ?_
      refine k_run 1 (pc' := 143) (l' := [(0, .inr (.inr 361)), (1, .inl a), (2, .inl b), (3, .inl c)]) (st' := [.inl z120]) rfl ?_
      refine h_retz (x := z120) rfl rfl (by omega) ?_
      have g122 : -2147483648 ≤ (H117.1 361 4) ∧ (H117.1 361 4) ≤ 2147483647 := kn (x := kx_361) hI118 rfl 4
      exact ⟨_, rfl, (by omega), hI118, hf121⟩

theorem f_RT : ∀ m, RTc9 m := by
  intro m
  induction m using Nat.strongRecOn with
  | ind m hR =>
    have h1 : RT1c9 m := fun hd _ hI _ _ ha hb hp => f_readTerm_1 hd hI ha hb hp hR
    have h2 : RA1c9 m := fun hd _ hI _ _ _ _ hx ha hb hc hp hq => f_readApplied_1 hd hI hx ha hb hc hp hq h1
    have h3 : RA2c9 m := fun hd _ hI _ _ _ _ hx ha hb hc hp hq => f_readApplied_2 hd hI hx ha hb hc hp hq h1
    have h4 : RTc9 m := fun hd _ hI _ _ _ ha hb hc hp => f_readTerm_0 hd hI ha hb hc hp hR h2 h3
    exact @h4
theorem f_Reader_readTerm {d : Nat} (hd : 40 ≤ d) {H : hp} (hI : Inv H) {a b c : Int} (ha : -2147483648 ≤ a ∧ a ≤ 2147483647) (hb : -2147483648 ≤ b ∧ b ≤ 2147483647) (hc : 0 ≤ c ∧ c ≤ 1) (hp0 : -2 ≤ a ∧ a ≤ 100 ∧ 0 ≤ b ∧ b ≤ 10) : hG (zs zK) d mt_73 0 (zargs 0 [.inr (.inr 361), .inl a, .inl b, .inl c]) [] H (fun r9 H9 => ∃ z : Int, r9 = some (.inl z) ∧ ((0 ≤ z ∧ z ≤ 1) ∧ (z = 0 ∨ H9.1 361 4 = H.1 361 4)) ∧ Inv H9 ∧ fq [(361, 3), (361, 4), (361, 5), (361, 9)] [362] true H H9) := f_RT 10 (by omega) hI ha hb hc (by omega)

def RPc9 (m : Nat) : Prop := ∀ {d : Nat} (_ : 2 * m + 10 ≤ d) {H : hp} (_ : Inv H) {a b : Int} (_ : -2147483648 ≤ a ∧ a ≤ 2147483647) (_ : -2147483648 ≤ b ∧ b ≤ 2147483647) (_ : -2 ≤ a ∧ a ≤ 100 ∧ 0 ≤ b ∧ b ≤ 10 ∧ 10 ≤ b + (m : Int)), hG (zs zK) d mt_70 0 (zargs 0 [.inr (.inr 361), .inl a, .inl b]) [] H (fun r9 H9 => ∃ z : Int, r9 = some (.inl z) ∧ ((0 ≤ z ∧ z ≤ 1) ∧ (z = 0 ∨ H9.1 361 4 = H.1 361 4)) ∧ Inv H9 ∧ fq [(361, 3), (361, 4), (361, 5), (361, 9)] [362] true H H9)

/-! Reader.readPatternConstructor -/
set_option maxRecDepth 100000 in
theorem f_readPC_0_cut {d : Nat} (hd : 3 ≤ d) {H : hp} (hI : Inv H) {a : Int} {b : Int} (ha : -2147483648 ≤ a ∧ a ≤ 2147483647) (hb : -2147483648 ≤ b ∧ b ≤ 2147483647) (hp0 : -2 ≤ a ∧ a ≤ 100 ∧ 0 ≤ b ∧ b ≤ 10) : ∀ w : Nat, (∀ (H1 : hp), Inv H1 → fq [(361, 3), (361, 4), (361, 5), (361, 9)] [362] true H H1 → ∀ (x4 : Int) (x5 : Int) (x6 : Int) (x7 : Int) , (-2147483648 ≤ x4 ∧ x4 ≤ 2147483647) → (-2147483648 ≤ x5 ∧ x5 ≤ 2147483647) → (-2147483648 ≤ x6 ∧ x6 ≤ 2147483647) → (-2147483648 ≤ x7 ∧ x7 ≤ 2147483647) → (0 ≤ x7) → (x5 ≤ 0) → (0 ≤ x6 ∧ x6 ≤ 1) → ((x6 = 0 ∨ H1.1 361 4 = H.1 361 4)) → (((100 - x7).toNat) < w) → hG (zs zK) d mt_72 98 [(0, .inr (.inr 361)), (1, .inl a), (2, .inl b), (3, .inl 0), (4, .inl x4), (5, .inl x5), (6, .inl x6), (7, .inl x7)] [] H1 (fun r9 H9 => ∃ z : Int, r9 = some (.inl z) ∧ ((0 ≤ z ∧ z ≤ 1) ∧ ((z = 0 ∨ H9.1 361 4 = H.1 361 4))) ∧ Inv H9 ∧ fq [(361, 3), (361, 4), (361, 5), (361, 9)] [362] true H H9)) := by
  intro w
  induction w with
  | zero => exact fun _ _ _ _ _ _ _ _ _ _ _ _ _ _ _ h => absurd h (Nat.not_lt_zero _)
  | succ w ih =>
    intro H1 hI1 hf1 x4 x5 x6 x7 hx4 hx5 hx6 hx7 hi0 hi1 hi2 hi3 hw
    have g54 : -2147483648 ≤ (H1.1 361 4) ∧ (H1.1 361 4) ≤ 2147483647 := kn (x := kx_361) hI1 rfl 4
    refine k_run 1 (pc' := 100) (l' := [(0, .inr (.inr 361)), (1, .inl a), (2, .inl b), (3, .inl 0), (4, .inl x4), (5, .inl x5), (6, .inl x6), (7, .inl x7)]) (st' := [.inl x6]) rfl ?_
    refine h_zeq (off := 37) (t := 137) rfl rfl (by omega) (fun c55 => ?_) (fun c55 => ?_)
    · refine k_run 0 (pc' := 137) (l' := [(0, .inr (.inr 361)), (1, .inl a), (2, .inl b), (3, .inl 0), (4, .inl x4), (5, .inl x5), (6, .inl x6), (7, .inl x7)]) (st' := []) rfl ?_
      refine k_run 1 (pc' := 139) (l' := [(0, .inr (.inr 361)), (1, .inl a), (2, .inl b), (3, .inl 0), (4, .inl x4), (5, .inl x5), (6, .inl x6), (7, .inl x7)]) (st' := [.inl x6]) rfl ?_
      refine h_retz (x := x6) rfl rfl (by omega) ?_
      exact ⟨_, rfl, (by omega), hI1, hf1⟩
    · refine k_run 0 (pc' := 103) (l' := [(0, .inr (.inr 361)), (1, .inl a), (2, .inl b), (3, .inl 0), (4, .inl x4), (5, .inl x5), (6, .inl x6), (7, .inl x7)]) (st' := []) rfl ?_
      refine k_run 2 (pc' := 107) (l' := [(0, .inr (.inr 361)), (1, .inl a), (2, .inl b), (3, .inl 0), (4, .inl x4), (5, .inl x5), (6, .inl x6), (7, .inl x7)]) (st' := [.inl x5, .inl x7]) rfl ?_
      refine h_ige (off := 30) (t := 137) rfl rfl (by omega) (by omega) (fun c56 => ?_) (fun c56 => ?_)
      · refine k_run 0 (pc' := 137) (l' := [(0, .inr (.inr 361)), (1, .inl a), (2, .inl b), (3, .inl 0), (4, .inl x4), (5, .inl x5), (6, .inl x6), (7, .inl x7)]) (st' := []) rfl ?_
        refine k_run 1 (pc' := 139) (l' := [(0, .inr (.inr 361)), (1, .inl a), (2, .inl b), (3, .inl 0), (4, .inl x4), (5, .inl x5), (6, .inl x6), (7, .inl x7)]) (st' := [.inl x6]) rfl ?_
        refine h_retz (x := x6) rfl rfl (by omega) ?_
        exact ⟨_, rfl, (by omega), hI1, hf1⟩
      · refine k_run 0 (pc' := 110) (l' := [(0, .inr (.inr 361)), (1, .inl a), (2, .inl b), (3, .inl 0), (4, .inl x4), (5, .inl x5), (6, .inl x6), (7, .inl x7)]) (st' := []) rfl ?_
        exfalso
        omega
set_option maxRecDepth 100000 in
theorem f_readPC_0 {d : Nat} (hd : 3 ≤ d) {H : hp} (hI : Inv H) {a : Int} {b : Int} (ha : -2147483648 ≤ a ∧ a ≤ 2147483647) (hb : -2147483648 ≤ b ∧ b ≤ 2147483647) (hp0 : -2 ≤ a ∧ a ≤ 100 ∧ 0 ≤ b ∧ b ≤ 10) : hG (zs zK) d mt_72 0 (zargs 0 [.inr (.inr 361), .inl a, .inl b, .inl 0]) [] H (fun r9 H9 => ∃ z : Int, r9 = some (.inl z) ∧ ((0 ≤ z ∧ z ≤ 1) ∧ ((z = 0 ∨ H9.1 361 4 = H.1 361 4))) ∧ Inv H9 ∧ fq [(361, 3), (361, 4), (361, 5), (361, 9)] [362] true H H9) := by
  refine k_run 0 (pc' := 0) (l' := [(0, .inr (.inr 361)), (1, .inl a), (2, .inl b), (3, .inl 0)]) (st' := []) rfl ?_
  refine k_run 4 (pc' := 8) (l' := [(0, .inr (.inr 361)), (1, .inl a), (2, .inl b), (3, .inl 0)]) (st' := [.inr (.inr 361), .inr (.inr 13)]) rfl ?_
  refine h_cv (i := 120) (j := 84) (b := 361) (M' := mt_84) (xs := []) (rest := [.inr (.inr 13)]) rfl rfl rfl rfl (zs_K (x := kx_361) rfl (by decide)) rfl (Nat.le_of_ble_eq_true rfl) (Nat.le_of_ble_eq_true rfl) (by omega) (f_Reader_name (by omega) hI ) ?_
  rintro _ _ ⟨z5, rfl, g1, rfl⟩
  refine k_run 0 (pc' := 11) (l' := [(0, .inr (.inr 361)), (1, .inl a), (2, .inl b), (3, .inl 0)]) (st' := [.inr (.inl z5), .inr (.inr 13)]) rfl ?_
  have g6 : 0 ≤ (H.1 13 4) ∧ (H.1 13 4) ≤ 16 := kn (x := kx_13) hI rfl 4
  refine h_cv (i := 124) (j := 41) (b := 13) (M' := mt_41) (xs := [.inr (.inl z5)]) (rest := []) rfl rfl rfl rfl (zs_K (x := kx_13) rfl (by decide)) rfl (Nat.le_of_ble_eq_true rfl) (Nat.le_of_ble_eq_true rfl) (by omega) (k_Symbols_find_13 (by omega) hI ) ?_
  rintro _ _ ⟨z11, rfl, g7, rfl⟩
  refine k_run 0 (pc' := 14) (l' := [(0, .inr (.inr 361)), (1, .inl a), (2, .inl b), (3, .inl 0)]) (st' := [.inl z11]) rfl ?_
  refine k_run 2 (pc' := 18) (l' := [(0, .inr (.inr 361)), (1, .inl a), (2, .inl b), (3, .inl 0), (4, .inl z11)]) (st' := [.inl z11]) rfl ?_
  refine h_zge (off := 9) (t := 27) rfl rfl (by omega) (fun c12 => ?_) (fun c12 => ?_)
  · refine k_run 0 (pc' := 27) (l' := [(0, .inr (.inr 361)), (1, .inl a), (2, .inl b), (3, .inl 0), (4, .inl z11)]) (st' := []) rfl ?_
    refine k_run 5 (pc' := 39) (l' := [(0, .inr (.inr 361)), (1, .inl a), (2, .inl b), (3, .inl 0), (4, .inl z11)]) (st' := [.inl z11, .inr (.inr 16)]) rfl ?_
    refine k_ild (c := 16) (j := (z11).toNat) (i := z11) (x := kx_16) rfl rfl (by decide) rfl (by decide) (by omega) (by omega) ?_
    have g13 : 0 ≤ (H.1 16 (z11).toNat) ∧ (H.1 16 (z11).toNat) ≤ 4 := kn (x := kx_16) hI rfl (z11).toNat
    refine k_run 0 (pc' := 40) (l' := [(0, .inr (.inr 361)), (1, .inl a), (2, .inl b), (3, .inl 0), (4, .inl z11)]) (st' := [.inl (H.1 16 (z11).toNat)]) rfl ?_
    refine k_run 2 (pc' := 44) (l' := [(0, .inr (.inr 361)), (1, .inl a), (2, .inl b), (3, .inl 0), (4, .inl z11), (5, .inl (H.1 16 (z11).toNat))]) (st' := [.inl (H.1 16 (z11).toNat)]) rfl ?_
    refine h_zle (off := 13) (t := 57) rfl rfl (by omega) (fun c14 => ?_) (fun c14 => ?_)
    · refine k_run 0 (pc' := 57) (l' := [(0, .inr (.inr 361)), (1, .inl a), (2, .inl b), (3, .inl 0), (4, .inl z11), (5, .inl (H.1 16 (z11).toNat))]) (st' := []) rfl ?_
      refine k_run 5 (pc' := 69) (l' := [(0, .inr (.inr 361)), (1, .inl a), (2, .inl b), (3, .inl 0), (4, .inl z11), (5, .inl (H.1 16 (z11).toNat))]) (st' := [.inl z11, .inr (.inr 15)]) rfl ?_
      refine k_ild (c := 15) (j := (z11).toNat) (i := z11) (x := kx_15) rfl rfl (by decide) rfl (by decide) (by omega) (by omega) ?_
      have g15 : -2 ≤ (H.1 15 (z11).toNat) ∧ (H.1 15 (z11).toNat) ≤ 100 := kn (x := kx_15) hI rfl (z11).toNat
      refine k_run 0 (pc' := 70) (l' := [(0, .inr (.inr 361)), (1, .inl a), (2, .inl b), (3, .inl 0), (4, .inl z11), (5, .inl (H.1 16 (z11).toNat))]) (st' := [.inl (H.1 15 (z11).toNat)]) rfl ?_
      refine k_run 1 (pc' := 71) (l' := [(0, .inr (.inr 361)), (1, .inl a), (2, .inl b), (3, .inl 0), (4, .inl z11), (5, .inl (H.1 16 (z11).toNat))]) (st' := [.inl a, .inl (H.1 15 (z11).toNat)]) rfl ?_
      refine h_ieq (off := 9) (t := 80) rfl rfl (by omega) (by omega) (fun c16 => ?_) (fun c16 => ?_)
      · refine k_run 0 (pc' := 80) (l' := [(0, .inr (.inr 361)), (1, .inl a), (2, .inl b), (3, .inl 0), (4, .inl z11), (5, .inl (H.1 16 (z11).toNat))]) (st' := []) rfl ?_
        refine k_run 4 (pc' := 87) (l' := [(0, .inr (.inr 361)), (1, .inl a), (2, .inl b), (3, .inl 0), (4, .inl z11), (5, .inl (H.1 16 (z11).toNat))]) (st' := [.inl z11, .inr (.inr 7), .inr (.inr 361)]) rfl ?_
        refine h_cv (i := 209) (j := 38) (b := 7) (M' := mt_38) (xs := [.inl z11]) (rest := [.inr (.inr 361)]) rfl rfl rfl rfl (zs_K (x := kx_7) rfl (by decide)) rfl (Nat.le_of_ble_eq_true rfl) (Nat.le_of_ble_eq_true rfl) (by omega) (k_Program_codeOfConstructor (by omega) hI (by omega)) ?_
        rintro _ _ ⟨z21, rfl, g17, rfl⟩
        refine k_run 0 (pc' := 90) (l' := [(0, .inr (.inr 361)), (1, .inl a), (2, .inl b), (3, .inl 0), (4, .inl z11), (5, .inl (H.1 16 (z11).toNat))]) (st' := [.inl z21, .inr (.inr 361)]) rfl ?_
        have g22 : -2147483648 ≤ (H.1 361 4) ∧ (H.1 361 4) ≤ 2147483647 := kn (x := kx_361) hI rfl 4
        refine h_cv (i := 157) (j := 77) (b := 361) (M' := mt_77) (xs := [.inl z21]) (rest := []) rfl rfl rfl rfl (zs_K (x := kx_361) rfl (by decide)) rfl (Nat.le_of_ble_eq_true rfl) (Nat.le_of_ble_eq_true rfl) (by omega) (f_Reader_addName (by omega) hI (by omega)) ?_
        rintro _ H24 ⟨z27, rfl, g23, hI25, hq26⟩
        have hf28 : fq [(361, 3), (361, 4), (361, 5), (361, 9)] [362] true H H24 := fq_t (fq_rf _ _ _ _) hq26 rfl rfl rfl
        refine k_run 0 (pc' := 93) (l' := [(0, .inr (.inr 361)), (1, .inl a), (2, .inl b), (3, .inl 0), (4, .inl z11), (5, .inl (H.1 16 (z11).toNat))]) (st' := [.inl z27]) rfl ?_
        refine k_run 3 (pc' := 98) (l' := [(0, .inr (.inr 361)), (1, .inl a), (2, .inl b), (3, .inl 0), (4, .inl z11), (5, .inl (H.1 16 (z11).toNat)), (6, .inl z27), (7, .inl 0)]) (st' := []) rfl ?_
        have g29 : -2147483648 ≤ (H24.1 361 4) ∧ (H24.1 361 4) ≤ 2147483647 := kn (x := kx_361) hI25 rfl 4
        exact (f_readPC_0_cut hd hI ha hb hp0 _) H24 hI25 hf28 z11 (H.1 16 (z11).toNat) z27 (0 : Int) (by omega) (by omega) (by omega) (by decide) (by omega) (by omega) (by omega) (by omega) (Nat.lt_succ_self _)
      · refine k_run 0 (pc' := 74) (l' := [(0, .inr (.inr 361)), (1, .inl a), (2, .inl b), (3, .inl 0), (4, .inl z11), (5, .inl (H.1 16 (z11).toNat))]) (st' := []) rfl ?_
        refine k_run 2 (pc' := 76) (l' := [(0, .inr (.inr 361)), (1, .inl a), (2, .inl b), (3, .inl 0), (4, .inl z11), (5, .inl (H.1 16 (z11).toNat))]) (st' := [.inl 4, .inr (.inr 361)]) rfl ?_
        have g30 : -2147483648 ≤ (H.1 361 4) ∧ (H.1 361 4) ≤ 2147483647 := kn (x := kx_361) hI rfl 4
        refine h_cv (i := 128) (j := 86) (b := 361) (M' := mt_86) (xs := [.inl 4]) (rest := []) rfl rfl rfl rfl (zs_K (x := kx_361) rfl (by decide)) rfl (Nat.le_of_ble_eq_true rfl) (Nat.le_of_ble_eq_true rfl) (by omega) (f_Reader_fails (by omega) hI (by decide)) ?_
        rintro _ H32 ⟨z35, rfl, g31, hI33, hq34⟩
        have hf36 : fq [(361, 3), (361, 4), (361, 5), (361, 9)] [362] true H H32 := fq_t (fq_rf _ _ _ _) hq34 rfl rfl rfl
        refine k_run 0 (pc' := 79) (l' := [(0, .inr (.inr 361)), (1, .inl a), (2, .inl b), (3, .inl 0), (4, .inl z11), (5, .inl (H.1 16 (z11).toNat))]) (st' := [.inl z35]) rfl ?_
        refine h_retz (x := z35) rfl rfl (by omega) ?_
        have g37 : -2147483648 ≤ (H32.1 361 4) ∧ (H32.1 361 4) ≤ 2147483647 := kn (x := kx_361) hI33 rfl 4
        exact ⟨_, rfl, (by omega), hI33, hf36⟩
    · refine k_run 0 (pc' := 47) (l' := [(0, .inr (.inr 361)), (1, .inl a), (2, .inl b), (3, .inl 0), (4, .inl z11), (5, .inl (H.1 16 (z11).toNat))]) (st' := []) rfl ?_
      refine k_run 1 (pc' := 48) (l' := [(0, .inr (.inr 361)), (1, .inl a), (2, .inl b), (3, .inl 0), (4, .inl z11), (5, .inl (H.1 16 (z11).toNat))]) (st' := [.inl 0]) rfl ?_
      refine h_zne (off := 9) (t := 57) rfl rfl (by decide) (fun c => absurd c (by decide)) (fun _ => ?_)
      refine k_run 0 (pc' := 51) (l' := [(0, .inr (.inr 361)), (1, .inl a), (2, .inl b), (3, .inl 0), (4, .inl z11), (5, .inl (H.1 16 (z11).toNat))]) (st' := []) rfl ?_
      refine k_run 2 (pc' := 53) (l' := [(0, .inr (.inr 361)), (1, .inl a), (2, .inl b), (3, .inl 0), (4, .inl z11), (5, .inl (H.1 16 (z11).toNat))]) (st' := [.inl 2, .inr (.inr 361)]) rfl ?_
      have g38 : -2147483648 ≤ (H.1 361 4) ∧ (H.1 361 4) ≤ 2147483647 := kn (x := kx_361) hI rfl 4
      refine h_cv (i := 128) (j := 86) (b := 361) (M' := mt_86) (xs := [.inl 2]) (rest := []) rfl rfl rfl rfl (zs_K (x := kx_361) rfl (by decide)) rfl (Nat.le_of_ble_eq_true rfl) (Nat.le_of_ble_eq_true rfl) (by omega) (f_Reader_fails (by omega) hI (by decide)) ?_
      rintro _ H40 ⟨z43, rfl, g39, hI41, hq42⟩
      have hf44 : fq [(361, 3), (361, 4), (361, 5), (361, 9)] [362] true H H40 := fq_t (fq_rf _ _ _ _) hq42 rfl rfl rfl
      refine k_run 0 (pc' := 56) (l' := [(0, .inr (.inr 361)), (1, .inl a), (2, .inl b), (3, .inl 0), (4, .inl z11), (5, .inl (H.1 16 (z11).toNat))]) (st' := [.inl z43]) rfl ?_
      refine h_retz (x := z43) rfl rfl (by omega) ?_
      have g45 : -2147483648 ≤ (H40.1 361 4) ∧ (H40.1 361 4) ≤ 2147483647 := kn (x := kx_361) hI41 rfl 4
      exact ⟨_, rfl, (by omega), hI41, hf44⟩
  · refine k_run 0 (pc' := 21) (l' := [(0, .inr (.inr 361)), (1, .inl a), (2, .inl b), (3, .inl 0), (4, .inl z11)]) (st' := []) rfl ?_
    refine k_run 2 (pc' := 23) (l' := [(0, .inr (.inr 361)), (1, .inl a), (2, .inl b), (3, .inl 0), (4, .inl z11)]) (st' := [.inl 3, .inr (.inr 361)]) rfl ?_
    have g46 : -2147483648 ≤ (H.1 361 4) ∧ (H.1 361 4) ≤ 2147483647 := kn (x := kx_361) hI rfl 4
    refine h_cv (i := 128) (j := 86) (b := 361) (M' := mt_86) (xs := [.inl 3]) (rest := []) rfl rfl rfl rfl (zs_K (x := kx_361) rfl (by decide)) rfl (Nat.le_of_ble_eq_true rfl) (Nat.le_of_ble_eq_true rfl) (by omega) (f_Reader_fails (by omega) hI (by decide)) ?_
    rintro _ H48 ⟨z51, rfl, g47, hI49, hq50⟩
    have hf52 : fq [(361, 3), (361, 4), (361, 5), (361, 9)] [362] true H H48 := fq_t (fq_rf _ _ _ _) hq50 rfl rfl rfl
    refine k_run 0 (pc' := 26) (l' := [(0, .inr (.inr 361)), (1, .inl a), (2, .inl b), (3, .inl 0), (4, .inl z11)]) (st' := [.inl z51]) rfl ?_
    refine h_retz (x := z51) rfl rfl (by omega) ?_
    have g53 : -2147483648 ≤ (H48.1 361 4) ∧ (H48.1 361 4) ≤ 2147483647 := kn (x := kx_361) hI49 rfl 4
    exact ⟨_, rfl, (by omega), hI49, hf52⟩

/-! Reader.readPatternConstructor -/
set_option maxRecDepth 100000 in
theorem f_readPC_1_cut {m : Nat} {d : Nat} (hd : 2 * m + 11 ≤ d) {H : hp} (hI : Inv H) {a : Int} {b : Int} (ha : -2147483648 ≤ a ∧ a ≤ 2147483647) (hb : -2147483648 ≤ b ∧ b ≤ 2147483647) (hp0 : -2 ≤ a ∧ a ≤ 100 ∧ 0 ≤ b ∧ b ≤ 10 ∧ 10 ≤ b + (m : Int)) (hR : ∀ m1, m1 ≤ m → RPc9 m1) : ∀ w : Nat, (∀ (H1 : hp), Inv H1 → fq [(361, 3), (361, 4), (361, 5), (361, 9)] [362] true H H1 → ∀ (x4 : Int) (x5 : Int) (x6 : Int) (x7 : Int) , (-2147483648 ≤ x4 ∧ x4 ≤ 2147483647) → (-2147483648 ≤ x5 ∧ x5 ≤ 2147483647) → (-2147483648 ≤ x6 ∧ x6 ≤ 2147483647) → (-2147483648 ≤ x7 ∧ x7 ≤ 2147483647) → (0 ≤ x7) → (x5 ≤ 4) → (0 ≤ x4 ∧ x4 < 16) → (0 ≤ x6 ∧ x6 ≤ 1) → ((x6 = 0 ∨ H1.1 361 4 = H.1 361 4)) → (((100 - x7).toNat) < w) → hG (zs zK) d mt_72 98 [(0, .inr (.inr 361)), (1, .inl a), (2, .inl b), (3, .inl 1), (4, .inl x4), (5, .inl x5), (6, .inl x6), (7, .inl x7)] [] H1 (fun r9 H9 => ∃ z : Int, r9 = some (.inl z) ∧ ((0 ≤ z ∧ z ≤ 1) ∧ ((z = 0 ∨ H9.1 361 4 = H.1 361 4))) ∧ Inv H9 ∧ fq [(361, 3), (361, 4), (361, 5), (361, 9)] [362] true H H9)) := by
  intro w
  induction w with
  | zero => exact fun _ _ _ _ _ _ _ _ _ _ _ _ _ _ _ _ h => absurd h (Nat.not_lt_zero _)
  | succ w ih =>
    intro H1 hI1 hf1 x4 x5 x6 x7 hx4 hx5 hx6 hx7 hi0 hi1 hi2 hi3 hi4 hw
    have g69 : -2147483648 ≤ (H1.1 361 4) ∧ (H1.1 361 4) ≤ 2147483647 := kn (x := kx_361) hI1 rfl 4
    refine k_run 1 (pc' := 100) (l' := [(0, .inr (.inr 361)), (1, .inl a), (2, .inl b), (3, .inl 1), (4, .inl x4), (5, .inl x5), (6, .inl x6), (7, .inl x7)]) (st' := [.inl x6]) rfl ?_
    refine h_zeq (off := 37) (t := 137) rfl rfl (by omega) (fun c70 => ?_) (fun c70 => ?_)
    · refine k_run 0 (pc' := 137) (l' := [(0, .inr (.inr 361)), (1, .inl a), (2, .inl b), (3, .inl 1), (4, .inl x4), (5, .inl x5), (6, .inl x6), (7, .inl x7)]) (st' := []) rfl ?_
      refine k_run 1 (pc' := 139) (l' := [(0, .inr (.inr 361)), (1, .inl a), (2, .inl b), (3, .inl 1), (4, .inl x4), (5, .inl x5), (6, .inl x6), (7, .inl x7)]) (st' := [.inl x6]) rfl ?_
      refine h_retz (x := x6) rfl rfl (by omega) ?_
      exact ⟨_, rfl, (by omega), hI1, hf1⟩
    · refine k_run 0 (pc' := 103) (l' := [(0, .inr (.inr 361)), (1, .inl a), (2, .inl b), (3, .inl 1), (4, .inl x4), (5, .inl x5), (6, .inl x6), (7, .inl x7)]) (st' := []) rfl ?_
      refine k_run 2 (pc' := 107) (l' := [(0, .inr (.inr 361)), (1, .inl a), (2, .inl b), (3, .inl 1), (4, .inl x4), (5, .inl x5), (6, .inl x6), (7, .inl x7)]) (st' := [.inl x5, .inl x7]) rfl ?_
      refine h_ige (off := 30) (t := 137) rfl rfl (by omega) (by omega) (fun c71 => ?_) (fun c71 => ?_)
      · refine k_run 0 (pc' := 137) (l' := [(0, .inr (.inr 361)), (1, .inl a), (2, .inl b), (3, .inl 1), (4, .inl x4), (5, .inl x5), (6, .inl x6), (7, .inl x7)]) (st' := []) rfl ?_
        refine k_run 1 (pc' := 139) (l' := [(0, .inr (.inr 361)), (1, .inl a), (2, .inl b), (3, .inl 1), (4, .inl x4), (5, .inl x5), (6, .inl x6), (7, .inl x7)]) (st' := [.inl x6]) rfl ?_
        refine h_retz (x := x6) rfl rfl (by omega) ?_
        exact ⟨_, rfl, (by omega), hI1, hf1⟩
      · refine k_run 0 (pc' := 110) (l' := [(0, .inr (.inr 361)), (1, .inl a), (2, .inl b), (3, .inl 1), (4, .inl x4), (5, .inl x5), (6, .inl x6), (7, .inl x7)]) (st' := []) rfl ?_
        refine k_run 6 (pc' := 122) (l' := [(0, .inr (.inr 361)), (1, .inl a), (2, .inl b), (3, .inl 1), (4, .inl x4), (5, .inl x5), (6, .inl x6), (7, .inl x7)]) (st' := [.inl x7, .inl x4, .inr (.inr 13), .inr (.inr 361)]) rfl ?_
        refine h_cv (i := 160) (j := 45) (b := 13) (M' := mt_45) (xs := [.inl x7, .inl x4]) (rest := [.inr (.inr 361)]) rfl rfl rfl rfl (zs_K (x := kx_13) rfl (by decide)) rfl (Nat.le_of_ble_eq_true rfl) (Nat.le_of_ble_eq_true rfl) (by omega) (k_Symbols_argument_13 (by omega) hI1 (by omega) (by omega) (by omega)) ?_
        rintro _ _ ⟨z76, rfl, g72, rfl⟩
        refine k_run 0 (pc' := 125) (l' := [(0, .inr (.inr 361)), (1, .inl a), (2, .inl b), (3, .inl 1), (4, .inl x4), (5, .inl x5), (6, .inl x6), (7, .inl x7)]) (st' := [.inl z76, .inr (.inr 361)]) rfl ?_
        refine k_run 1 (pc' := 126) (l' := [(0, .inr (.inr 361)), (1, .inl a), (2, .inl b), (3, .inl 1), (4, .inl x4), (5, .inl x5), (6, .inl x6), (7, .inl x7)]) (st' := [.inl b, .inl z76, .inr (.inr 361)]) rfl ?_
        refine h_cv (i := 164) (j := 70) (b := 361) (M' := mt_70) (xs := [.inl b, .inl z76]) (rest := []) rfl rfl rfl rfl (zs_K (x := kx_361) rfl (by decide)) rfl (Nat.le_of_ble_eq_true rfl) (Nat.le_of_ble_eq_true rfl) (by omega) (hR m (by omega) (by omega) hI1 (by omega) (by omega) (by omega)) ?_
        rintro _ H78 ⟨z81, rfl, g77, hI79, hq80⟩
        have hf82 : fq [(361, 3), (361, 4), (361, 5), (361, 9)] [362] true H H78 := fq_t hf1 hq80 rfl rfl rfl
        refine k_run 0 (pc' := 129) (l' := [(0, .inr (.inr 361)), (1, .inl a), (2, .inl b), (3, .inl 1), (4, .inl x4), (5, .inl x5), (6, .inl x6), (7, .inl x7)]) (st' := [.inl z81]) rfl ?_
        refine k_run 3 (pc' := 98) (l' := [(0, .inr (.inr 361)), (1, .inl a), (2, .inl b), (3, .inl 1), (4, .inl x4), (5, .inl x5), (6, .inl z81), (7, .inl (x7 + 1))]) (st' := []) rfl ?_
        have g83 : -2147483648 ≤ (H78.1 361 4) ∧ (H78.1 361 4) ≤ 2147483647 := kn (x := kx_361) hI79 rfl 4
        exact ih H78 hI79 hf82 x4 x5 z81 (x7 + 1) (by omega) (by omega) (by omega) (by omega) (by omega) (by omega) (by omega) (by omega) (by omega) (by omega)
set_option maxRecDepth 100000 in
theorem f_readPC_1 {m : Nat} {d : Nat} (hd : 2 * m + 11 ≤ d) {H : hp} (hI : Inv H) {a : Int} {b : Int} (ha : -2147483648 ≤ a ∧ a ≤ 2147483647) (hb : -2147483648 ≤ b ∧ b ≤ 2147483647) (hp0 : -2 ≤ a ∧ a ≤ 100 ∧ 0 ≤ b ∧ b ≤ 10 ∧ 10 ≤ b + (m : Int)) (hR : ∀ m1, m1 ≤ m → RPc9 m1) : hG (zs zK) d mt_72 0 (zargs 0 [.inr (.inr 361), .inl a, .inl b, .inl 1]) [] H (fun r9 H9 => ∃ z : Int, r9 = some (.inl z) ∧ ((0 ≤ z ∧ z ≤ 1) ∧ ((z = 0 ∨ H9.1 361 4 = H.1 361 4))) ∧ Inv H9 ∧ fq [(361, 3), (361, 4), (361, 5), (361, 9)] [362] true H H9) := by
  refine k_run 0 (pc' := 0) (l' := [(0, .inr (.inr 361)), (1, .inl a), (2, .inl b), (3, .inl 1)]) (st' := []) rfl ?_
  refine k_run 4 (pc' := 8) (l' := [(0, .inr (.inr 361)), (1, .inl a), (2, .inl b), (3, .inl 1)]) (st' := [.inr (.inr 361), .inr (.inr 13)]) rfl ?_
  refine h_cv (i := 120) (j := 84) (b := 361) (M' := mt_84) (xs := []) (rest := [.inr (.inr 13)]) rfl rfl rfl rfl (zs_K (x := kx_361) rfl (by decide)) rfl (Nat.le_of_ble_eq_true rfl) (Nat.le_of_ble_eq_true rfl) (by omega) (f_Reader_name (by omega) hI ) ?_
  rintro _ _ ⟨z5, rfl, g1, rfl⟩
  refine k_run 0 (pc' := 11) (l' := [(0, .inr (.inr 361)), (1, .inl a), (2, .inl b), (3, .inl 1)]) (st' := [.inr (.inl z5), .inr (.inr 13)]) rfl ?_
  have g6 : 0 ≤ (H.1 13 4) ∧ (H.1 13 4) ≤ 16 := kn (x := kx_13) hI rfl 4
  refine h_cv (i := 124) (j := 41) (b := 13) (M' := mt_41) (xs := [.inr (.inl z5)]) (rest := []) rfl rfl rfl rfl (zs_K (x := kx_13) rfl (by decide)) rfl (Nat.le_of_ble_eq_true rfl) (Nat.le_of_ble_eq_true rfl) (by omega) (k_Symbols_find_13 (by omega) hI ) ?_
  rintro _ _ ⟨z11, rfl, g7, rfl⟩
  refine k_run 0 (pc' := 14) (l' := [(0, .inr (.inr 361)), (1, .inl a), (2, .inl b), (3, .inl 1)]) (st' := [.inl z11]) rfl ?_
  refine k_run 2 (pc' := 18) (l' := [(0, .inr (.inr 361)), (1, .inl a), (2, .inl b), (3, .inl 1), (4, .inl z11)]) (st' := [.inl z11]) rfl ?_
  refine h_zge (off := 9) (t := 27) rfl rfl (by omega) (fun c12 => ?_) (fun c12 => ?_)
  · refine k_run 0 (pc' := 27) (l' := [(0, .inr (.inr 361)), (1, .inl a), (2, .inl b), (3, .inl 1), (4, .inl z11)]) (st' := []) rfl ?_
    refine k_run 5 (pc' := 39) (l' := [(0, .inr (.inr 361)), (1, .inl a), (2, .inl b), (3, .inl 1), (4, .inl z11)]) (st' := [.inl z11, .inr (.inr 16)]) rfl ?_
    refine k_ild (c := 16) (j := (z11).toNat) (i := z11) (x := kx_16) rfl rfl (by decide) rfl (by decide) (by omega) (by omega) ?_
    have g13 : 0 ≤ (H.1 16 (z11).toNat) ∧ (H.1 16 (z11).toNat) ≤ 4 := kn (x := kx_16) hI rfl (z11).toNat
    refine k_run 0 (pc' := 40) (l' := [(0, .inr (.inr 361)), (1, .inl a), (2, .inl b), (3, .inl 1), (4, .inl z11)]) (st' := [.inl (H.1 16 (z11).toNat)]) rfl ?_
    refine k_run 2 (pc' := 44) (l' := [(0, .inr (.inr 361)), (1, .inl a), (2, .inl b), (3, .inl 1), (4, .inl z11), (5, .inl (H.1 16 (z11).toNat))]) (st' := [.inl (H.1 16 (z11).toNat)]) rfl ?_
    refine h_zle (off := 13) (t := 57) rfl rfl (by omega) (fun c14 => ?_) (fun c14 => ?_)
    · refine k_run 0 (pc' := 57) (l' := [(0, .inr (.inr 361)), (1, .inl a), (2, .inl b), (3, .inl 1), (4, .inl z11), (5, .inl (H.1 16 (z11).toNat))]) (st' := []) rfl ?_
      refine k_run 5 (pc' := 69) (l' := [(0, .inr (.inr 361)), (1, .inl a), (2, .inl b), (3, .inl 1), (4, .inl z11), (5, .inl (H.1 16 (z11).toNat))]) (st' := [.inl z11, .inr (.inr 15)]) rfl ?_
      refine k_ild (c := 15) (j := (z11).toNat) (i := z11) (x := kx_15) rfl rfl (by decide) rfl (by decide) (by omega) (by omega) ?_
      have g15 : -2 ≤ (H.1 15 (z11).toNat) ∧ (H.1 15 (z11).toNat) ≤ 100 := kn (x := kx_15) hI rfl (z11).toNat
      refine k_run 0 (pc' := 70) (l' := [(0, .inr (.inr 361)), (1, .inl a), (2, .inl b), (3, .inl 1), (4, .inl z11), (5, .inl (H.1 16 (z11).toNat))]) (st' := [.inl (H.1 15 (z11).toNat)]) rfl ?_
      refine k_run 1 (pc' := 71) (l' := [(0, .inr (.inr 361)), (1, .inl a), (2, .inl b), (3, .inl 1), (4, .inl z11), (5, .inl (H.1 16 (z11).toNat))]) (st' := [.inl a, .inl (H.1 15 (z11).toNat)]) rfl ?_
      refine h_ieq (off := 9) (t := 80) rfl rfl (by omega) (by omega) (fun c16 => ?_) (fun c16 => ?_)
      · refine k_run 0 (pc' := 80) (l' := [(0, .inr (.inr 361)), (1, .inl a), (2, .inl b), (3, .inl 1), (4, .inl z11), (5, .inl (H.1 16 (z11).toNat))]) (st' := []) rfl ?_
        refine k_run 4 (pc' := 87) (l' := [(0, .inr (.inr 361)), (1, .inl a), (2, .inl b), (3, .inl 1), (4, .inl z11), (5, .inl (H.1 16 (z11).toNat))]) (st' := [.inl z11, .inr (.inr 7), .inr (.inr 361)]) rfl ?_
        refine h_cv (i := 209) (j := 38) (b := 7) (M' := mt_38) (xs := [.inl z11]) (rest := [.inr (.inr 361)]) rfl rfl rfl rfl (zs_K (x := kx_7) rfl (by decide)) rfl (Nat.le_of_ble_eq_true rfl) (Nat.le_of_ble_eq_true rfl) (by omega) (k_Program_codeOfConstructor (by omega) hI (by omega)) ?_
        rintro _ _ ⟨z21, rfl, g17, rfl⟩
        refine k_run 0 (pc' := 90) (l' := [(0, .inr (.inr 361)), (1, .inl a), (2, .inl b), (3, .inl 1), (4, .inl z11), (5, .inl (H.1 16 (z11).toNat))]) (st' := [.inl z21, .inr (.inr 361)]) rfl ?_
        have g22 : -2147483648 ≤ (H.1 361 4) ∧ (H.1 361 4) ≤ 2147483647 := kn (x := kx_361) hI rfl 4
        refine h_cv (i := 157) (j := 77) (b := 361) (M' := mt_77) (xs := [.inl z21]) (rest := []) rfl rfl rfl rfl (zs_K (x := kx_361) rfl (by decide)) rfl (Nat.le_of_ble_eq_true rfl) (Nat.le_of_ble_eq_true rfl) (by omega) (f_Reader_addName (by omega) hI (by omega)) ?_
        rintro _ H24 ⟨z27, rfl, g23, hI25, hq26⟩
        have hf28 : fq [(361, 3), (361, 4), (361, 5), (361, 9)] [362] true H H24 := fq_t (fq_rf _ _ _ _) hq26 rfl rfl rfl
        refine k_run 0 (pc' := 93) (l' := [(0, .inr (.inr 361)), (1, .inl a), (2, .inl b), (3, .inl 1), (4, .inl z11), (5, .inl (H.1 16 (z11).toNat))]) (st' := [.inl z27]) rfl ?_
        refine k_run 3 (pc' := 98) (l' := [(0, .inr (.inr 361)), (1, .inl a), (2, .inl b), (3, .inl 1), (4, .inl z11), (5, .inl (H.1 16 (z11).toNat)), (6, .inl z27), (7, .inl 0)]) (st' := []) rfl ?_
        have g29 : -2147483648 ≤ (H24.1 361 4) ∧ (H24.1 361 4) ≤ 2147483647 := kn (x := kx_361) hI25 rfl 4
        exact (f_readPC_1_cut hd hI ha hb hp0 hR _) H24 hI25 hf28 z11 (H.1 16 (z11).toNat) z27 (0 : Int) (by omega) (by omega) (by omega) (by decide) (by omega) (by omega) (by omega) (by omega) (by omega) (Nat.lt_succ_self _)
      · refine k_run 0 (pc' := 74) (l' := [(0, .inr (.inr 361)), (1, .inl a), (2, .inl b), (3, .inl 1), (4, .inl z11), (5, .inl (H.1 16 (z11).toNat))]) (st' := []) rfl ?_
        refine k_run 2 (pc' := 76) (l' := [(0, .inr (.inr 361)), (1, .inl a), (2, .inl b), (3, .inl 1), (4, .inl z11), (5, .inl (H.1 16 (z11).toNat))]) (st' := [.inl 4, .inr (.inr 361)]) rfl ?_
        have g30 : -2147483648 ≤ (H.1 361 4) ∧ (H.1 361 4) ≤ 2147483647 := kn (x := kx_361) hI rfl 4
        refine h_cv (i := 128) (j := 86) (b := 361) (M' := mt_86) (xs := [.inl 4]) (rest := []) rfl rfl rfl rfl (zs_K (x := kx_361) rfl (by decide)) rfl (Nat.le_of_ble_eq_true rfl) (Nat.le_of_ble_eq_true rfl) (by omega) (f_Reader_fails (by omega) hI (by decide)) ?_
        rintro _ H32 ⟨z35, rfl, g31, hI33, hq34⟩
        have hf36 : fq [(361, 3), (361, 4), (361, 5), (361, 9)] [362] true H H32 := fq_t (fq_rf _ _ _ _) hq34 rfl rfl rfl
        refine k_run 0 (pc' := 79) (l' := [(0, .inr (.inr 361)), (1, .inl a), (2, .inl b), (3, .inl 1), (4, .inl z11), (5, .inl (H.1 16 (z11).toNat))]) (st' := [.inl z35]) rfl ?_
        refine h_retz (x := z35) rfl rfl (by omega) ?_
        have g37 : -2147483648 ≤ (H32.1 361 4) ∧ (H32.1 361 4) ≤ 2147483647 := kn (x := kx_361) hI33 rfl 4
        exact ⟨_, rfl, (by omega), hI33, hf36⟩
    · refine k_run 0 (pc' := 47) (l' := [(0, .inr (.inr 361)), (1, .inl a), (2, .inl b), (3, .inl 1), (4, .inl z11), (5, .inl (H.1 16 (z11).toNat))]) (st' := []) rfl ?_
      refine k_run 1 (pc' := 48) (l' := [(0, .inr (.inr 361)), (1, .inl a), (2, .inl b), (3, .inl 1), (4, .inl z11), (5, .inl (H.1 16 (z11).toNat))]) (st' := [.inl 1]) rfl ?_
      refine h_zne (off := 9) (t := 57) rfl rfl (by decide) (fun _ => ?_) (fun c => absurd c (by decide))
      refine k_run 0 (pc' := 57) (l' := [(0, .inr (.inr 361)), (1, .inl a), (2, .inl b), (3, .inl 1), (4, .inl z11), (5, .inl (H.1 16 (z11).toNat))]) (st' := []) rfl ?_
      refine k_run 5 (pc' := 69) (l' := [(0, .inr (.inr 361)), (1, .inl a), (2, .inl b), (3, .inl 1), (4, .inl z11), (5, .inl (H.1 16 (z11).toNat))]) (st' := [.inl z11, .inr (.inr 15)]) rfl ?_
      refine k_ild (c := 15) (j := (z11).toNat) (i := z11) (x := kx_15) rfl rfl (by decide) rfl (by decide) (by omega) (by omega) ?_
      have g38 : -2 ≤ (H.1 15 (z11).toNat) ∧ (H.1 15 (z11).toNat) ≤ 100 := kn (x := kx_15) hI rfl (z11).toNat
      refine k_run 0 (pc' := 70) (l' := [(0, .inr (.inr 361)), (1, .inl a), (2, .inl b), (3, .inl 1), (4, .inl z11), (5, .inl (H.1 16 (z11).toNat))]) (st' := [.inl (H.1 15 (z11).toNat)]) rfl ?_
      refine k_run 1 (pc' := 71) (l' := [(0, .inr (.inr 361)), (1, .inl a), (2, .inl b), (3, .inl 1), (4, .inl z11), (5, .inl (H.1 16 (z11).toNat))]) (st' := [.inl a, .inl (H.1 15 (z11).toNat)]) rfl ?_
      refine h_ieq (off := 9) (t := 80) rfl rfl (by omega) (by omega) (fun c39 => ?_) (fun c39 => ?_)
      · refine k_run 0 (pc' := 80) (l' := [(0, .inr (.inr 361)), (1, .inl a), (2, .inl b), (3, .inl 1), (4, .inl z11), (5, .inl (H.1 16 (z11).toNat))]) (st' := []) rfl ?_
        refine k_run 4 (pc' := 87) (l' := [(0, .inr (.inr 361)), (1, .inl a), (2, .inl b), (3, .inl 1), (4, .inl z11), (5, .inl (H.1 16 (z11).toNat))]) (st' := [.inl z11, .inr (.inr 7), .inr (.inr 361)]) rfl ?_
        refine h_cv (i := 209) (j := 38) (b := 7) (M' := mt_38) (xs := [.inl z11]) (rest := [.inr (.inr 361)]) rfl rfl rfl rfl (zs_K (x := kx_7) rfl (by decide)) rfl (Nat.le_of_ble_eq_true rfl) (Nat.le_of_ble_eq_true rfl) (by omega) (k_Program_codeOfConstructor (by omega) hI (by omega)) ?_
        rintro _ _ ⟨z44, rfl, g40, rfl⟩
        refine k_run 0 (pc' := 90) (l' := [(0, .inr (.inr 361)), (1, .inl a), (2, .inl b), (3, .inl 1), (4, .inl z11), (5, .inl (H.1 16 (z11).toNat))]) (st' := [.inl z44, .inr (.inr 361)]) rfl ?_
        have g45 : -2147483648 ≤ (H.1 361 4) ∧ (H.1 361 4) ≤ 2147483647 := kn (x := kx_361) hI rfl 4
        refine h_cv (i := 157) (j := 77) (b := 361) (M' := mt_77) (xs := [.inl z44]) (rest := []) rfl rfl rfl rfl (zs_K (x := kx_361) rfl (by decide)) rfl (Nat.le_of_ble_eq_true rfl) (Nat.le_of_ble_eq_true rfl) (by omega) (f_Reader_addName (by omega) hI (by omega)) ?_
        rintro _ H47 ⟨z50, rfl, g46, hI48, hq49⟩
        have hf51 : fq [(361, 3), (361, 4), (361, 5), (361, 9)] [362] true H H47 := fq_t (fq_rf _ _ _ _) hq49 rfl rfl rfl
        refine k_run 0 (pc' := 93) (l' := [(0, .inr (.inr 361)), (1, .inl a), (2, .inl b), (3, .inl 1), (4, .inl z11), (5, .inl (H.1 16 (z11).toNat))]) (st' := [.inl z50]) rfl ?_
        refine k_run 3 (pc' := 98) (l' := [(0, .inr (.inr 361)), (1, .inl a), (2, .inl b), (3, .inl 1), (4, .inl z11), (5, .inl (H.1 16 (z11).toNat)), (6, .inl z50), (7, .inl 0)]) (st' := []) rfl ?_
        have g52 : -2147483648 ≤ (H47.1 361 4) ∧ (H47.1 361 4) ≤ 2147483647 := kn (x := kx_361) hI48 rfl 4
        exact (f_readPC_1_cut hd hI ha hb hp0 hR _) H47 hI48 hf51 z11 (H.1 16 (z11).toNat) z50 (0 : Int) (by omega) (by omega) (by omega) (by decide) (by omega) (by omega) (by omega) (by omega) (by omega) (Nat.lt_succ_self _)
      · refine k_run 0 (pc' := 74) (l' := [(0, .inr (.inr 361)), (1, .inl a), (2, .inl b), (3, .inl 1), (4, .inl z11), (5, .inl (H.1 16 (z11).toNat))]) (st' := []) rfl ?_
        refine k_run 2 (pc' := 76) (l' := [(0, .inr (.inr 361)), (1, .inl a), (2, .inl b), (3, .inl 1), (4, .inl z11), (5, .inl (H.1 16 (z11).toNat))]) (st' := [.inl 4, .inr (.inr 361)]) rfl ?_
        have g53 : -2147483648 ≤ (H.1 361 4) ∧ (H.1 361 4) ≤ 2147483647 := kn (x := kx_361) hI rfl 4
        refine h_cv (i := 128) (j := 86) (b := 361) (M' := mt_86) (xs := [.inl 4]) (rest := []) rfl rfl rfl rfl (zs_K (x := kx_361) rfl (by decide)) rfl (Nat.le_of_ble_eq_true rfl) (Nat.le_of_ble_eq_true rfl) (by omega) (f_Reader_fails (by omega) hI (by decide)) ?_
        rintro _ H55 ⟨z58, rfl, g54, hI56, hq57⟩
        have hf59 : fq [(361, 3), (361, 4), (361, 5), (361, 9)] [362] true H H55 := fq_t (fq_rf _ _ _ _) hq57 rfl rfl rfl
        refine k_run 0 (pc' := 79) (l' := [(0, .inr (.inr 361)), (1, .inl a), (2, .inl b), (3, .inl 1), (4, .inl z11), (5, .inl (H.1 16 (z11).toNat))]) (st' := [.inl z58]) rfl ?_
        refine h_retz (x := z58) rfl rfl (by omega) ?_
        have g60 : -2147483648 ≤ (H55.1 361 4) ∧ (H55.1 361 4) ≤ 2147483647 := kn (x := kx_361) hI56 rfl 4
        exact ⟨_, rfl, (by omega), hI56, hf59⟩
  · refine k_run 0 (pc' := 21) (l' := [(0, .inr (.inr 361)), (1, .inl a), (2, .inl b), (3, .inl 1), (4, .inl z11)]) (st' := []) rfl ?_
    refine k_run 2 (pc' := 23) (l' := [(0, .inr (.inr 361)), (1, .inl a), (2, .inl b), (3, .inl 1), (4, .inl z11)]) (st' := [.inl 3, .inr (.inr 361)]) rfl ?_
    have g61 : -2147483648 ≤ (H.1 361 4) ∧ (H.1 361 4) ≤ 2147483647 := kn (x := kx_361) hI rfl 4
    refine h_cv (i := 128) (j := 86) (b := 361) (M' := mt_86) (xs := [.inl 3]) (rest := []) rfl rfl rfl rfl (zs_K (x := kx_361) rfl (by decide)) rfl (Nat.le_of_ble_eq_true rfl) (Nat.le_of_ble_eq_true rfl) (by omega) (f_Reader_fails (by omega) hI (by decide)) ?_
    rintro _ H63 ⟨z66, rfl, g62, hI64, hq65⟩
    have hf67 : fq [(361, 3), (361, 4), (361, 5), (361, 9)] [362] true H H63 := fq_t (fq_rf _ _ _ _) hq65 rfl rfl rfl
    refine k_run 0 (pc' := 26) (l' := [(0, .inr (.inr 361)), (1, .inl a), (2, .inl b), (3, .inl 1), (4, .inl z11)]) (st' := [.inl z66]) rfl ?_
    refine h_retz (x := z66) rfl rfl (by omega) ?_
    have g68 : -2147483648 ≤ (H63.1 361 4) ∧ (H63.1 361 4) ≤ 2147483647 := kn (x := kx_361) hI64 rfl 4
    exact ⟨_, rfl, (by omega), hI64, hf67⟩

/-! Reader.readPattern -/
set_option maxRecDepth 100000 in
theorem f_readP {m : Nat} {d : Nat} (hd : 2 * m + 10 ≤ d) {H : hp} (hI : Inv H) {a : Int} {b : Int} (ha : -2147483648 ≤ a ∧ a ≤ 2147483647) (hb : -2147483648 ≤ b ∧ b ≤ 2147483647) (hp0 : -2 ≤ a ∧ a ≤ 100 ∧ 0 ≤ b ∧ b ≤ 10 ∧ 10 ≤ b + (m : Int)) (hR : ∀ m1, m1 < m → RPc9 m1) : hG (zs zK) d mt_70 0 (zargs 0 [.inr (.inr 361), .inl a, .inl b]) [] H (fun r9 H9 => ∃ z : Int, r9 = some (.inl z) ∧ ((0 ≤ z ∧ z ≤ 1) ∧ ((z = 0 ∨ H9.1 361 4 = H.1 361 4))) ∧ Inv H9 ∧ fq [(361, 3), (361, 4), (361, 5), (361, 9)] [362] true H H9) := by
  refine k_run 0 (pc' := 0) (l' := [(0, .inr (.inr 361)), (1, .inl a), (2, .inl b)]) (st' := []) rfl ?_
  refine k_run 1 (pc' := 1) (l' := [(0, .inr (.inr 361)), (1, .inl a), (2, .inl b)]) (st' := [.inr (.inr 361)]) rfl ?_
  refine h_cv (i := 72) (j := 83) (b := 361) (M' := mt_83) (xs := []) (rest := []) rfl rfl rfl rfl (zs_K (x := kx_361) rfl (by decide)) rfl (Nat.le_of_ble_eq_true rfl) (Nat.le_of_ble_eq_true rfl) (by omega) (f_Reader_token (by omega) hI ) ?_
  rintro _ _ ⟨z5, rfl, g1, rfl⟩
  refine k_run 0 (pc' := 4) (l' := [(0, .inr (.inr 361)), (1, .inl a), (2, .inl b)]) (st' := [.inl z5]) rfl ?_
  rcases (show (z5 ≠ 2 ∧ z5 ≠ 3 ∧ z5 ≠ 40) ∨ z5 = 2 ∨ z5 = 3 ∨ z5 = 40 by omega) with c6 | c6 | c6 | c6
  · refine k_lsw (t := 116) rfl (by omega) (by decide) (lsw_no (by intro q9 hq9; simp only [List.mem_cons, List.not_mem_nil, or_false] at hq9; rcases hq9 with rfl | rfl | rfl <;> (dsimp only; omega))) rfl ?_
    refine k_run 1 (pc' := 117) (l' := [(0, .inr (.inr 361)), (1, .inl a), (2, .inl b)]) (st' := [.inr (.inr 361)]) rfl ?_
    have g7 : -2147483648 ≤ (H.1 361 4) ∧ (H.1 361 4) ≤ 2147483647 := kn (x := kx_361) hI rfl 4
    refine h_cv (i := 89) (j := 85) (b := 361) (M' := mt_85) (xs := []) (rest := []) rfl rfl rfl rfl (zs_K (x := kx_361) rfl (by decide)) rfl (Nat.le_of_ble_eq_true rfl) (Nat.le_of_ble_eq_true rfl) (by omega) (f_Reader_misplaced (by omega) hI ) ?_
    rintro _ H9 ⟨z12, rfl, g8, hI10, hq11⟩
    have hf13 : fq [(361, 3), (361, 4), (361, 5), (361, 9)] [362] true H H9 := fq_t (fq_rf _ _ _ _) hq11 rfl rfl rfl
    refine k_run 0 (pc' := 120) (l' := [(0, .inr (.inr 361)), (1, .inl a), (2, .inl b)]) (st' := [.inl z12]) rfl ?_
    refine h_retz (x := z12) rfl rfl (by omega) ?_
    have g14 : -2147483648 ≤ (H9.1 361 4) ∧ (H9.1 361 4) ≤ 2147483647 := kn (x := kx_361) hI10 rfl 4
    exact ⟨_, rfl, (by omega), hI10, hf13⟩
  · refine k_lsw (t := 40) rfl (by omega) (by decide) (by rw [c6]) rfl ?_
    refine k_run 2 (pc' := 42) (l' := [(0, .inr (.inr 361)), (1, .inl a), (2, .inl b)]) (st' := [.inl a, .inr (.inr 361)]) rfl ?_
    have g15 : -2147483648 ≤ (H.1 361 4) ∧ (H.1 361 4) ≤ 2147483647 := kn (x := kx_361) hI rfl 4
    refine h_cv (i := 197) (j := 71) (b := 361) (M' := mt_71) (xs := [.inl a]) (rest := []) rfl rfl rfl rfl (zs_K (x := kx_361) rfl (by decide)) rfl (Nat.le_of_ble_eq_true rfl) (Nat.le_of_ble_eq_true rfl) (by omega) (f_Reader_readPatternVariable (by omega) hI (by omega) (by omega)) ?_
    rintro _ H17 ⟨z20, rfl, g16, hI18, hq19⟩
    have hf21 : fq [(361, 3), (361, 4), (361, 5), (361, 9)] [362] true H H17 := fq_t (fq_rf _ _ _ _) hq19 rfl rfl rfl
    refine k_run 0 (pc' := 45) (l' := [(0, .inr (.inr 361)), (1, .inl a), (2, .inl b)]) (st' := [.inl z20]) rfl ?_
    refine h_retz (x := z20) rfl rfl (by omega) ?_
    have g22 : -2147483648 ≤ (H17.1 361 4) ∧ (H17.1 361 4) ≤ 2147483647 := kn (x := kx_361) hI18 rfl 4
    exact ⟨_, rfl, (by omega), hI18, hf21⟩
  · refine k_lsw (t := 46) rfl (by omega) (by decide) (by rw [c6]) rfl ?_
    refine k_run 4 (pc' := 50) (l' := [(0, .inr (.inr 361)), (1, .inl a), (2, .inl b)]) (st' := [.inl 0, .inl b, .inl a, .inr (.inr 361)]) rfl ?_
    have g23 : -2147483648 ≤ (H.1 361 4) ∧ (H.1 361 4) ≤ 2147483647 := kn (x := kx_361) hI rfl 4
    refine h_cv (i := 200) (j := 72) (b := 361) (M' := mt_72) (xs := [.inl 0, .inl b, .inl a]) (rest := []) rfl rfl rfl rfl (zs_K (x := kx_361) rfl (by decide)) rfl (Nat.le_of_ble_eq_true rfl) (Nat.le_of_ble_eq_true rfl) (by omega) (f_readPC_0 (by omega) hI (by omega) (by omega) (by omega)) ?_
    rintro _ H25 ⟨z28, rfl, g24, hI26, hq27⟩
    have hf29 : fq [(361, 3), (361, 4), (361, 5), (361, 9)] [362] true H H25 := fq_t (fq_rf _ _ _ _) hq27 rfl rfl rfl
    refine k_run 0 (pc' := 53) (l' := [(0, .inr (.inr 361)), (1, .inl a), (2, .inl b)]) (st' := [.inl z28]) rfl ?_
    refine h_retz (x := z28) rfl rfl (by omega) ?_
    have g30 : -2147483648 ≤ (H25.1 361 4) ∧ (H25.1 361 4) ≤ 2147483647 := kn (x := kx_361) hI26 rfl 4
    exact ⟨_, rfl, (by omega), hI26, hf29⟩
  · refine k_lsw (t := 54) rfl (by omega) (by decide) (by rw [c6]) rfl ?_
    refine k_run 2 (pc' := 57) (l' := [(0, .inr (.inr 361)), (1, .inl a), (2, .inl b)]) (st' := [.inl 10, .inl b]) rfl ?_
    refine h_ilt (off := 9) (t := 66) rfl rfl (by omega) (by decide) (fun c31 => ?_) (fun c31 => ?_)
    · refine k_run 0 (pc' := 66) (l' := [(0, .inr (.inr 361)), (1, .inl a), (2, .inl b)]) (st' := []) rfl ?_
      refine k_run 3 (pc' := 71) (l' := [(0, .inr (.inr 361)), (1, .inl a), (2, .inl b)]) (st' := [.inl (H.1 361 3), .inr (.inr 361)]) rfl ?_
      have g32 : -2147483648 ≤ (H.1 361 3) ∧ (H.1 361 3) ≤ 2147483647 := kn (x := kx_361) hI rfl 3
      refine k_run 2 (pc' := 73) (l' := [(0, .inr (.inr 361)), (1, .inl a), (2, .inl b)]) (st' := [.inl ((H.1 361 3) + 1), .inr (.inr 361)]) rfl ?_
      refine k_putw (a := 361) (x := kx_361) rfl rfl rfl (by decide) (by decide) rfl rfl rfl rfl hI rfl (fun H33 hI34 hw35 => ?_)
      have hf37 : fq [(361, 3), (361, 4), (361, 5), (361, 9)] [362] true H H33 := fq_w (fq_rf _ _ _ _) hw35 (fpo (by decide) rfl)
      refine k_run 0 (pc' := 76) (l' := [(0, .inr (.inr 361)), (1, .inl a), (2, .inl b)]) (st' := []) rfl ?_
      refine k_run 1 (pc' := 77) (l' := [(0, .inr (.inr 361)), (1, .inl a), (2, .inl b)]) (st' := [.inr (.inr 361)]) rfl ?_
      refine h_cv (i := 72) (j := 83) (b := 361) (M' := mt_83) (xs := []) (rest := []) rfl rfl rfl rfl (zs_K (x := kx_361) rfl (by decide)) rfl (Nat.le_of_ble_eq_true rfl) (Nat.le_of_ble_eq_true rfl) (by omega) (f_Reader_token (by omega) hI34 ) ?_
      rintro _ _ ⟨z42, rfl, g38, rfl⟩
      refine k_run 0 (pc' := 80) (l' := [(0, .inr (.inr 361)), (1, .inl a), (2, .inl b)]) (st' := [.inl z42]) rfl ?_
      refine k_run 1 (pc' := 81) (l' := [(0, .inr (.inr 361)), (1, .inl a), (2, .inl b)]) (st' := [.inl 3, .inl z42]) rfl ?_
      refine h_ieq (off := 8) (t := 89) rfl rfl (by omega) (by decide) (fun c43 => ?_) (fun c43 => ?_)
      · refine k_run 0 (pc' := 89) (l' := [(0, .inr (.inr 361)), (1, .inl a), (2, .inl b)]) (st' := []) rfl ?_
        refine k_run 6 (pc' := 95) (l' := [(0, .inr (.inr 361)), (1, .inl a), (2, .inl b)]) (st' := [.inl 1, .inl (b + 1), .inl a, .inr (.inr 361)]) rfl ?_
        have g44 : -2147483648 ≤ (H33.1 361 4) ∧ (H33.1 361 4) ≤ 2147483647 := kn (x := kx_361) hI34 rfl 4
        have e45 : (H33.1 361 4) = (H.1 361 4) := hw35.2 _ _ (fun q => absurd q.2 (by decide))
        refine h_cv (i := 200) (j := 72) (b := 361) (M' := mt_72) (xs := [.inl 1, .inl (b + 1), .inl a]) (rest := []) rfl rfl rfl rfl (zs_K (x := kx_361) rfl (by decide)) rfl (Nat.le_of_ble_eq_true rfl) (Nat.le_of_ble_eq_true rfl) (by omega) (f_readPC_1 (by omega) hI34 (by omega) (by omega) (by omega) (m := m - 1) (fun m1 h1 => hR m1 (by omega))) ?_
        rintro _ H47 ⟨z50, rfl, g46, hI48, hq49⟩
        have hf51 : fq [(361, 3), (361, 4), (361, 5), (361, 9)] [362] true H H47 := fq_t hf37 hq49 rfl rfl rfl
        refine k_run 0 (pc' := 98) (l' := [(0, .inr (.inr 361)), (1, .inl a), (2, .inl b)]) (st' := [.inl z50]) rfl ?_
        refine h_zeq (off := 16) (t := 114) rfl rfl (by omega) (fun c52 => ?_) (fun c52 => ?_)
        · refine k_run 0 (pc' := 114) (l' := [(0, .inr (.inr 361)), (1, .inl a), (2, .inl b)]) (st' := []) rfl ?_
          refine k_run 1 (pc' := 115) (l' := [(0, .inr (.inr 361)), (1, .inl a), (2, .inl b)]) (st' := [.inl 0]) rfl ?_
          refine h_retz (x := 0) rfl rfl (by decide) ?_
          have g53 : -2147483648 ≤ (H47.1 361 4) ∧ (H47.1 361 4) ≤ 2147483647 := kn (x := kx_361) hI48 rfl 4
          exact ⟨_, rfl, (by omega), hI48, hf51⟩
        · refine k_run 0 (pc' := 101) (l' := [(0, .inr (.inr 361)), (1, .inl a), (2, .inl b)]) (st' := []) rfl ?_
          refine k_run 2 (pc' := 104) (l' := [(0, .inr (.inr 361)), (1, .inl a), (2, .inl b)]) (st' := [.inl 41, .inr (.inr 361)]) rfl ?_
          have g54 : -2147483648 ≤ (H47.1 361 4) ∧ (H47.1 361 4) ≤ 2147483647 := kn (x := kx_361) hI48 rfl 4
          refine h_cv (i := 92) (j := 82) (b := 361) (M' := mt_82) (xs := [.inl 41]) (rest := []) rfl rfl rfl rfl (zs_K (x := kx_361) rfl (by decide)) rfl (Nat.le_of_ble_eq_true rfl) (Nat.le_of_ble_eq_true rfl) (by omega) (f_Reader_take (by omega) hI48 (by decide)) ?_
          rintro _ H56 ⟨z59, rfl, g55, hI57, hq58⟩
          have hf60 : fq [(361, 3), (361, 4), (361, 5), (361, 9)] [362] true H H56 := fq_t hf51 hq58 rfl rfl rfl
          refine k_run 0 (pc' := 107) (l' := [(0, .inr (.inr 361)), (1, .inl a), (2, .inl b)]) (st' := [.inl z59]) rfl ?_
          refine h_zeq (off := 7) (t := 114) rfl rfl (by omega) (fun c61 => ?_) (fun c61 => ?_)
          · refine k_run 0 (pc' := 114) (l' := [(0, .inr (.inr 361)), (1, .inl a), (2, .inl b)]) (st' := []) rfl ?_
            refine k_run 1 (pc' := 115) (l' := [(0, .inr (.inr 361)), (1, .inl a), (2, .inl b)]) (st' := [.inl 0]) rfl ?_
            refine h_retz (x := 0) rfl rfl (by decide) ?_
            have g62 : -2147483648 ≤ (H56.1 361 4) ∧ (H56.1 361 4) ≤ 2147483647 := kn (x := kx_361) hI57 rfl 4
            exact ⟨_, rfl, (by omega), hI57, hf60⟩
          · refine k_run 0 (pc' := 110) (l' := [(0, .inr (.inr 361)), (1, .inl a), (2, .inl b)]) (st' := []) rfl ?_
            refine k_run 2 (pc' := 115) (l' := [(0, .inr (.inr 361)), (1, .inl a), (2, .inl b)]) (st' := [.inl 1]) rfl ?_
            refine h_retz (x := 1) rfl rfl (by decide) ?_
            have g63 : -2147483648 ≤ (H56.1 361 4) ∧ (H56.1 361 4) ≤ 2147483647 := kn (x := kx_361) hI57 rfl 4
            exact ⟨_, rfl, (by omega), hI57, hf60⟩
      · refine k_run 0 (pc' := 84) (l' := [(0, .inr (.inr 361)), (1, .inl a), (2, .inl b)]) (st' := []) rfl ?_
        refine k_run 1 (pc' := 85) (l' := [(0, .inr (.inr 361)), (1, .inl a), (2, .inl b)]) (st' := [.inr (.inr 361)]) rfl ?_
        have g64 : -2147483648 ≤ (H33.1 361 4) ∧ (H33.1 361 4) ≤ 2147483647 := kn (x := kx_361) hI34 rfl 4
        have e65 : (H33.1 361 4) = (H.1 361 4) := hw35.2 _ _ (fun q => absurd q.2 (by decide))
        refine h_cv (i := 89) (j := 85) (b := 361) (M' := mt_85) (xs := []) (rest := []) rfl rfl rfl rfl (zs_K (x := kx_361) rfl (by decide)) rfl (Nat.le_of_ble_eq_true rfl) (Nat.le_of_ble_eq_true rfl) (by omega) (f_Reader_misplaced (by omega) hI34 ) ?_
        rintro _ H67 ⟨z70, rfl, g66, hI68, hq69⟩
        have hf71 : fq [(361, 3), (361, 4), (361, 5), (361, 9)] [362] true H H67 := fq_t hf37 hq69 rfl rfl rfl
        refine k_run 0 (pc' := 88) (l' := [(0, .inr (.inr 361)), (1, .inl a), (2, .inl b)]) (st' := [.inl z70]) rfl ?_
        refine h_retz (x := z70) rfl rfl (by omega) ?_
        have g72 : -2147483648 ≤ (H67.1 361 4) ∧ (H67.1 361 4) ≤ 2147483647 := kn (x := kx_361) hI68 rfl 4
        exact ⟨_, rfl, (by omega), hI68, hf71⟩
    · refine k_run 0 (pc' := 60) (l' := [(0, .inr (.inr 361)), (1, .inl a), (2, .inl b)]) (st' := []) rfl ?_
      refine k_run 2 (pc' := 62) (l' := [(0, .inr (.inr 361)), (1, .inl a), (2, .inl b)]) (st' := [.inl 5, .inr (.inr 361)]) rfl ?_
      have g73 : -2147483648 ≤ (H.1 361 4) ∧ (H.1 361 4) ≤ 2147483647 := kn (x := kx_361) hI rfl 4
      refine h_cv (i := 128) (j := 86) (b := 361) (M' := mt_86) (xs := [.inl 5]) (rest := []) rfl rfl rfl rfl (zs_K (x := kx_361) rfl (by decide)) rfl (Nat.le_of_ble_eq_true rfl) (Nat.le_of_ble_eq_true rfl) (by omega) (f_Reader_fails (by omega) hI (by decide)) ?_
      rintro _ H75 ⟨z78, rfl, g74, hI76, hq77⟩
      have hf79 : fq [(361, 3), (361, 4), (361, 5), (361, 9)] [362] true H H75 := fq_t (fq_rf _ _ _ _) hq77 rfl rfl rfl
      refine k_run 0 (pc' := 65) (l' := [(0, .inr (.inr 361)), (1, .inl a), (2, .inl b)]) (st' := [.inl z78]) rfl ?_
      refine h_retz (x := z78) rfl rfl (by omega) ?_
      have g80 : -2147483648 ≤ (H75.1 361 4) ∧ (H75.1 361 4) ≤ 2147483647 := kn (x := kx_361) hI76 rfl 4
      exact ⟨_, rfl, (by omega), hI76, hf79⟩

theorem f_RP : ∀ m, RPc9 m := by
  intro m
  induction m using Nat.strongRecOn with
  | ind m hR =>
    have h4 : RPc9 m := fun hd _ hI _ _ ha hb hp => f_readP hd hI ha hb hp hR
    exact @h4
theorem f_Reader_readPattern {d : Nat} (hd : 30 ≤ d) {H : hp} (hI : Inv H) {a b : Int} (ha : -2147483648 ≤ a ∧ a ≤ 2147483647) (hb : -2147483648 ≤ b ∧ b ≤ 2147483647) (hp0 : -2 ≤ a ∧ a ≤ 100 ∧ 0 ≤ b ∧ b ≤ 10) : hG (zs zK) d mt_70 0 (zargs 0 [.inr (.inr 361), .inl a, .inl b]) [] H (fun r9 H9 => ∃ z : Int, r9 = some (.inl z) ∧ ((0 ≤ z ∧ z ≤ 1) ∧ (z = 0 ∨ H9.1 361 4 = H.1 361 4)) ∧ Inv H9 ∧ fq [(361, 3), (361, 4), (361, 5), (361, 9)] [362] true H H9) := f_RP 10 (by omega) hI ha hb (by omega)

/-! the class: texts are read -/
/-! Reader.readRule -/
set_option maxRecDepth 100000 in
theorem f_Reader_readRule_cut {d : Nat} (hd : 41 ≤ d) {H : hp} (hI : Inv H)   : ∀ w : Nat, (∀ (H1 : hp), Inv H1 → fq [(7, 5), (361, 3), (361, 4), (361, 5), (361, 6), (361, 7), (361, 8), (361, 9)] [362] true H H1 → ∀ (x1 : Int) (x2 : Int) (x3 : Int) (x4 : Int) , (-2147483648 ≤ x1 ∧ x1 ≤ 2147483647) → (-2147483648 ≤ x2 ∧ x2 ≤ 2147483647) → (-2147483648 ≤ x3 ∧ x3 ≤ 2147483647) → (-2147483648 ≤ x4 ∧ x4 ≤ 2147483647) → (0 ≤ x1 ∧ x1 < 16) → (x2 ≤ 4) → (0 ≤ x3 ∧ x3 ≤ 1) → (0 ≤ x4) → (H1.1 7 5 < 40) → ((x3 = 0 ∨ H1.1 361 4 = H.1 361 4)) → (((100 - x4).toNat) < w) → hG (zs zK) d mt_68 121 [(0, .inr (.inr 361)), (1, .inl x1), (2, .inl x2), (3, .inl x3), (4, .inl x4)] [] H1 (fun r9 H9 => ∃ z : Int, r9 = some (.inl z) ∧ ((0 ≤ z ∧ z ≤ 1) ∧ ((z = 0 ∨ H9.1 361 4 = H.1 361 4))) ∧ Inv H9 ∧ fq [(7, 5), (361, 3), (361, 4), (361, 5), (361, 6), (361, 7), (361, 8), (361, 9)] [362] true H H9)) := by
  intro w
  induction w with
  | zero => exact fun _ _ _ _ _ _ _ _ _ _ _ _ _ _ _ _ _ h => absurd h (Nat.not_lt_zero _)
  | succ w ih =>
    intro H1 hI1 hf1 x1 x2 x3 x4 hx1 hx2 hx3 hx4 hi0 hi1 hi2 hi3 hi4 hi5 hw
    have g99 : 0 ≤ (H1.1 7 5) ∧ (H1.1 7 5) ≤ 40 := kn (x := kx_7) hI1 rfl 5
    have g100 : -2147483648 ≤ (H1.1 361 4) ∧ (H1.1 361 4) ≤ 2147483647 := kn (x := kx_361) hI1 rfl 4
    refine k_run 1 (pc' := 122) (l' := [(0, .inr (.inr 361)), (1, .inl x1), (2, .inl x2), (3, .inl x3), (4, .inl x4)]) (st' := [.inl x3]) rfl ?_
    refine h_zeq (off := 34) (t := 156) rfl rfl (by omega) (fun c101 => ?_) (fun c101 => ?_)
    · refine k_run 0 (pc' := 156) (l' := [(0, .inr (.inr 361)), (1, .inl x1), (2, .inl x2), (3, .inl x3), (4, .inl x4)]) (st' := []) rfl ?_
      refine k_run 1 (pc' := 157) (l' := [(0, .inr (.inr 361)), (1, .inl x1), (2, .inl x2), (3, .inl x3), (4, .inl x4)]) (st' := [.inl x3]) rfl ?_
      refine h_zeq (off := 12) (t := 169) rfl rfl (by omega) (fun c102 => ?_) (fun c102 => ?_)
      · refine k_run 0 (pc' := 169) (l' := [(0, .inr (.inr 361)), (1, .inl x1), (2, .inl x2), (3, .inl x3), (4, .inl x4)]) (st' := []) rfl ?_
        refine k_run 1 (pc' := 170) (l' := [(0, .inr (.inr 361)), (1, .inl x1), (2, .inl x2), (3, .inl x3), (4, .inl x4)]) (st' := [.inl 0]) rfl ?_
        refine h_retz (x := 0) rfl rfl (by decide) ?_
        exact ⟨_, rfl, (by omega), hI1, hf1⟩
      · exfalso
        omega
    · refine k_run 0 (pc' := 125) (l' := [(0, .inr (.inr 361)), (1, .inl x1), (2, .inl x2), (3, .inl x3), (4, .inl x4)]) (st' := []) rfl ?_
      refine k_run 2 (pc' := 128) (l' := [(0, .inr (.inr 361)), (1, .inl x1), (2, .inl x2), (3, .inl x3), (4, .inl x4)]) (st' := [.inl x2, .inl x4]) rfl ?_
      refine h_ige (off := 28) (t := 156) rfl rfl (by omega) (by omega) (fun c103 => ?_) (fun c103 => ?_)
      · refine k_run 0 (pc' := 156) (l' := [(0, .inr (.inr 361)), (1, .inl x1), (2, .inl x2), (3, .inl x3), (4, .inl x4)]) (st' := []) rfl ?_
        refine k_run 1 (pc' := 157) (l' := [(0, .inr (.inr 361)), (1, .inl x1), (2, .inl x2), (3, .inl x3), (4, .inl x4)]) (st' := [.inl x3]) rfl ?_
        refine h_zeq (off := 12) (t := 169) rfl rfl (by omega) (fun c104 => ?_) (fun c104 => ?_)
        · exfalso
          omega
        · refine k_run 0 (pc' := 160) (l' := [(0, .inr (.inr 361)), (1, .inl x1), (2, .inl x2), (3, .inl x3), (4, .inl x4)]) (st' := []) rfl ?_
          refine k_run 2 (pc' := 163) (l' := [(0, .inr (.inr 361)), (1, .inl x1), (2, .inl x2), (3, .inl x3), (4, .inl x4)]) (st' := [.inl 61, .inr (.inr 361)]) rfl ?_
          refine h_cv (i := 92) (j := 82) (b := 361) (M' := mt_82) (xs := [.inl 61]) (rest := []) rfl rfl rfl rfl (zs_K (x := kx_361) rfl (by decide)) rfl (Nat.le_of_ble_eq_true rfl) (Nat.le_of_ble_eq_true rfl) (by omega) (f_Reader_take (by omega) hI1 (by decide)) ?_
          rintro _ H106 ⟨z109, rfl, g105, hI107, hq108⟩
          have hf110 : fq [(7, 5), (361, 3), (361, 4), (361, 5), (361, 6), (361, 7), (361, 8), (361, 9)] [362] true H H106 := fq_t hf1 hq108 rfl rfl rfl
          refine k_run 0 (pc' := 166) (l' := [(0, .inr (.inr 361)), (1, .inl x1), (2, .inl x2), (3, .inl x3), (4, .inl x4)]) (st' := [.inl z109]) rfl ?_
          refine h_zne (off := 5) (t := 171) rfl rfl (by omega) (fun c111 => ?_) (fun c111 => ?_)
          · refine k_run 0 (pc' := 171) (l' := [(0, .inr (.inr 361)), (1, .inl x1), (2, .inl x2), (3, .inl x3), (4, .inl x4)]) (st' := []) rfl ?_
            refine k_run 2 (pc' := 173) (l' := [(0, .inr (.inr 361)), (1, .inl x1), (2, .inl x2), (3, .inl x3), (4, .inl x4)]) (st' := [.inr (.inr 361), .inr (.inr 361)]) rfl ?_
            refine k_getr (a := 361) (x := kx_361) rfl rfl rfl (by decide) rfl rfl rfl hI107 (fun h112 => ?_)
            obtain ⟨t113, et115⟩ : ∃ t9, t9 = H106.2 361 7 := ⟨_, rfl⟩
            rw [← et115] at h112 ⊢
            have k114 : isE t113 := h112
            refine k_run 0 (pc' := 176) (l' := [(0, .inr (.inr 361)), (1, .inl x1), (2, .inl x2), (3, .inl x3), (4, .inl x4)]) (st' := [.inr (.inr t113), .inr (.inr 361)]) rfl ?_
            refine k_get (a := t113) (x := (kEo t113)) (v := .inr (.inr (t113 + 3))) rfl rfl k114.1 (iE0 k114) rfl rfl rfl ?_
            refine k_run 0 (pc' := 179) (l' := [(0, .inr (.inr 361)), (1, .inl x1), (2, .inl x2), (3, .inl x3), (4, .inl x4)]) (st' := [.inr (.inr (t113 + 3)), .inr (.inr 361)]) rfl ?_
            have g116 : -2147483648 ≤ (H106.1 361 4) ∧ (H106.1 361 4) ≤ 2147483647 := kn (x := kx_361) hI107 rfl 4
            refine h_cv (i := 105) (j := 81) (b := 361) (M' := mt_81) (xs := [.inr (.inr (t113 + 3))]) (rest := []) rfl rfl rfl rfl (zs_K (x := kx_361) rfl (by decide)) rfl (Nat.le_of_ble_eq_true rfl) (Nat.le_of_ble_eq_true rfl) (by omega) (f_Reader_startTerm (by omega) hI107 (iEr k114)) ?_
            rintro _ H118 ⟨rfl, g117, hI119, hq120⟩
            have hf121 : fq [(7, 5), (361, 3), (361, 4), (361, 5), (361, 6), (361, 7), (361, 8), (361, 9)] [362] true H H118 := fq_t hf110 hq120 rfl rfl rfl
            refine k_run 0 (pc' := 182) (l' := [(0, .inr (.inr 361)), (1, .inl x1), (2, .inl x2), (3, .inl x3), (4, .inl x4)]) (st' := []) rfl ?_
            refine k_run 6 (pc' := 194) (l' := [(0, .inr (.inr 361)), (1, .inl x1), (2, .inl x2), (3, .inl x3), (4, .inl x4)]) (st' := [.inl x1, .inr (.inr 20), .inr (.inr 361)]) rfl ?_
            refine k_ild (c := 20) (j := (x1).toNat) (i := x1) (x := kx_20) rfl rfl (by decide) rfl (by decide) (by omega) (by omega) ?_
            have g122 : -2 ≤ (H118.1 20 (x1).toNat) ∧ (H118.1 20 (x1).toNat) ≤ 100 := kn (x := kx_20) hI119 rfl (x1).toNat
            have e123 : (H118.1 20 (x1).toNat) = (H106.1 20 (x1).toNat) := (hq120.1 20 (x1).toNat rfl (by decide) (fun q => by simp at q)).1
            have e124 : (H106.1 20 (x1).toNat) = (H1.1 20 (x1).toNat) := (hq108.1 20 (x1).toNat rfl (by decide) (fun q => by simp at q)).1
            have e125 : (H1.1 20 (x1).toNat) = (H.1 20 (x1).toNat) := (hf1.1 20 (x1).toNat rfl (by decide) (fun q => by simp at q)).1
            refine k_run 0 (pc' := 195) (l' := [(0, .inr (.inr 361)), (1, .inl x1), (2, .inl x2), (3, .inl x3), (4, .inl x4)]) (st' := [.inl (H118.1 20 (x1).toNat), .inr (.inr 361)]) rfl ?_
            refine k_run 2 (pc' := 197) (l' := [(0, .inr (.inr 361)), (1, .inl x1), (2, .inl x2), (3, .inl x3), (4, .inl x4)]) (st' := [.inl 0, .inl 0, .inl (H118.1 20 (x1).toNat), .inr (.inr 361)]) rfl ?_
            have g126 : -2147483648 ≤ (H118.1 361 4) ∧ (H118.1 361 4) ≤ 2147483647 := kn (x := kx_361) hI119 rfl 4
            have e127 : (H118.1 361 4) = (H106.1 361 4) := (hq120.1 361 4 rfl (by decide) (by decide)).1
            refine h_cv (i := 109) (j := 73) (b := 361) (M' := mt_73) (xs := [.inl 0, .inl 0, .inl (H118.1 20 (x1).toNat)]) (rest := []) rfl rfl rfl rfl (zs_K (x := kx_361) rfl (by decide)) rfl (Nat.le_of_ble_eq_true rfl) (Nat.le_of_ble_eq_true rfl) (by omega) (f_Reader_readTerm (by omega) hI119 (by omega) (by decide) (by decide) (by omega)) ?_
            rintro _ H129 ⟨z132, rfl, g128, hI130, hq131⟩
            have hf133 : fq [(7, 5), (361, 3), (361, 4), (361, 5), (361, 6), (361, 7), (361, 8), (361, 9)] [362] true H H129 := fq_t hf121 hq131 rfl rfl rfl
            refine k_run 0 (pc' := 200) (l' := [(0, .inr (.inr 361)), (1, .inl x1), (2, .inl x2), (3, .inl x3), (4, .inl x4)]) (st' := [.inl z132]) rfl ?_
            refine h_zne (off := 5) (t := 205) rfl rfl (by omega) (fun c134 => ?_) (fun c134 => ?_)
            · refine k_run 0 (pc' := 205) (l' := [(0, .inr (.inr 361)), (1, .inl x1), (2, .inl x2), (3, .inl x3), (4, .inl x4)]) (st' := []) rfl ?_
              refine k_run 1 (pc' := 206) (l' := [(0, .inr (.inr 361)), (1, .inl x1), (2, .inl x2), (3, .inl x3), (4, .inl x4)]) (st' := [.inr (.inr 361)]) rfl ?_
              refine k_getr (a := 361) (x := kx_361) rfl rfl rfl (by decide) rfl rfl rfl hI130 (fun h135 => ?_)
              obtain ⟨t136, et138⟩ : ∃ t9, t9 = H129.2 361 7 := ⟨_, rfl⟩
              rw [← et138] at h135 ⊢
              have k137 : isE t136 := h135
              refine k_run 0 (pc' := 209) (l' := [(0, .inr (.inr 361)), (1, .inl x1), (2, .inl x2), (3, .inl x3), (4, .inl x4)]) (st' := [.inr (.inr t136)]) rfl ?_
              refine k_run 2 (pc' := 213) (l' := [(0, .inr (.inr 361)), (1, .inl x1), (2, .inl x2), (3, .inl x3), (4, .inl x4)]) (st' := [.inl (H129.1 361 9), .inr (.inr t136)]) rfl ?_
              have g139 : 0 ≤ (H129.1 361 9) ∧ (H129.1 361 9) ≤ 40 := kn (x := kx_361) hI130 rfl 9
              refine k_puti (z := (H129.1 361 9)) (a := t136) (x := (kEo t136)) rfl rfl k137.1 (iE0 k137) k137.2.2.2.2.1 rfl rfl rfl rfl hI130 (by omega) (show 0 ≤ (H129.1 361 9) ∧ (H129.1 361 9) ≤ 40 by omega) (fun H140 hI141 hw142 hv143 => ?_)
              have hf144 : fq [(7, 5), (361, 3), (361, 4), (361, 5), (361, 6), (361, 7), (361, 8), (361, 9)] [362] true H H140 := fq_w hf133 hw142 (fpg (iEf k137))
              refine k_run 0 (pc' := 216) (l' := [(0, .inr (.inr 361)), (1, .inl x1), (2, .inl x2), (3, .inl x3), (4, .inl x4)]) (st' := []) rfl ?_
              refine k_run 4 (pc' := 224) (l' := [(0, .inr (.inr 361)), (1, .inl x1), (2, .inl x2), (3, .inl x3), (4, .inl x4)]) (st' := [.inl (H140.1 7 5), .inr (.inr 7)]) rfl ?_
              have g145 : 0 ≤ (H140.1 7 5) ∧ (H140.1 7 5) ≤ 40 := kn (x := kx_7) hI141 rfl 5
              have e146 : (H140.1 7 5) = (H129.1 7 5) := hw142.2 _ _ (fun q => by have h9 := (iEf k137); rw [← q.1] at h9; exact absurd h9 (by decide))
              have e147 : (H129.1 7 5) = (H118.1 7 5) := (hq131.1 7 5 rfl (by decide) (by decide)).1
              have e148 : (H118.1 7 5) = (H106.1 7 5) := (hq120.1 7 5 rfl (by decide) (by decide)).1
              have e149 : (H106.1 7 5) = (H1.1 7 5) := (hq108.1 7 5 rfl (by decide) (by decide)).1
              refine k_run 2 (pc' := 226) (l' := [(0, .inr (.inr 361)), (1, .inl x1), (2, .inl x2), (3, .inl x3), (4, .inl x4)]) (st' := [.inl ((H140.1 7 5) + 1), .inr (.inr 7)]) rfl ?_
              refine k_puti (z := ((H140.1 7 5) + 1)) (a := 7) (x := kx_7) rfl rfl rfl (by decide) (by decide) rfl rfl rfl rfl hI141 (by omega) (show 0 ≤ ((H140.1 7 5) + 1) ∧ ((H140.1 7 5) + 1) ≤ 40 by omega) (fun H150 hI151 hw152 hv153 => ?_)
              have hf154 : fq [(7, 5), (361, 3), (361, 4), (361, 5), (361, 6), (361, 7), (361, 8), (361, 9)] [362] true H H150 := fq_w hf144 hw152 (fpo (by decide) rfl)
              refine k_run 0 (pc' := 229) (l' := [(0, .inr (.inr 361)), (1, .inl x1), (2, .inl x2), (3, .inl x3), (4, .inl x4)]) (st' := []) rfl ?_
              refine k_run 1 (pc' := 230) (l' := [(0, .inr (.inr 361)), (1, .inl x1), (2, .inl x2), (3, .inl x3), (4, .inl x4)]) (st' := [.inl 1]) rfl ?_
              refine h_retz (x := 1) rfl rfl (by decide) ?_
              have g155 : -2147483648 ≤ (H150.1 361 4) ∧ (H150.1 361 4) ≤ 2147483647 := kn (x := kx_361) hI151 rfl 4
              have e156 : (H150.1 361 4) = (H140.1 361 4) := hw152.2 _ _ (fun q => absurd q.1 (by decide))
              have e157 : (H140.1 361 4) = (H129.1 361 4) := hw142.2 _ _ (fun q => by have h9 := (iEf k137); rw [← q.1] at h9; exact absurd h9 (by decide))
              exact ⟨_, rfl, (by omega), hI151, hf154⟩
            · refine k_run 0 (pc' := 203) (l' := [(0, .inr (.inr 361)), (1, .inl x1), (2, .inl x2), (3, .inl x3), (4, .inl x4)]) (st' := []) rfl ?_
              refine k_run 1 (pc' := 204) (l' := [(0, .inr (.inr 361)), (1, .inl x1), (2, .inl x2), (3, .inl x3), (4, .inl x4)]) (st' := [.inl 0]) rfl ?_
              refine h_retz (x := 0) rfl rfl (by decide) ?_
              have g158 : -2147483648 ≤ (H129.1 361 4) ∧ (H129.1 361 4) ≤ 2147483647 := kn (x := kx_361) hI130 rfl 4
              exact ⟨_, rfl, (by omega), hI130, hf133⟩
          · refine k_run 0 (pc' := 169) (l' := [(0, .inr (.inr 361)), (1, .inl x1), (2, .inl x2), (3, .inl x3), (4, .inl x4)]) (st' := []) rfl ?_
            refine k_run 1 (pc' := 170) (l' := [(0, .inr (.inr 361)), (1, .inl x1), (2, .inl x2), (3, .inl x3), (4, .inl x4)]) (st' := [.inl 0]) rfl ?_
            refine h_retz (x := 0) rfl rfl (by decide) ?_
            have g159 : -2147483648 ≤ (H106.1 361 4) ∧ (H106.1 361 4) ≤ 2147483647 := kn (x := kx_361) hI107 rfl 4
            exact ⟨_, rfl, (by omega), hI107, hf110⟩
      · refine k_run 0 (pc' := 131) (l' := [(0, .inr (.inr 361)), (1, .inl x1), (2, .inl x2), (3, .inl x3), (4, .inl x4)]) (st' := []) rfl ?_
        refine k_run 6 (pc' := 142) (l' := [(0, .inr (.inr 361)), (1, .inl x1), (2, .inl x2), (3, .inl x3), (4, .inl x4)]) (st' := [.inl x4, .inl x1, .inr (.inr 18), .inr (.inr 361)]) rfl ?_
        refine h_cv (i := 160) (j := 45) (b := 18) (M' := mt_45) (xs := [.inl x4, .inl x1]) (rest := [.inr (.inr 361)]) rfl rfl rfl rfl (zs_K (x := kx_18) rfl (by decide)) rfl (Nat.le_of_ble_eq_true rfl) (Nat.le_of_ble_eq_true rfl) (by omega) (k_Symbols_argument_18 (by omega) hI1 (by omega) (by omega) (by omega)) ?_
        rintro _ _ ⟨z164, rfl, g160, rfl⟩
        refine k_run 0 (pc' := 145) (l' := [(0, .inr (.inr 361)), (1, .inl x1), (2, .inl x2), (3, .inl x3), (4, .inl x4)]) (st' := [.inl z164, .inr (.inr 361)]) rfl ?_
        refine k_run 1 (pc' := 146) (l' := [(0, .inr (.inr 361)), (1, .inl x1), (2, .inl x2), (3, .inl x3), (4, .inl x4)]) (st' := [.inl 0, .inl z164, .inr (.inr 361)]) rfl ?_
        refine h_cv (i := 164) (j := 70) (b := 361) (M' := mt_70) (xs := [.inl 0, .inl z164]) (rest := []) rfl rfl rfl rfl (zs_K (x := kx_361) rfl (by decide)) rfl (Nat.le_of_ble_eq_true rfl) (Nat.le_of_ble_eq_true rfl) (by omega) (f_Reader_readPattern (by omega) hI1 (by omega) (by decide) (by omega)) ?_
        rintro _ H166 ⟨z169, rfl, g165, hI167, hq168⟩
        have hf170 : fq [(7, 5), (361, 3), (361, 4), (361, 5), (361, 6), (361, 7), (361, 8), (361, 9)] [362] true H H166 := fq_t hf1 hq168 rfl rfl rfl
        refine k_run 0 (pc' := 149) (l' := [(0, .inr (.inr 361)), (1, .inl x1), (2, .inl x2), (3, .inl x3), (4, .inl x4)]) (st' := [.inl z169]) rfl ?_
        refine k_run 3 (pc' := 121) (l' := [(0, .inr (.inr 361)), (1, .inl x1), (2, .inl x2), (3, .inl z169), (4, .inl (x4 + 1))]) (st' := []) rfl ?_
        have g171 : 0 ≤ (H166.1 7 5) ∧ (H166.1 7 5) ≤ 40 := kn (x := kx_7) hI167 rfl 5
        have e172 : (H166.1 7 5) = (H1.1 7 5) := (hq168.1 7 5 rfl (by decide) (by decide)).1
        have g173 : -2147483648 ≤ (H166.1 361 4) ∧ (H166.1 361 4) ≤ 2147483647 := kn (x := kx_361) hI167 rfl 4
        exact ih H166 hI167 hf170 x1 x2 z169 (x4 + 1) (by omega) (by omega) (by omega) (by omega) (by omega) (by omega) (by omega) (by omega) (by omega) (by omega) (by omega)
set_option maxRecDepth 100000 in
theorem f_Reader_readRule {d : Nat} (hd : 41 ≤ d) {H : hp} (hI : Inv H)   : hG (zs zK) d mt_68 0 (zargs 0 [.inr (.inr 361)]) [] H (fun r9 H9 => ∃ z : Int, r9 = some (.inl z) ∧ ((0 ≤ z ∧ z ≤ 1) ∧ ((z = 0 ∨ H9.1 361 4 = H.1 361 4))) ∧ Inv H9 ∧ fq [(7, 5), (361, 3), (361, 4), (361, 5), (361, 6), (361, 7), (361, 8), (361, 9)] [362] true H H9) := by
  refine k_run 0 (pc' := 0) (l' := [(0, .inr (.inr 361))]) (st' := []) rfl ?_
  refine k_run 3 (pc' := 7) (l' := [(0, .inr (.inr 361))]) (st' := [.inl (H.1 7 5)]) rfl ?_
  have g1 : 0 ≤ (H.1 7 5) ∧ (H.1 7 5) ≤ 40 := kn (x := kx_7) hI rfl 5
  refine k_run 1 (pc' := 9) (l' := [(0, .inr (.inr 361))]) (st' := [.inl 40, .inl (H.1 7 5)]) rfl ?_
  refine h_ilt (off := 9) (t := 18) rfl rfl (by omega) (by decide) (fun c2 => ?_) (fun c2 => ?_)
  · refine k_run 0 (pc' := 18) (l' := [(0, .inr (.inr 361))]) (st' := []) rfl ?_
    refine k_run 3 (pc' := 23) (l' := [(0, .inr (.inr 361))]) (st' := [.inl (H.1 361 3), .inr (.inr 361)]) rfl ?_
    have g3 : -2147483648 ≤ (H.1 361 3) ∧ (H.1 361 3) ≤ 2147483647 := kn (x := kx_361) hI rfl 3
    refine k_run 2 (pc' := 25) (l' := [(0, .inr (.inr 361))]) (st' := [.inl ((H.1 361 3) + 1), .inr (.inr 361)]) rfl ?_
    refine k_putw (a := 361) (x := kx_361) rfl rfl rfl (by decide) (by decide) rfl rfl rfl rfl hI rfl (fun H4 hI5 hw6 => ?_)
    have hf8 : fq [(7, 5), (361, 3), (361, 4), (361, 5), (361, 6), (361, 7), (361, 8), (361, 9)] [362] true H H4 := fq_w (fq_rf _ _ _ _) hw6 (fpo (by decide) rfl)
    refine k_run 0 (pc' := 28) (l' := [(0, .inr (.inr 361))]) (st' := []) rfl ?_
    refine k_run 1 (pc' := 29) (l' := [(0, .inr (.inr 361))]) (st' := [.inr (.inr 361)]) rfl ?_
    refine h_cv (i := 72) (j := 83) (b := 361) (M' := mt_83) (xs := []) (rest := []) rfl rfl rfl rfl (zs_K (x := kx_361) rfl (by decide)) rfl (Nat.le_of_ble_eq_true rfl) (Nat.le_of_ble_eq_true rfl) (by omega) (f_Reader_token (by omega) hI5 ) ?_
    rintro _ _ ⟨z13, rfl, g9, rfl⟩
    refine k_run 0 (pc' := 32) (l' := [(0, .inr (.inr 361))]) (st' := [.inl z13]) rfl ?_
    refine k_run 1 (pc' := 33) (l' := [(0, .inr (.inr 361))]) (st' := [.inl 2, .inl z13]) rfl ?_
    refine h_ieq (off := 8) (t := 41) rfl rfl (by omega) (by decide) (fun c14 => ?_) (fun c14 => ?_)
    · refine k_run 0 (pc' := 41) (l' := [(0, .inr (.inr 361))]) (st' := []) rfl ?_
      refine k_run 4 (pc' := 49) (l' := [(0, .inr (.inr 361))]) (st' := [.inr (.inr 361), .inr (.inr 18)]) rfl ?_
      refine h_cv (i := 120) (j := 84) (b := 361) (M' := mt_84) (xs := []) (rest := [.inr (.inr 18)]) rfl rfl rfl rfl (zs_K (x := kx_361) rfl (by decide)) rfl (Nat.le_of_ble_eq_true rfl) (Nat.le_of_ble_eq_true rfl) (by omega) (f_Reader_name (by omega) hI5 ) ?_
      rintro _ _ ⟨z19, rfl, g15, rfl⟩
      refine k_run 0 (pc' := 52) (l' := [(0, .inr (.inr 361))]) (st' := [.inr (.inl z19), .inr (.inr 18)]) rfl ?_
      have g20 : 0 ≤ (H4.1 18 4) ∧ (H4.1 18 4) ≤ 16 := kn (x := kx_18) hI5 rfl 4
      have e21 : (H4.1 18 4) = (H.1 18 4) := hw6.2 _ _ (fun q => absurd q.1 (by decide))
      refine h_cv (i := 124) (j := 41) (b := 18) (M' := mt_41) (xs := [.inr (.inl z19)]) (rest := []) rfl rfl rfl rfl (zs_K (x := kx_18) rfl (by decide)) rfl (Nat.le_of_ble_eq_true rfl) (Nat.le_of_ble_eq_true rfl) (by omega) (k_Symbols_find_18 (by omega) hI5 ) ?_
      rintro _ _ ⟨z26, rfl, g22, rfl⟩
      refine k_run 0 (pc' := 55) (l' := [(0, .inr (.inr 361))]) (st' := [.inl z26]) rfl ?_
      refine k_run 2 (pc' := 57) (l' := [(0, .inr (.inr 361)), (1, .inl z26)]) (st' := [.inl z26]) rfl ?_
      refine h_zge (off := 9) (t := 66) rfl rfl (by omega) (fun c27 => ?_) (fun c27 => ?_)
      · refine k_run 0 (pc' := 66) (l' := [(0, .inr (.inr 361)), (1, .inl z26)]) (st' := []) rfl ?_
        refine k_run 7 (pc' := 81) (l' := [(0, .inr (.inr 361)), (1, .inl z26)]) (st' := [.inl (H4.1 7 5), .inr (.inr 23), .inr (.inr 361)]) rfl ?_
        have g28 : 0 ≤ (H4.1 7 5) ∧ (H4.1 7 5) ≤ 40 := kn (x := kx_7) hI5 rfl 5
        have e29 : (H4.1 7 5) = (H.1 7 5) := hw6.2 _ _ (fun q => absurd q.1 (by decide))
        refine k_ald (c := 23) (j := ((H4.1 7 5)).toNat) (i := (H4.1 7 5)) (x := kx_23) rfl rfl (by decide) rfl (by decide) (by omega) (by omega) hI5 (fun h30 => ?_)
        obtain ⟨t31, et33⟩ : ∃ t9, t9 = H4.2 23 ((H4.1 7 5)).toNat := ⟨_, rfl⟩
        rw [← et33] at h30 ⊢
        have k32 : isE t31 := h30
        refine k_run 0 (pc' := 82) (l' := [(0, .inr (.inr 361)), (1, .inl z26)]) (st' := [.inr (.inr t31), .inr (.inr 361)]) rfl ?_
        refine k_run 1 (pc' := 83) (l' := [(0, .inr (.inr 361)), (1, .inl z26)]) (st' := [.inl 0, .inr (.inr t31), .inr (.inr 361)]) rfl ?_
        have g34 : -2147483648 ≤ (H4.1 361 4) ∧ (H4.1 361 4) ≤ 2147483647 := kn (x := kx_361) hI5 rfl 4
        have e35 : (H4.1 361 4) = (H.1 361 4) := hw6.2 _ _ (fun q => absurd q.2 (by decide))
        refine h_cv (i := 141) (j := 80) (b := 361) (M' := mt_80) (xs := [.inl 0, .inr (.inr t31)]) (rest := []) rfl rfl rfl rfl (zs_K (x := kx_361) rfl (by decide)) rfl (Nat.le_of_ble_eq_true rfl) (Nat.le_of_ble_eq_true rfl) (by omega) (f_Reader_startEquation (by omega) hI5 k32 (by decide)) ?_
        rintro _ H37 ⟨rfl, g36, hI38, hq39⟩
        have hf40 : fq [(7, 5), (361, 3), (361, 4), (361, 5), (361, 6), (361, 7), (361, 8), (361, 9)] [362] true H H37 := fq_t hf8 hq39 rfl rfl rfl
        refine k_run 0 (pc' := 86) (l' := [(0, .inr (.inr 361)), (1, .inl z26)]) (st' := []) rfl ?_
        refine k_run 1 (pc' := 87) (l' := [(0, .inr (.inr 361)), (1, .inl z26)]) (st' := [.inr (.inr 361)]) rfl ?_
        refine k_getr (a := 361) (x := kx_361) rfl rfl rfl (by decide) rfl rfl rfl hI38 (fun h41 => ?_)
        obtain ⟨t42, et44⟩ : ∃ t9, t9 = H37.2 361 7 := ⟨_, rfl⟩
        rw [← et44] at h41 ⊢
        have k43 : isE t42 := h41
        refine k_run 0 (pc' := 90) (l' := [(0, .inr (.inr 361)), (1, .inl z26)]) (st' := [.inr (.inr t42)]) rfl ?_
        refine k_run 1 (pc' := 91) (l' := [(0, .inr (.inr 361)), (1, .inl z26)]) (st' := [.inl z26, .inr (.inr t42)]) rfl ?_
        refine k_putw (a := t42) (x := (kEo t42)) rfl rfl k43.1 (iE0 k43) k43.2.2.2.2.1 rfl rfl rfl rfl hI38 rfl (fun H45 hI46 hw47 => ?_)
        have hf49 : fq [(7, 5), (361, 3), (361, 4), (361, 5), (361, 6), (361, 7), (361, 8), (361, 9)] [362] true H H45 := fq_w hf40 hw47 (fpg (iEf k43))
        refine k_run 0 (pc' := 94) (l' := [(0, .inr (.inr 361)), (1, .inl z26)]) (st' := []) rfl ?_
        refine k_run 5 (pc' := 105) (l' := [(0, .inr (.inr 361)), (1, .inl z26)]) (st' := [.inl z26, .inr (.inr 21)]) rfl ?_
        refine k_ild (c := 21) (j := (z26).toNat) (i := z26) (x := kx_21) rfl rfl (by decide) rfl (by decide) (by omega) (by omega) ?_
        have g50 : 0 ≤ (H45.1 21 (z26).toNat) ∧ (H45.1 21 (z26).toNat) ≤ 4 := kn (x := kx_21) hI46 rfl (z26).toNat
        have e51 : (H45.1 21 (z26).toNat) = (H37.1 21 (z26).toNat) := hw47.2 _ _ (fun q => by have h9 := (iEf k43); rw [← q.1] at h9; exact absurd h9 (by decide))
        have e52 : (H37.1 21 (z26).toNat) = (H4.1 21 (z26).toNat) := (hq39.1 21 (z26).toNat rfl (by decide) (fun q => by simp at q)).1
        have e53 : (H4.1 21 (z26).toNat) = (H.1 21 (z26).toNat) := hw6.2 _ _ (fun q => absurd q.1 (by decide))
        refine k_run 0 (pc' := 106) (l' := [(0, .inr (.inr 361)), (1, .inl z26)]) (st' := [.inl (H45.1 21 (z26).toNat)]) rfl ?_
        refine k_run 5 (pc' := 111) (l' := [(0, .inr (.inr 361)), (1, .inl z26), (2, .inl (H45.1 21 (z26).toNat))]) (st' := [.inl (H45.1 21 (z26).toNat), .inl z26, .inl 2, .inr (.inr 361)]) rfl ?_
        refine h_cs (i := 153) (j := 48) (M' := mt_48) (xs := [.inl (H45.1 21 (z26).toNat), .inl z26, .inl 2]) (rest := [.inr (.inr 361)]) rfl rfl rfl rfl rfl (Nat.le_of_ble_eq_true rfl) (Nat.le_of_ble_eq_true rfl) (by omega) (k_Term_codeOf (by omega)  (by decide) (by omega) (by omega)) ?_
        rintro _ _ ⟨z58, rfl, g54, rfl⟩
        refine k_run 0 (pc' := 114) (l' := [(0, .inr (.inr 361)), (1, .inl z26), (2, .inl (H45.1 21 (z26).toNat))]) (st' := [.inl z58, .inr (.inr 361)]) rfl ?_
        have g59 : -2147483648 ≤ (H45.1 361 4) ∧ (H45.1 361 4) ≤ 2147483647 := kn (x := kx_361) hI46 rfl 4
        have e60 : (H45.1 361 4) = (H37.1 361 4) := hw47.2 _ _ (fun q => by have h9 := (iEf k43); rw [← q.1] at h9; exact absurd h9 (by decide))
        have e61 : (H37.1 361 4) = (H4.1 361 4) := (hq39.1 361 4 rfl (by decide) (by decide)).1
        refine h_cv (i := 157) (j := 77) (b := 361) (M' := mt_77) (xs := [.inl z58]) (rest := []) rfl rfl rfl rfl (zs_K (x := kx_361) rfl (by decide)) rfl (Nat.le_of_ble_eq_true rfl) (Nat.le_of_ble_eq_true rfl) (by omega) (f_Reader_addName (by omega) hI46 (by omega)) ?_
        rintro _ H63 ⟨z66, rfl, g62, hI64, hq65⟩
        have hf67 : fq [(7, 5), (361, 3), (361, 4), (361, 5), (361, 6), (361, 7), (361, 8), (361, 9)] [362] true H H63 := fq_t hf49 hq65 rfl rfl rfl
        refine k_run 0 (pc' := 117) (l' := [(0, .inr (.inr 361)), (1, .inl z26), (2, .inl (H45.1 21 (z26).toNat))]) (st' := [.inl z66]) rfl ?_
        refine k_run 3 (pc' := 121) (l' := [(0, .inr (.inr 361)), (1, .inl z26), (2, .inl (H45.1 21 (z26).toNat)), (3, .inl z66), (4, .inl 0)]) (st' := []) rfl ?_
        have g68 : 0 ≤ (H63.1 7 5) ∧ (H63.1 7 5) ≤ 40 := kn (x := kx_7) hI64 rfl 5
        have e69 : (H63.1 7 5) = (H45.1 7 5) := (hq65.1 7 5 rfl (by decide) (by decide)).1
        have e70 : (H45.1 7 5) = (H37.1 7 5) := hw47.2 _ _ (fun q => by have h9 := (iEf k43); rw [← q.1] at h9; exact absurd h9 (by decide))
        have e71 : (H37.1 7 5) = (H4.1 7 5) := (hq39.1 7 5 rfl (by decide) (by decide)).1
        have g72 : -2147483648 ≤ (H63.1 361 4) ∧ (H63.1 361 4) ≤ 2147483647 := kn (x := kx_361) hI64 rfl 4
        exact (f_Reader_readRule_cut hd hI  _) H63 hI64 hf67 z26 (H45.1 21 (z26).toNat) z66 (0 : Int) (by omega) (by omega) (by omega) (by decide) (by omega) (by omega) (by omega) (by omega) (by omega) (by omega) (Nat.lt_succ_self _)
      · refine k_run 0 (pc' := 60) (l' := [(0, .inr (.inr 361)), (1, .inl z26)]) (st' := []) rfl ?_
        refine k_run 2 (pc' := 62) (l' := [(0, .inr (.inr 361)), (1, .inl z26)]) (st' := [.inl 3, .inr (.inr 361)]) rfl ?_
        have g73 : -2147483648 ≤ (H4.1 361 4) ∧ (H4.1 361 4) ≤ 2147483647 := kn (x := kx_361) hI5 rfl 4
        have e74 : (H4.1 361 4) = (H.1 361 4) := hw6.2 _ _ (fun q => absurd q.2 (by decide))
        refine h_cv (i := 128) (j := 86) (b := 361) (M' := mt_86) (xs := [.inl 3]) (rest := []) rfl rfl rfl rfl (zs_K (x := kx_361) rfl (by decide)) rfl (Nat.le_of_ble_eq_true rfl) (Nat.le_of_ble_eq_true rfl) (by omega) (f_Reader_fails (by omega) hI5 (by decide)) ?_
        rintro _ H76 ⟨z79, rfl, g75, hI77, hq78⟩
        have hf80 : fq [(7, 5), (361, 3), (361, 4), (361, 5), (361, 6), (361, 7), (361, 8), (361, 9)] [362] true H H76 := fq_t hf8 hq78 rfl rfl rfl
        refine k_run 0 (pc' := 65) (l' := [(0, .inr (.inr 361)), (1, .inl z26)]) (st' := [.inl z79]) rfl ?_
        refine h_retz (x := z79) rfl rfl (by omega) ?_
        have g81 : -2147483648 ≤ (H76.1 361 4) ∧ (H76.1 361 4) ≤ 2147483647 := kn (x := kx_361) hI77 rfl 4
        exact ⟨_, rfl, (by omega), hI77, hf80⟩
    · refine k_run 0 (pc' := 36) (l' := [(0, .inr (.inr 361))]) (st' := []) rfl ?_
      refine k_run 1 (pc' := 37) (l' := [(0, .inr (.inr 361))]) (st' := [.inr (.inr 361)]) rfl ?_
      have g82 : -2147483648 ≤ (H4.1 361 4) ∧ (H4.1 361 4) ≤ 2147483647 := kn (x := kx_361) hI5 rfl 4
      have e83 : (H4.1 361 4) = (H.1 361 4) := hw6.2 _ _ (fun q => absurd q.2 (by decide))
      refine h_cv (i := 89) (j := 85) (b := 361) (M' := mt_85) (xs := []) (rest := []) rfl rfl rfl rfl (zs_K (x := kx_361) rfl (by decide)) rfl (Nat.le_of_ble_eq_true rfl) (Nat.le_of_ble_eq_true rfl) (by omega) (f_Reader_misplaced (by omega) hI5 ) ?_
      rintro _ H85 ⟨z88, rfl, g84, hI86, hq87⟩
      have hf89 : fq [(7, 5), (361, 3), (361, 4), (361, 5), (361, 6), (361, 7), (361, 8), (361, 9)] [362] true H H85 := fq_t hf8 hq87 rfl rfl rfl
      refine k_run 0 (pc' := 40) (l' := [(0, .inr (.inr 361))]) (st' := [.inl z88]) rfl ?_
      refine h_retz (x := z88) rfl rfl (by omega) ?_
      have g90 : -2147483648 ≤ (H85.1 361 4) ∧ (H85.1 361 4) ≤ 2147483647 := kn (x := kx_361) hI86 rfl 4
      exact ⟨_, rfl, (by omega), hI86, hf89⟩
  · refine k_run 0 (pc' := 12) (l' := [(0, .inr (.inr 361))]) (st' := []) rfl ?_
    refine k_run 2 (pc' := 14) (l' := [(0, .inr (.inr 361))]) (st' := [.inl 5, .inr (.inr 361)]) rfl ?_
    have g91 : -2147483648 ≤ (H.1 361 4) ∧ (H.1 361 4) ≤ 2147483647 := kn (x := kx_361) hI rfl 4
    refine h_cv (i := 128) (j := 86) (b := 361) (M' := mt_86) (xs := [.inl 5]) (rest := []) rfl rfl rfl rfl (zs_K (x := kx_361) rfl (by decide)) rfl (Nat.le_of_ble_eq_true rfl) (Nat.le_of_ble_eq_true rfl) (by omega) (f_Reader_fails (by omega) hI (by decide)) ?_
    rintro _ H93 ⟨z96, rfl, g92, hI94, hq95⟩
    have hf97 : fq [(7, 5), (361, 3), (361, 4), (361, 5), (361, 6), (361, 7), (361, 8), (361, 9)] [362] true H H93 := fq_t (fq_rf _ _ _ _) hq95 rfl rfl rfl
    refine k_run 0 (pc' := 17) (l' := [(0, .inr (.inr 361))]) (st' := [.inl z96]) rfl ?_
    refine h_retz (x := z96) rfl rfl (by omega) ?_
    have g98 : -2147483648 ≤ (H93.1 361 4) ∧ (H93.1 361 4) ≤ 2147483647 := kn (x := kx_361) hI94 rfl 4
    exact ⟨_, rfl, (by omega), hI94, hf97⟩

/-! Reader.readLaw -/
set_option maxRecDepth 100000 in
theorem f_Reader_readLaw {d : Nat} (hd : 41 ≤ d) {H : hp} (hI : Inv H)   : hG (zs zK) d mt_69 0 (zargs 0 [.inr (.inr 361)]) [] H (fun r9 H9 => ∃ z : Int, r9 = some (.inl z) ∧ ((0 ≤ z ∧ z ≤ 1) ∧ (((z = 0 ∨ H9.1 361 4 = H.1 361 4)) ∧ (z = 0 ∨ H9.1 7 6 < 16))) ∧ Inv H9 ∧ fq [(361, 3), (361, 4), (361, 5), (361, 6), (361, 7), (361, 8), (361, 9)] [362] true H H9) := by
  refine k_run 0 (pc' := 0) (l' := [(0, .inr (.inr 361))]) (st' := []) rfl ?_
  refine k_run 3 (pc' := 5) (l' := [(0, .inr (.inr 361))]) (st' := [.inl (H.1 361 3), .inr (.inr 361)]) rfl ?_
  have g1 : -2147483648 ≤ (H.1 361 3) ∧ (H.1 361 3) ≤ 2147483647 := kn (x := kx_361) hI rfl 3
  refine k_run 2 (pc' := 7) (l' := [(0, .inr (.inr 361))]) (st' := [.inl ((H.1 361 3) + 1), .inr (.inr 361)]) rfl ?_
  refine k_putw (a := 361) (x := kx_361) rfl rfl rfl (by decide) (by decide) rfl rfl rfl rfl hI rfl (fun H2 hI3 hw4 => ?_)
  have hf6 : fq [(361, 3), (361, 4), (361, 5), (361, 6), (361, 7), (361, 8), (361, 9)] [362] true H H2 := fq_w (fq_rf _ _ _ _) hw4 (fpo (by decide) rfl)
  refine k_run 0 (pc' := 10) (l' := [(0, .inr (.inr 361))]) (st' := []) rfl ?_
  refine k_run 1 (pc' := 11) (l' := [(0, .inr (.inr 361))]) (st' := [.inr (.inr 361)]) rfl ?_
  refine h_cv (i := 72) (j := 83) (b := 361) (M' := mt_83) (xs := []) (rest := []) rfl rfl rfl rfl (zs_K (x := kx_361) rfl (by decide)) rfl (Nat.le_of_ble_eq_true rfl) (Nat.le_of_ble_eq_true rfl) (by omega) (f_Reader_token (by omega) hI3 ) ?_
  rintro _ _ ⟨z11, rfl, g7, rfl⟩
  refine k_run 0 (pc' := 14) (l' := [(0, .inr (.inr 361))]) (st' := [.inl z11]) rfl ?_
  refine k_run 1 (pc' := 15) (l' := [(0, .inr (.inr 361))]) (st' := [.inl 2, .inl z11]) rfl ?_
  refine h_ieq (off := 8) (t := 23) rfl rfl (by omega) (by decide) (fun c12 => ?_) (fun c12 => ?_)
  · refine k_run 0 (pc' := 23) (l' := [(0, .inr (.inr 361))]) (st' := []) rfl ?_
    refine k_run 3 (pc' := 28) (l' := [(0, .inr (.inr 361))]) (st' := [.inr (.inr 361), .inr (.inr 7)]) rfl ?_
    refine h_cv (i := 120) (j := 84) (b := 361) (M' := mt_84) (xs := []) (rest := [.inr (.inr 7)]) rfl rfl rfl rfl (zs_K (x := kx_361) rfl (by decide)) rfl (Nat.le_of_ble_eq_true rfl) (Nat.le_of_ble_eq_true rfl) (by omega) (f_Reader_name (by omega) hI3 ) ?_
    rintro _ _ ⟨z17, rfl, g13, rfl⟩
    refine k_run 0 (pc' := 31) (l' := [(0, .inr (.inr 361))]) (st' := [.inr (.inl z17), .inr (.inr 7)]) rfl ?_
    refine h_cv (i := 175) (j := 36) (b := 7) (M' := mt_36) (xs := [.inr (.inl z17)]) (rest := []) rfl rfl rfl rfl (zs_K (x := kx_7) rfl (by decide)) rfl (Nat.le_of_ble_eq_true rfl) (Nat.le_of_ble_eq_true rfl) (by omega) (k_Program_hasLawNamed (by omega) hI3 ) ?_
    rintro _ _ ⟨z22, rfl, g18, rfl⟩
    refine k_run 0 (pc' := 34) (l' := [(0, .inr (.inr 361))]) (st' := [.inl z22]) rfl ?_
    refine h_zeq (off := 9) (t := 43) rfl rfl (by omega) (fun c23 => ?_) (fun c23 => ?_)
    · refine k_run 0 (pc' := 43) (l' := [(0, .inr (.inr 361))]) (st' := []) rfl ?_
      refine k_run 3 (pc' := 50) (l' := [(0, .inr (.inr 361))]) (st' := [.inl (H2.1 7 6)]) rfl ?_
      have g24 : 0 ≤ (H2.1 7 6) ∧ (H2.1 7 6) ≤ 16 := kn (x := kx_7) hI3 rfl 6
      have e25 : (H2.1 7 6) = (H.1 7 6) := hw4.2 _ _ (fun q => absurd q.1 (by decide))
      refine k_run 1 (pc' := 52) (l' := [(0, .inr (.inr 361))]) (st' := [.inl 16, .inl (H2.1 7 6)]) rfl ?_
      refine h_ilt (off := 9) (t := 61) rfl rfl (by omega) (by decide) (fun c26 => ?_) (fun c26 => ?_)
      · refine k_run 0 (pc' := 61) (l' := [(0, .inr (.inr 361))]) (st' := []) rfl ?_
        refine k_run 7 (pc' := 76) (l' := [(0, .inr (.inr 361))]) (st' := [.inl (H2.1 7 6), .inr (.inr 24), .inr (.inr 361)]) rfl ?_
        refine k_ald (c := 24) (j := ((H2.1 7 6)).toNat) (i := (H2.1 7 6)) (x := kx_24) rfl rfl (by decide) rfl (by decide) (by omega) (by omega) hI3 (fun h27 => ?_)
        obtain ⟨t28, et30⟩ : ∃ t9, t9 = H2.2 24 ((H2.1 7 6)).toNat := ⟨_, rfl⟩
        rw [← et30] at h27 ⊢
        have k29 : isE t28 := h27
        refine k_run 0 (pc' := 77) (l' := [(0, .inr (.inr 361))]) (st' := [.inr (.inr t28), .inr (.inr 361)]) rfl ?_
        refine k_run 1 (pc' := 78) (l' := [(0, .inr (.inr 361))]) (st' := [.inl 1, .inr (.inr t28), .inr (.inr 361)]) rfl ?_
        have g31 : -2147483648 ≤ (H2.1 361 4) ∧ (H2.1 361 4) ≤ 2147483647 := kn (x := kx_361) hI3 rfl 4
        have e32 : (H2.1 361 4) = (H.1 361 4) := hw4.2 _ _ (fun q => absurd q.2 (by decide))
        refine h_cv (i := 141) (j := 80) (b := 361) (M' := mt_80) (xs := [.inl 1, .inr (.inr t28)]) (rest := []) rfl rfl rfl rfl (zs_K (x := kx_361) rfl (by decide)) rfl (Nat.le_of_ble_eq_true rfl) (Nat.le_of_ble_eq_true rfl) (by omega) (f_Reader_startEquation (by omega) hI3 k29 (by decide)) ?_
        rintro _ H34 ⟨rfl, g33, hI35, hq36⟩
        have hf37 : fq [(361, 3), (361, 4), (361, 5), (361, 6), (361, 7), (361, 8), (361, 9)] [362] true H H34 := fq_t hf6 hq36 rfl rfl rfl
        refine k_run 0 (pc' := 81) (l' := [(0, .inr (.inr 361))]) (st' := []) rfl ?_
        refine k_run 1 (pc' := 82) (l' := [(0, .inr (.inr 361))]) (st' := [.inr (.inr 361)]) rfl ?_
        refine k_getr (a := 361) (x := kx_361) rfl rfl rfl (by decide) rfl rfl rfl hI35 (fun h38 => ?_)
        obtain ⟨t39, et41⟩ : ∃ t9, t9 = H34.2 361 7 := ⟨_, rfl⟩
        rw [← et41] at h38 ⊢
        have k40 : isE t39 := h38
        refine k_run 0 (pc' := 85) (l' := [(0, .inr (.inr 361))]) (st' := [.inr (.inr t39)]) rfl ?_
        refine k_run 1 (pc' := 86) (l' := [(0, .inr (.inr 361))]) (st' := [.inr (.inr 361), .inr (.inr t39)]) rfl ?_
        refine h_cv (i := 120) (j := 84) (b := 361) (M' := mt_84) (xs := []) (rest := [.inr (.inr t39)]) rfl rfl rfl rfl (zs_K (x := kx_361) rfl (by decide)) rfl (Nat.le_of_ble_eq_true rfl) (Nat.le_of_ble_eq_true rfl) (by omega) (f_Reader_name (by omega) hI35 ) ?_
        rintro _ _ ⟨z46, rfl, g42, rfl⟩
        refine k_run 0 (pc' := 89) (l' := [(0, .inr (.inr 361))]) (st' := [.inr (.inl z46), .inr (.inr t39)]) rfl ?_
        refine k_putl (a := t39) (x := (kEo t39)) rfl rfl k40.1 (iE0 k40) k40.2.2.2.2.1 rfl rfl rfl rfl hI35 rfl (fun H47 hI48 hw49 => ?_)
        have hf51 : fq [(361, 3), (361, 4), (361, 5), (361, 6), (361, 7), (361, 8), (361, 9)] [362] true H H47 := fq_w hf37 hw49 (fpg (iEf k40))
        refine k_run 0 (pc' := 92) (l' := [(0, .inr (.inr 361))]) (st' := []) rfl ?_
        refine k_run 1 (pc' := 93) (l' := [(0, .inr (.inr 361))]) (st' := [.inr (.inr 361)]) rfl ?_
        refine k_getr (a := 361) (x := kx_361) rfl rfl rfl (by decide) rfl rfl rfl hI48 (fun h52 => ?_)
        obtain ⟨t53, et55⟩ : ∃ t9, t9 = H47.2 361 7 := ⟨_, rfl⟩
        rw [← et55] at h52 ⊢
        have k54 : isE t53 := h52
        refine k_run 0 (pc' := 96) (l' := [(0, .inr (.inr 361))]) (st' := [.inr (.inr t53)]) rfl ?_
        refine k_run 1 (pc' := 97) (l' := [(0, .inr (.inr 361))]) (st' := [.inl 0, .inr (.inr t53)]) rfl ?_
        refine k_putw (a := t53) (x := (kEo t53)) rfl rfl k54.1 (iE0 k54) k54.2.2.2.2.1 rfl rfl rfl rfl hI48 rfl (fun H56 hI57 hw58 => ?_)
        have hf60 : fq [(361, 3), (361, 4), (361, 5), (361, 6), (361, 7), (361, 8), (361, 9)] [362] true H H56 := fq_w hf51 hw58 (fpg (iEf k54))
        refine k_run 0 (pc' := 100) (l' := [(0, .inr (.inr 361))]) (st' := []) rfl ?_
        refine k_run 3 (pc' := 105) (l' := [(0, .inr (.inr 361))]) (st' := [.inl (H56.1 361 3), .inr (.inr 361)]) rfl ?_
        have g61 : -2147483648 ≤ (H56.1 361 3) ∧ (H56.1 361 3) ≤ 2147483647 := kn (x := kx_361) hI57 rfl 3
        have e62 : (H56.1 361 3) = (H47.1 361 3) := hw58.2 _ _ (fun q => by have h9 := (iEf k54); rw [← q.1] at h9; exact absurd h9 (by decide))
        have e63 : (H47.1 361 3) = (H34.1 361 3) := hw49.2 _ _ (fun q => by have h9 := (iEf k40); rw [← q.1] at h9; exact absurd h9 (by decide))
        have e64 : (H34.1 361 3) = (H2.1 361 3) := (hq36.1 361 3 rfl (by decide) (by decide)).1
        refine k_run 2 (pc' := 107) (l' := [(0, .inr (.inr 361))]) (st' := [.inl ((H56.1 361 3) + 1), .inr (.inr 361)]) rfl ?_
        refine k_putw (a := 361) (x := kx_361) rfl rfl rfl (by decide) (by decide) rfl rfl rfl rfl hI57 rfl (fun H65 hI66 hw67 => ?_)
        have hf69 : fq [(361, 3), (361, 4), (361, 5), (361, 6), (361, 7), (361, 8), (361, 9)] [362] true H H65 := fq_w hf60 hw67 (fpo (by decide) rfl)
        refine k_run 0 (pc' := 110) (l' := [(0, .inr (.inr 361))]) (st' := []) rfl ?_
        refine k_run 2 (pc' := 113) (l' := [(0, .inr (.inr 361))]) (st' := [.inl 58, .inr (.inr 361)]) rfl ?_
        have g70 : -2147483648 ≤ (H65.1 361 4) ∧ (H65.1 361 4) ≤ 2147483647 := kn (x := kx_361) hI66 rfl 4
        have e71 : (H65.1 361 4) = (H56.1 361 4) := hw67.2 _ _ (fun q => absurd q.2 (by decide))
        have e72 : (H56.1 361 4) = (H47.1 361 4) := hw58.2 _ _ (fun q => by have h9 := (iEf k54); rw [← q.1] at h9; exact absurd h9 (by decide))
        have e73 : (H47.1 361 4) = (H34.1 361 4) := hw49.2 _ _ (fun q => by have h9 := (iEf k40); rw [← q.1] at h9; exact absurd h9 (by decide))
        have e74 : (H34.1 361 4) = (H2.1 361 4) := (hq36.1 361 4 rfl (by decide) (by decide)).1
        refine h_cv (i := 92) (j := 82) (b := 361) (M' := mt_82) (xs := [.inl 58]) (rest := []) rfl rfl rfl rfl (zs_K (x := kx_361) rfl (by decide)) rfl (Nat.le_of_ble_eq_true rfl) (Nat.le_of_ble_eq_true rfl) (by omega) (f_Reader_take (by omega) hI66 (by decide)) ?_
        rintro _ H76 ⟨z79, rfl, g75, hI77, hq78⟩
        have hf80 : fq [(361, 3), (361, 4), (361, 5), (361, 6), (361, 7), (361, 8), (361, 9)] [362] true H H76 := fq_t hf69 hq78 rfl rfl rfl
        refine k_run 0 (pc' := 116) (l' := [(0, .inr (.inr 361))]) (st' := [.inl z79]) rfl ?_
        refine h_zeq (off := 23) (t := 139) rfl rfl (by omega) (fun c81 => ?_) (fun c81 => ?_)
        · refine k_run 0 (pc' := 139) (l' := [(0, .inr (.inr 361))]) (st' := []) rfl ?_
          refine k_run 1 (pc' := 140) (l' := [(0, .inr (.inr 361))]) (st' := [.inl 0]) rfl ?_
          refine h_retz (x := 0) rfl rfl (by decide) ?_
          have g82 : 0 ≤ (H76.1 7 6) ∧ (H76.1 7 6) ≤ 16 := kn (x := kx_7) hI77 rfl 6
          have e83 : (H76.1 7 6) = (H65.1 7 6) := (hq78.1 7 6 rfl (by decide) (by decide)).1
          have e84 : (H65.1 7 6) = (H56.1 7 6) := hw67.2 _ _ (fun q => absurd q.1 (by decide))
          have e85 : (H56.1 7 6) = (H47.1 7 6) := hw58.2 _ _ (fun q => by have h9 := (iEf k54); rw [← q.1] at h9; exact absurd h9 (by decide))
          have e86 : (H47.1 7 6) = (H34.1 7 6) := hw49.2 _ _ (fun q => by have h9 := (iEf k40); rw [← q.1] at h9; exact absurd h9 (by decide))
          have e87 : (H34.1 7 6) = (H2.1 7 6) := (hq36.1 7 6 rfl (by decide) (by decide)).1
          have g88 : -2147483648 ≤ (H76.1 361 4) ∧ (H76.1 361 4) ≤ 2147483647 := kn (x := kx_361) hI77 rfl 4
          exact ⟨_, rfl, (by omega), hI77, hf80⟩
        · refine k_run 0 (pc' := 119) (l' := [(0, .inr (.inr 361))]) (st' := []) rfl ?_
          refine k_run 4 (pc' := 124) (l' := [(0, .inr (.inr 361))]) (st' := [.inl 0, .inl 0, .inl (-2), .inr (.inr 361)]) rfl ?_
          have g89 : -2147483648 ≤ (H76.1 361 4) ∧ (H76.1 361 4) ≤ 2147483647 := kn (x := kx_361) hI77 rfl 4
          refine h_cv (i := 109) (j := 73) (b := 361) (M' := mt_73) (xs := [.inl 0, .inl 0, .inl (-2)]) (rest := []) rfl rfl rfl rfl (zs_K (x := kx_361) rfl (by decide)) rfl (Nat.le_of_ble_eq_true rfl) (Nat.le_of_ble_eq_true rfl) (by omega) (f_Reader_readTerm (by omega) hI77 (by decide) (by decide) (by decide) (by omega)) ?_
          rintro _ H91 ⟨z94, rfl, g90, hI92, hq93⟩
          have hf95 : fq [(361, 3), (361, 4), (361, 5), (361, 6), (361, 7), (361, 8), (361, 9)] [362] true H H91 := fq_t hf80 hq93 rfl rfl rfl
          refine k_run 0 (pc' := 127) (l' := [(0, .inr (.inr 361))]) (st' := [.inl z94]) rfl ?_
          refine h_zeq (off := 12) (t := 139) rfl rfl (by omega) (fun c96 => ?_) (fun c96 => ?_)
          · refine k_run 0 (pc' := 139) (l' := [(0, .inr (.inr 361))]) (st' := []) rfl ?_
            refine k_run 1 (pc' := 140) (l' := [(0, .inr (.inr 361))]) (st' := [.inl 0]) rfl ?_
            refine h_retz (x := 0) rfl rfl (by decide) ?_
            have g97 : 0 ≤ (H91.1 7 6) ∧ (H91.1 7 6) ≤ 16 := kn (x := kx_7) hI92 rfl 6
            have e98 : (H91.1 7 6) = (H76.1 7 6) := (hq93.1 7 6 rfl (by decide) (by decide)).1
            have e99 : (H76.1 7 6) = (H65.1 7 6) := (hq78.1 7 6 rfl (by decide) (by decide)).1
            have e100 : (H65.1 7 6) = (H56.1 7 6) := hw67.2 _ _ (fun q => absurd q.1 (by decide))
            have e101 : (H56.1 7 6) = (H47.1 7 6) := hw58.2 _ _ (fun q => by have h9 := (iEf k54); rw [← q.1] at h9; exact absurd h9 (by decide))
            have e102 : (H47.1 7 6) = (H34.1 7 6) := hw49.2 _ _ (fun q => by have h9 := (iEf k40); rw [← q.1] at h9; exact absurd h9 (by decide))
            have e103 : (H34.1 7 6) = (H2.1 7 6) := (hq36.1 7 6 rfl (by decide) (by decide)).1
            have g104 : -2147483648 ≤ (H91.1 361 4) ∧ (H91.1 361 4) ≤ 2147483647 := kn (x := kx_361) hI92 rfl 4
            exact ⟨_, rfl, (by omega), hI92, hf95⟩
          · refine k_run 0 (pc' := 130) (l' := [(0, .inr (.inr 361))]) (st' := []) rfl ?_
            refine k_run 2 (pc' := 133) (l' := [(0, .inr (.inr 361))]) (st' := [.inl 61, .inr (.inr 361)]) rfl ?_
            have g105 : -2147483648 ≤ (H91.1 361 4) ∧ (H91.1 361 4) ≤ 2147483647 := kn (x := kx_361) hI92 rfl 4
            refine h_cv (i := 92) (j := 82) (b := 361) (M' := mt_82) (xs := [.inl 61]) (rest := []) rfl rfl rfl rfl (zs_K (x := kx_361) rfl (by decide)) rfl (Nat.le_of_ble_eq_true rfl) (Nat.le_of_ble_eq_true rfl) (by omega) (f_Reader_take (by omega) hI92 (by decide)) ?_
            rintro _ H107 ⟨z110, rfl, g106, hI108, hq109⟩
            have hf111 : fq [(361, 3), (361, 4), (361, 5), (361, 6), (361, 7), (361, 8), (361, 9)] [362] true H H107 := fq_t hf95 hq109 rfl rfl rfl
            refine k_run 0 (pc' := 136) (l' := [(0, .inr (.inr 361))]) (st' := [.inl z110]) rfl ?_
            refine h_zne (off := 5) (t := 141) rfl rfl (by omega) (fun c112 => ?_) (fun c112 => ?_)
            · refine k_run 0 (pc' := 141) (l' := [(0, .inr (.inr 361))]) (st' := []) rfl ?_
              refine k_run 3 (pc' := 146) (l' := [(0, .inr (.inr 361))]) (st' := [.inr (.inr 361), .inr (.inr 7)]) rfl ?_
              refine k_getr (a := 361) (x := kx_361) rfl rfl rfl (by decide) rfl rfl rfl hI108 (fun h113 => ?_)
              obtain ⟨t114, et116⟩ : ∃ t9, t9 = H107.2 361 7 := ⟨_, rfl⟩
              rw [← et116] at h113 ⊢
              have k115 : isE t114 := h113
              refine k_run 0 (pc' := 149) (l' := [(0, .inr (.inr 361))]) (st' := [.inr (.inr t114), .inr (.inr 7)]) rfl ?_
              refine k_get (a := t114) (x := (kEo t114)) (v := .inr (.inr (t114 + 1))) rfl rfl k115.1 (iE0 k115) rfl rfl rfl ?_
              refine k_run 0 (pc' := 152) (l' := [(0, .inr (.inr 361))]) (st' := [.inr (.inr (t114 + 1)), .inr (.inr 7)]) rfl ?_
              refine k_run 1 (pc' := 153) (l' := [(0, .inr (.inr 361))]) (st' := [.inl 0, .inr (.inr (t114 + 1)), .inr (.inr 7)]) rfl ?_
              refine h_cv (i := 188) (j := 51) (b := (t114 + 1)) (M' := mt_51) (xs := [.inl 0]) (rest := [.inr (.inr 7)]) rfl rfl rfl rfl (by rw [zs_K (iEl k115).1 (iT0 (iEl k115))]; rfl) rfl (Nat.le_of_ble_eq_true rfl) (Nat.le_of_ble_eq_true rfl) (by omega) (k_Term_codeAt (by omega) hI108 (iEl k115) (by decide)) ?_
              rintro _ _ ⟨z121, rfl, g117, rfl⟩
              refine k_run 0 (pc' := 156) (l' := [(0, .inr (.inr 361))]) (st' := [.inl z121, .inr (.inr 7)]) rfl ?_
              refine k_run 1 (pc' := 157) (l' := [(0, .inr (.inr 361))]) (st' := [.inr (.inr 361), .inl z121, .inr (.inr 7)]) rfl ?_
              refine k_getr (a := 361) (x := kx_361) rfl rfl rfl (by decide) rfl rfl rfl hI108 (fun h122 => ?_)
              rw [← et116]
              refine k_run 0 (pc' := 160) (l' := [(0, .inr (.inr 361))]) (st' := [.inr (.inr t114), .inl z121, .inr (.inr 7)]) rfl ?_
              refine k_get (a := t114) (x := (kEo t114)) (v := .inr (.inr (t114 + 5))) rfl rfl k115.1 (iE0 k115) rfl rfl rfl ?_
              refine k_run 0 (pc' := 163) (l' := [(0, .inr (.inr 361))]) (st' := [.inr (.inr (t114 + 5)), .inl z121, .inr (.inr 7)]) rfl ?_
              refine h_cv (i := 193) (j := 37) (b := 7) (M' := mt_37) (xs := [.inr (.inr (t114 + 5)), .inl z121]) (rest := []) rfl rfl rfl rfl (zs_K (x := kx_7) rfl (by decide)) rfl (Nat.le_of_ble_eq_true rfl) (Nat.le_of_ble_eq_true rfl) (by omega) (k_Program_typeOf (by omega) hI108 (by omega) (iEa k115)) ?_
              rintro _ _ ⟨z127, rfl, g123, rfl⟩
              refine k_run 0 (pc' := 166) (l' := [(0, .inr (.inr 361))]) (st' := [.inl z127]) rfl ?_
              refine k_run 3 (pc' := 169) (l' := [(0, .inr (.inr 361)), (1, .inl z127)]) (st' := [.inr (.inr 361), .inr (.inr 361)]) rfl ?_
              refine k_getr (a := 361) (x := kx_361) rfl rfl rfl (by decide) rfl rfl rfl hI108 (fun h128 => ?_)
              rw [← et116]
              refine k_run 0 (pc' := 172) (l' := [(0, .inr (.inr 361)), (1, .inl z127)]) (st' := [.inr (.inr t114), .inr (.inr 361)]) rfl ?_
              refine k_get (a := t114) (x := (kEo t114)) (v := .inr (.inr (t114 + 3))) rfl rfl k115.1 (iE0 k115) rfl rfl rfl ?_
              refine k_run 0 (pc' := 175) (l' := [(0, .inr (.inr 361)), (1, .inl z127)]) (st' := [.inr (.inr (t114 + 3)), .inr (.inr 361)]) rfl ?_
              have g129 : -2147483648 ≤ (H107.1 361 4) ∧ (H107.1 361 4) ≤ 2147483647 := kn (x := kx_361) hI108 rfl 4
              refine h_cv (i := 105) (j := 81) (b := 361) (M' := mt_81) (xs := [.inr (.inr (t114 + 3))]) (rest := []) rfl rfl rfl rfl (zs_K (x := kx_361) rfl (by decide)) rfl (Nat.le_of_ble_eq_true rfl) (Nat.le_of_ble_eq_true rfl) (by omega) (f_Reader_startTerm (by omega) hI108 (iEr k115)) ?_
              rintro _ H131 ⟨rfl, g130, hI132, hq133⟩
              have hf134 : fq [(361, 3), (361, 4), (361, 5), (361, 6), (361, 7), (361, 8), (361, 9)] [362] true H H131 := fq_t hf111 hq133 rfl rfl rfl
              refine k_run 0 (pc' := 178) (l' := [(0, .inr (.inr 361)), (1, .inl z127)]) (st' := []) rfl ?_
              refine k_run 4 (pc' := 182) (l' := [(0, .inr (.inr 361)), (1, .inl z127)]) (st' := [.inl 0, .inl 0, .inl z127, .inr (.inr 361)]) rfl ?_
              have g135 : -2147483648 ≤ (H131.1 361 4) ∧ (H131.1 361 4) ≤ 2147483647 := kn (x := kx_361) hI132 rfl 4
              have e136 : (H131.1 361 4) = (H107.1 361 4) := (hq133.1 361 4 rfl (by decide) (by decide)).1
              refine h_cv (i := 109) (j := 73) (b := 361) (M' := mt_73) (xs := [.inl 0, .inl 0, .inl z127]) (rest := []) rfl rfl rfl rfl (zs_K (x := kx_361) rfl (by decide)) rfl (Nat.le_of_ble_eq_true rfl) (Nat.le_of_ble_eq_true rfl) (by omega) (f_Reader_readTerm (by omega) hI132 (by omega) (by decide) (by decide) (by omega)) ?_
              rintro _ H138 ⟨z141, rfl, g137, hI139, hq140⟩
              have hf142 : fq [(361, 3), (361, 4), (361, 5), (361, 6), (361, 7), (361, 8), (361, 9)] [362] true H H138 := fq_t hf134 hq140 rfl rfl rfl
              refine k_run 0 (pc' := 185) (l' := [(0, .inr (.inr 361)), (1, .inl z127)]) (st' := [.inl z141]) rfl ?_
              refine h_zne (off := 5) (t := 190) rfl rfl (by omega) (fun c143 => ?_) (fun c143 => ?_)
              · refine k_run 0 (pc' := 190) (l' := [(0, .inr (.inr 361)), (1, .inl z127)]) (st' := []) rfl ?_
                refine k_run 1 (pc' := 191) (l' := [(0, .inr (.inr 361)), (1, .inl z127)]) (st' := [.inr (.inr 361)]) rfl ?_
                refine k_getr (a := 361) (x := kx_361) rfl rfl rfl (by decide) rfl rfl rfl hI139 (fun h144 => ?_)
                obtain ⟨t145, et147⟩ : ∃ t9, t9 = H138.2 361 7 := ⟨_, rfl⟩
                rw [← et147] at h144 ⊢
                have k146 : isE t145 := h144
                refine k_run 0 (pc' := 194) (l' := [(0, .inr (.inr 361)), (1, .inl z127)]) (st' := [.inr (.inr t145)]) rfl ?_
                refine k_run 2 (pc' := 198) (l' := [(0, .inr (.inr 361)), (1, .inl z127)]) (st' := [.inl (H138.1 361 9), .inr (.inr t145)]) rfl ?_
                have g148 : 0 ≤ (H138.1 361 9) ∧ (H138.1 361 9) ≤ 40 := kn (x := kx_361) hI139 rfl 9
                refine k_puti (z := (H138.1 361 9)) (a := t145) (x := (kEo t145)) rfl rfl k146.1 (iE0 k146) k146.2.2.2.2.1 rfl rfl rfl rfl hI139 (by omega) (show 0 ≤ (H138.1 361 9) ∧ (H138.1 361 9) ≤ 40 by omega) (fun H149 hI150 hw151 hv152 => ?_)
                have hf153 : fq [(361, 3), (361, 4), (361, 5), (361, 6), (361, 7), (361, 8), (361, 9)] [362] true H H149 := fq_w hf142 hw151 (fpg (iEf k146))
                refine k_run 0 (pc' := 201) (l' := [(0, .inr (.inr 361)), (1, .inl z127)]) (st' := []) rfl ?_
                refine k_run 1 (pc' := 202) (l' := [(0, .inr (.inr 361)), (1, .inl z127)]) (st' := [.inl 1]) rfl ?_
                refine h_retz (x := 1) rfl rfl (by decide) ?_
                have g154 : 0 ≤ (H149.1 7 6) ∧ (H149.1 7 6) ≤ 16 := kn (x := kx_7) hI150 rfl 6
                have e155 : (H149.1 7 6) = (H138.1 7 6) := hw151.2 _ _ (fun q => by have h9 := (iEf k146); rw [← q.1] at h9; exact absurd h9 (by decide))
                have e156 : (H138.1 7 6) = (H131.1 7 6) := (hq140.1 7 6 rfl (by decide) (by decide)).1
                have e157 : (H131.1 7 6) = (H107.1 7 6) := (hq133.1 7 6 rfl (by decide) (by decide)).1
                have e158 : (H107.1 7 6) = (H91.1 7 6) := (hq109.1 7 6 rfl (by decide) (by decide)).1
                have e159 : (H91.1 7 6) = (H76.1 7 6) := (hq93.1 7 6 rfl (by decide) (by decide)).1
                have e160 : (H76.1 7 6) = (H65.1 7 6) := (hq78.1 7 6 rfl (by decide) (by decide)).1
                have e161 : (H65.1 7 6) = (H56.1 7 6) := hw67.2 _ _ (fun q => absurd q.1 (by decide))
                have e162 : (H56.1 7 6) = (H47.1 7 6) := hw58.2 _ _ (fun q => by have h9 := (iEf k54); rw [← q.1] at h9; exact absurd h9 (by decide))
                have e163 : (H47.1 7 6) = (H34.1 7 6) := hw49.2 _ _ (fun q => by have h9 := (iEf k40); rw [← q.1] at h9; exact absurd h9 (by decide))
                have e164 : (H34.1 7 6) = (H2.1 7 6) := (hq36.1 7 6 rfl (by decide) (by decide)).1
                have g165 : -2147483648 ≤ (H149.1 361 4) ∧ (H149.1 361 4) ≤ 2147483647 := kn (x := kx_361) hI150 rfl 4
                have e166 : (H149.1 361 4) = (H138.1 361 4) := hw151.2 _ _ (fun q => by have h9 := (iEf k146); rw [← q.1] at h9; exact absurd h9 (by decide))
                exact ⟨_, rfl, (by omega), hI150, hf153⟩
              · refine k_run 0 (pc' := 188) (l' := [(0, .inr (.inr 361)), (1, .inl z127)]) (st' := []) rfl ?_
                refine k_run 1 (pc' := 189) (l' := [(0, .inr (.inr 361)), (1, .inl z127)]) (st' := [.inl 0]) rfl ?_
                refine h_retz (x := 0) rfl rfl (by decide) ?_
                have g167 : 0 ≤ (H138.1 7 6) ∧ (H138.1 7 6) ≤ 16 := kn (x := kx_7) hI139 rfl 6
                have e168 : (H138.1 7 6) = (H131.1 7 6) := (hq140.1 7 6 rfl (by decide) (by decide)).1
                have e169 : (H131.1 7 6) = (H107.1 7 6) := (hq133.1 7 6 rfl (by decide) (by decide)).1
                have e170 : (H107.1 7 6) = (H91.1 7 6) := (hq109.1 7 6 rfl (by decide) (by decide)).1
                have e171 : (H91.1 7 6) = (H76.1 7 6) := (hq93.1 7 6 rfl (by decide) (by decide)).1
                have e172 : (H76.1 7 6) = (H65.1 7 6) := (hq78.1 7 6 rfl (by decide) (by decide)).1
                have e173 : (H65.1 7 6) = (H56.1 7 6) := hw67.2 _ _ (fun q => absurd q.1 (by decide))
                have e174 : (H56.1 7 6) = (H47.1 7 6) := hw58.2 _ _ (fun q => by have h9 := (iEf k54); rw [← q.1] at h9; exact absurd h9 (by decide))
                have e175 : (H47.1 7 6) = (H34.1 7 6) := hw49.2 _ _ (fun q => by have h9 := (iEf k40); rw [← q.1] at h9; exact absurd h9 (by decide))
                have e176 : (H34.1 7 6) = (H2.1 7 6) := (hq36.1 7 6 rfl (by decide) (by decide)).1
                have g177 : -2147483648 ≤ (H138.1 361 4) ∧ (H138.1 361 4) ≤ 2147483647 := kn (x := kx_361) hI139 rfl 4
                exact ⟨_, rfl, (by omega), hI139, hf142⟩
            · refine k_run 0 (pc' := 139) (l' := [(0, .inr (.inr 361))]) (st' := []) rfl ?_
              refine k_run 1 (pc' := 140) (l' := [(0, .inr (.inr 361))]) (st' := [.inl 0]) rfl ?_
              refine h_retz (x := 0) rfl rfl (by decide) ?_
              have g178 : 0 ≤ (H107.1 7 6) ∧ (H107.1 7 6) ≤ 16 := kn (x := kx_7) hI108 rfl 6
              have e179 : (H107.1 7 6) = (H91.1 7 6) := (hq109.1 7 6 rfl (by decide) (by decide)).1
              have e180 : (H91.1 7 6) = (H76.1 7 6) := (hq93.1 7 6 rfl (by decide) (by decide)).1
              have e181 : (H76.1 7 6) = (H65.1 7 6) := (hq78.1 7 6 rfl (by decide) (by decide)).1
              have e182 : (H65.1 7 6) = (H56.1 7 6) := hw67.2 _ _ (fun q => absurd q.1 (by decide))
              have e183 : (H56.1 7 6) = (H47.1 7 6) := hw58.2 _ _ (fun q => by have h9 := (iEf k54); rw [← q.1] at h9; exact absurd h9 (by decide))
              have e184 : (H47.1 7 6) = (H34.1 7 6) := hw49.2 _ _ (fun q => by have h9 := (iEf k40); rw [← q.1] at h9; exact absurd h9 (by decide))
              have e185 : (H34.1 7 6) = (H2.1 7 6) := (hq36.1 7 6 rfl (by decide) (by decide)).1
              have g186 : -2147483648 ≤ (H107.1 361 4) ∧ (H107.1 361 4) ≤ 2147483647 := kn (x := kx_361) hI108 rfl 4
              exact ⟨_, rfl, (by omega), hI108, hf111⟩
      · refine k_run 0 (pc' := 55) (l' := [(0, .inr (.inr 361))]) (st' := []) rfl ?_
        refine k_run 2 (pc' := 57) (l' := [(0, .inr (.inr 361))]) (st' := [.inl 5, .inr (.inr 361)]) rfl ?_
        have g187 : -2147483648 ≤ (H2.1 361 4) ∧ (H2.1 361 4) ≤ 2147483647 := kn (x := kx_361) hI3 rfl 4
        have e188 : (H2.1 361 4) = (H.1 361 4) := hw4.2 _ _ (fun q => absurd q.2 (by decide))
        refine h_cv (i := 128) (j := 86) (b := 361) (M' := mt_86) (xs := [.inl 5]) (rest := []) rfl rfl rfl rfl (zs_K (x := kx_361) rfl (by decide)) rfl (Nat.le_of_ble_eq_true rfl) (Nat.le_of_ble_eq_true rfl) (by omega) (f_Reader_fails (by omega) hI3 (by decide)) ?_
        rintro _ H190 ⟨z193, rfl, g189, hI191, hq192⟩
        have hf194 : fq [(361, 3), (361, 4), (361, 5), (361, 6), (361, 7), (361, 8), (361, 9)] [362] true H H190 := fq_t hf6 hq192 rfl rfl rfl
        refine k_run 0 (pc' := 60) (l' := [(0, .inr (.inr 361))]) (st' := [.inl z193]) rfl ?_
        refine h_retz (x := z193) rfl rfl (by omega) ?_
        have g195 : 0 ≤ (H190.1 7 6) ∧ (H190.1 7 6) ≤ 16 := kn (x := kx_7) hI191 rfl 6
        have e196 : (H190.1 7 6) = (H2.1 7 6) := (hq192.1 7 6 rfl (by decide) (by decide)).1
        have g197 : -2147483648 ≤ (H190.1 361 4) ∧ (H190.1 361 4) ≤ 2147483647 := kn (x := kx_361) hI191 rfl 4
        exact ⟨_, rfl, (by omega), hI191, hf194⟩
    · refine k_run 0 (pc' := 37) (l' := [(0, .inr (.inr 361))]) (st' := []) rfl ?_
      refine k_run 2 (pc' := 39) (l' := [(0, .inr (.inr 361))]) (st' := [.inl 3, .inr (.inr 361)]) rfl ?_
      have g198 : -2147483648 ≤ (H2.1 361 4) ∧ (H2.1 361 4) ≤ 2147483647 := kn (x := kx_361) hI3 rfl 4
      have e199 : (H2.1 361 4) = (H.1 361 4) := hw4.2 _ _ (fun q => absurd q.2 (by decide))
      refine h_cv (i := 128) (j := 86) (b := 361) (M' := mt_86) (xs := [.inl 3]) (rest := []) rfl rfl rfl rfl (zs_K (x := kx_361) rfl (by decide)) rfl (Nat.le_of_ble_eq_true rfl) (Nat.le_of_ble_eq_true rfl) (by omega) (f_Reader_fails (by omega) hI3 (by decide)) ?_
      rintro _ H201 ⟨z204, rfl, g200, hI202, hq203⟩
      have hf205 : fq [(361, 3), (361, 4), (361, 5), (361, 6), (361, 7), (361, 8), (361, 9)] [362] true H H201 := fq_t hf6 hq203 rfl rfl rfl
      refine k_run 0 (pc' := 42) (l' := [(0, .inr (.inr 361))]) (st' := [.inl z204]) rfl ?_
      refine h_retz (x := z204) rfl rfl (by omega) ?_
      have g206 : 0 ≤ (H201.1 7 6) ∧ (H201.1 7 6) ≤ 16 := kn (x := kx_7) hI202 rfl 6
      have e207 : (H201.1 7 6) = (H2.1 7 6) := (hq203.1 7 6 rfl (by decide) (by decide)).1
      have e208 : (H2.1 7 6) = (H.1 7 6) := hw4.2 _ _ (fun q => absurd q.1 (by decide))
      have g209 : -2147483648 ≤ (H201.1 361 4) ∧ (H201.1 361 4) ≤ 2147483647 := kn (x := kx_361) hI202 rfl 4
      exact ⟨_, rfl, (by omega), hI202, hf205⟩
  · refine k_run 0 (pc' := 18) (l' := [(0, .inr (.inr 361))]) (st' := []) rfl ?_
    refine k_run 1 (pc' := 19) (l' := [(0, .inr (.inr 361))]) (st' := [.inr (.inr 361)]) rfl ?_
    have g210 : -2147483648 ≤ (H2.1 361 4) ∧ (H2.1 361 4) ≤ 2147483647 := kn (x := kx_361) hI3 rfl 4
    have e211 : (H2.1 361 4) = (H.1 361 4) := hw4.2 _ _ (fun q => absurd q.2 (by decide))
    refine h_cv (i := 89) (j := 85) (b := 361) (M' := mt_85) (xs := []) (rest := []) rfl rfl rfl rfl (zs_K (x := kx_361) rfl (by decide)) rfl (Nat.le_of_ble_eq_true rfl) (Nat.le_of_ble_eq_true rfl) (by omega) (f_Reader_misplaced (by omega) hI3 ) ?_
    rintro _ H213 ⟨z216, rfl, g212, hI214, hq215⟩
    have hf217 : fq [(361, 3), (361, 4), (361, 5), (361, 6), (361, 7), (361, 8), (361, 9)] [362] true H H213 := fq_t hf6 hq215 rfl rfl rfl
    refine k_run 0 (pc' := 22) (l' := [(0, .inr (.inr 361))]) (st' := [.inl z216]) rfl ?_
    refine h_retz (x := z216) rfl rfl (by omega) ?_
    have g218 : 0 ≤ (H213.1 7 6) ∧ (H213.1 7 6) ≤ 16 := kn (x := kx_7) hI214 rfl 6
    have e219 : (H213.1 7 6) = (H2.1 7 6) := (hq215.1 7 6 rfl (by decide) (by decide)).1
    have e220 : (H2.1 7 6) = (H.1 7 6) := hw4.2 _ _ (fun q => absurd q.1 (by decide))
    have g221 : -2147483648 ≤ (H213.1 361 4) ∧ (H213.1 361 4) ≤ 2147483647 := kn (x := kx_361) hI214 rfl 4
    exact ⟨_, rfl, (by omega), hI214, hf217⟩

/-! Reader.readClosedTerm -/
set_option maxRecDepth 100000 in
theorem f_Reader_readClosedTerm {d : Nat} (hd : 41 ≤ d) {H : hp} (hI : Inv H) {t n : Nat} (ht : isT t n) : hG (zs zK) d mt_63 0 (zargs 0 [.inr (.inr 361), .inr (.inr t)]) [] H (fun r9 H9 => ∃ z : Int, r9 = some (.inl z) ∧ ((-2147483648 ≤ z ∧ z ≤ 2147483647) ∧ (z ≠ 0 ∨ H9.1 361 4 = H.1 361 4)) ∧ Inv H9 ∧ fq [(2, 5), (361, 3), (361, 4), (361, 5), (361, 6), (361, 8), (361, 9)] [4, 5, 6, 362] true H H9) := by
  have htb := ht.2.2.2.2
  refine k_run 0 (pc' := 0) (l' := [(0, .inr (.inr 361)), (1, .inr (.inr t))]) (st' := []) rfl ?_
  refine k_run 2 (pc' := 4) (l' := [(0, .inr (.inr 361)), (1, .inr (.inr t))]) (st' := [.inr (.inr 2)]) rfl ?_
  refine h_cv (i := 64) (j := 27) (b := 2) (M' := mt_27) (xs := []) (rest := []) rfl rfl rfl rfl (zs_K (x := kx_2) rfl (by decide)) rfl (Nat.le_of_ble_eq_true rfl) (Nat.le_of_ble_eq_true rfl) (by omega) (k_Tape_cut (by omega) hI ) ?_
  rintro _ H2 ⟨rfl, hI3, hq4⟩
  have hf5 : fq [(2, 5), (361, 3), (361, 4), (361, 5), (361, 6), (361, 8), (361, 9)] [4, 5, 6, 362] true H H2 := fq_t (fq_rf _ _ _ _) hq4 rfl rfl rfl
  refine k_run 0 (pc' := 7) (l' := [(0, .inr (.inr 361)), (1, .inr (.inr t))]) (st' := []) rfl ?_
  refine k_run 2 (pc' := 9) (l' := [(0, .inr (.inr 361)), (1, .inr (.inr t))]) (st' := [.inl 0, .inr (.inr 361)]) rfl ?_
  refine k_putw (a := 361) (x := kx_361) rfl rfl rfl (by decide) (by decide) rfl rfl rfl rfl hI3 rfl (fun H6 hI7 hw8 => ?_)
  have hf10 : fq [(2, 5), (361, 3), (361, 4), (361, 5), (361, 6), (361, 8), (361, 9)] [4, 5, 6, 362] true H H6 := fq_w hf5 hw8 (fpo (by decide) rfl)
  refine k_run 0 (pc' := 12) (l' := [(0, .inr (.inr 361)), (1, .inr (.inr t))]) (st' := []) rfl ?_
  refine k_run 2 (pc' := 14) (l' := [(0, .inr (.inr 361)), (1, .inr (.inr t))]) (st' := [.inl 2, .inr (.inr 361)]) rfl ?_
  refine k_putw (a := 361) (x := kx_361) rfl rfl rfl (by decide) (by decide) rfl rfl rfl rfl hI7 rfl (fun H11 hI12 hw13 => ?_)
  have hf15 : fq [(2, 5), (361, 3), (361, 4), (361, 5), (361, 6), (361, 8), (361, 9)] [4, 5, 6, 362] true H H11 := fq_w hf10 hw13 (fpo (by decide) rfl)
  refine k_run 0 (pc' := 17) (l' := [(0, .inr (.inr 361)), (1, .inr (.inr t))]) (st' := []) rfl ?_
  refine k_run 2 (pc' := 19) (l' := [(0, .inr (.inr 361)), (1, .inr (.inr t))]) (st' := [.inr (.inr t), .inr (.inr 361)]) rfl ?_
  have g16 : -2147483648 ≤ (H11.1 361 4) ∧ (H11.1 361 4) ≤ 2147483647 := kn (x := kx_361) hI12 rfl 4
  have e17 : (H11.1 361 4) = (H6.1 361 4) := hw13.2 _ _ (fun q => absurd q.2 (by decide))
  have e18 : (H6.1 361 4) = (H2.1 361 4) := hw8.2 _ _ (fun q => absurd q.2 (by decide))
  have e19 : (H2.1 361 4) = (H.1 361 4) := (hq4.1 361 4 rfl (by decide) (by decide)).1
  refine h_cv (i := 105) (j := 81) (b := 361) (M' := mt_81) (xs := [.inr (.inr t)]) (rest := []) rfl rfl rfl rfl (zs_K (x := kx_361) rfl (by decide)) rfl (Nat.le_of_ble_eq_true rfl) (Nat.le_of_ble_eq_true rfl) (by omega) (f_Reader_startTerm (by omega) hI12 ht) ?_
  rintro _ H21 ⟨rfl, g20, hI22, hq23⟩
  have hf24 : fq [(2, 5), (361, 3), (361, 4), (361, 5), (361, 6), (361, 8), (361, 9)] [4, 5, 6, 362] true H H21 := fq_t hf15 hq23 rfl rfl rfl
  refine k_run 0 (pc' := 22) (l' := [(0, .inr (.inr 361)), (1, .inr (.inr t))]) (st' := []) rfl ?_
  refine k_run 4 (pc' := 26) (l' := [(0, .inr (.inr 361)), (1, .inr (.inr t))]) (st' := [.inl 0, .inl 0, .inl (-1), .inr (.inr 361)]) rfl ?_
  have g25 : -2147483648 ≤ (H21.1 361 4) ∧ (H21.1 361 4) ≤ 2147483647 := kn (x := kx_361) hI22 rfl 4
  have e26 : (H21.1 361 4) = (H11.1 361 4) := (hq23.1 361 4 rfl (by decide) (by decide)).1
  refine h_cv (i := 109) (j := 73) (b := 361) (M' := mt_73) (xs := [.inl 0, .inl 0, .inl (-1)]) (rest := []) rfl rfl rfl rfl (zs_K (x := kx_361) rfl (by decide)) rfl (Nat.le_of_ble_eq_true rfl) (Nat.le_of_ble_eq_true rfl) (by omega) (f_Reader_readTerm (by omega) hI22 (by decide) (by decide) (by decide) (by omega)) ?_
  rintro _ H28 ⟨z31, rfl, g27, hI29, hq30⟩
  have hf32 : fq [(2, 5), (361, 3), (361, 4), (361, 5), (361, 6), (361, 8), (361, 9)] [4, 5, 6, 362] true H H28 := fq_t hf24 hq30 rfl rfl rfl
  refine k_run 0 (pc' := 29) (l' := [(0, .inr (.inr 361)), (1, .inr (.inr t))]) (st' := [.inl z31]) rfl ?_
  refine h_zeq (off := 15) (t := 44) rfl rfl (by omega) (fun c33 => ?_) (fun c33 => ?_)
  · refine k_run 0 (pc' := 44) (l' := [(0, .inr (.inr 361)), (1, .inr (.inr t))]) (st' := []) rfl ?_
    refine k_run 3 (pc' := 47) (l' := [(0, .inr (.inr 361)), (1, .inr (.inr t)), (2, .inl 0)]) (st' := [.inl 0]) rfl ?_
    refine h_zeq (off := 7) (t := 54) rfl rfl (by decide) (fun _ => ?_) (fun c => absurd c (by decide))
    refine k_run 0 (pc' := 54) (l' := [(0, .inr (.inr 361)), (1, .inr (.inr t)), (2, .inl 0)]) (st' := []) rfl ?_
    refine k_run 3 (pc' := 61) (l' := [(0, .inr (.inr 361)), (1, .inr (.inr t)), (2, .inl 0)]) (st' := [.inl (H28.1 361 5), .inl (-1000)]) rfl ?_
    have g34 : 0 ≤ (H28.1 361 5) ∧ (H28.1 361 5) ≤ 1000 := kn (x := kx_361) hI29 rfl 5
    refine k_run 1 (pc' := 62) (l' := [(0, .inr (.inr 361)), (1, .inr (.inr t)), (2, .inl 0)]) (st' := [.inl ((-1000) - (H28.1 361 5))]) rfl ?_
    refine h_reti (x := ((-1000) - (H28.1 361 5))) rfl rfl ?_
    have g35 : -2147483648 ≤ (H28.1 361 4) ∧ (H28.1 361 4) ≤ 2147483647 := kn (x := kx_361) hI29 rfl 4
    exact ⟨_, rfl, (by omega), hI29, hf32⟩
  · refine k_run 0 (pc' := 32) (l' := [(0, .inr (.inr 361)), (1, .inr (.inr t))]) (st' := []) rfl ?_
    refine k_run 2 (pc' := 34) (l' := [(0, .inr (.inr 361)), (1, .inr (.inr t))]) (st' := [.inl 0, .inr (.inr 361)]) rfl ?_
    have g36 : -2147483648 ≤ (H28.1 361 4) ∧ (H28.1 361 4) ≤ 2147483647 := kn (x := kx_361) hI29 rfl 4
    refine h_cv (i := 92) (j := 82) (b := 361) (M' := mt_82) (xs := [.inl 0]) (rest := []) rfl rfl rfl rfl (zs_K (x := kx_361) rfl (by decide)) rfl (Nat.le_of_ble_eq_true rfl) (Nat.le_of_ble_eq_true rfl) (by omega) (f_Reader_take (by omega) hI29 (by decide)) ?_
    rintro _ H38 ⟨z41, rfl, g37, hI39, hq40⟩
    have hf42 : fq [(2, 5), (361, 3), (361, 4), (361, 5), (361, 6), (361, 8), (361, 9)] [4, 5, 6, 362] true H H38 := fq_t hf32 hq40 rfl rfl rfl
    refine k_run 0 (pc' := 37) (l' := [(0, .inr (.inr 361)), (1, .inr (.inr t))]) (st' := [.inl z41]) rfl ?_
    refine h_zeq (off := 7) (t := 44) rfl rfl (by omega) (fun c43 => ?_) (fun c43 => ?_)
    · refine k_run 0 (pc' := 44) (l' := [(0, .inr (.inr 361)), (1, .inr (.inr t))]) (st' := []) rfl ?_
      refine k_run 3 (pc' := 47) (l' := [(0, .inr (.inr 361)), (1, .inr (.inr t)), (2, .inl 0)]) (st' := [.inl 0]) rfl ?_
      refine h_zeq (off := 7) (t := 54) rfl rfl (by decide) (fun _ => ?_) (fun c => absurd c (by decide))
      refine k_run 0 (pc' := 54) (l' := [(0, .inr (.inr 361)), (1, .inr (.inr t)), (2, .inl 0)]) (st' := []) rfl ?_
      refine k_run 3 (pc' := 61) (l' := [(0, .inr (.inr 361)), (1, .inr (.inr t)), (2, .inl 0)]) (st' := [.inl (H38.1 361 5), .inl (-1000)]) rfl ?_
      have g44 : 0 ≤ (H38.1 361 5) ∧ (H38.1 361 5) ≤ 1000 := kn (x := kx_361) hI39 rfl 5
      refine k_run 1 (pc' := 62) (l' := [(0, .inr (.inr 361)), (1, .inr (.inr t)), (2, .inl 0)]) (st' := [.inl ((-1000) - (H38.1 361 5))]) rfl ?_
      refine h_reti (x := ((-1000) - (H38.1 361 5))) rfl rfl ?_
      have g45 : -2147483648 ≤ (H38.1 361 4) ∧ (H38.1 361 4) ≤ 2147483647 := kn (x := kx_361) hI39 rfl 4
      exact ⟨_, rfl, (by omega), hI39, hf42⟩
    · refine k_run 0 (pc' := 40) (l' := [(0, .inr (.inr 361)), (1, .inr (.inr t))]) (st' := []) rfl ?_
      refine k_run 4 (pc' := 47) (l' := [(0, .inr (.inr 361)), (1, .inr (.inr t)), (2, .inl 1)]) (st' := [.inl 1]) rfl ?_
      refine h_zeq (off := 7) (t := 54) rfl rfl (by decide) (fun c => absurd c (by decide)) (fun _ => ?_)
      refine k_run 0 (pc' := 50) (l' := [(0, .inr (.inr 361)), (1, .inr (.inr t)), (2, .inl 1)]) (st' := []) rfl ?_
      refine k_run 2 (pc' := 62) (l' := [(0, .inr (.inr 361)), (1, .inr (.inr t)), (2, .inl 1)]) (st' := [.inl 0]) rfl ?_
      refine h_reti (x := 0) rfl rfl ?_
      have g46 : -2147483648 ≤ (H38.1 361 4) ∧ (H38.1 361 4) ≤ 2147483647 := kn (x := kx_361) hI39 rfl 4
      exact ⟨_, rfl, (by omega), hI39, hf42⟩

/-! Reader.readText -/
set_option maxRecDepth 100000 in
theorem f_Reader_readText_cut {d : Nat} (hd : 42 ≤ d) {H : hp} (hI : Inv H)   : ∀ w : Nat, (∀ (H1 : hp), Inv H1 → fq [(2, 5), (7, 5), (7, 6), (8, 4), (13, 4), (18, 4), (361, 3), (361, 4), (361, 5), (361, 6), (361, 7), (361, 8), (361, 9)] [4, 5, 6, 9, 10, 11, 14, 15, 16, 17, 19, 20, 21, 22, 362] true H H1 → ∀ (x1 : Int) (x2 : Int) (x3 : Int) (x4 : Int) (x5 : Int) (x6 : Int) (x7 : Int) , (-2147483648 ≤ x1 ∧ x1 ≤ 2147483647) → (-2147483648 ≤ x2 ∧ x2 ≤ 2147483647) → (-2147483648 ≤ x3 ∧ x3 ≤ 2147483647) → (-2147483648 ≤ x4 ∧ x4 ≤ 2147483647) → (-2147483648 ≤ x5 ∧ x5 ≤ 2147483647) → (-2147483648 ≤ x6 ∧ x6 ≤ 2147483647) → (-2147483648 ≤ x7 ∧ x7 ≤ 2147483647) → (0 ≤ x1 ∧ x1 ≤ 6) → (0 ≤ x2 ∧ x2 ≤ 16) → (0 ≤ x3 ∧ x3 ≤ 16) → (0 ≤ x4 ∧ x4 ≤ 40) → (0 ≤ x5 ∧ x5 ≤ 16) → (0 ≤ x6 ∧ x6 ≤ 1001) → (0 ≤ x7 ∧ x7 ≤ 1) → ((x7 = 0 ∨ H1.1 361 4 = H.1 361 4)) → (((2000 - x6).toNat) < w) → hG (zs zK) d mt_62 69 [(0, .inr (.inr 361)), (1, .inl x1), (2, .inl x2), (3, .inl x3), (4, .inl x4), (5, .inl x5), (6, .inl x6), (7, .inl x7)] [] H1 (fun r9 H9 => ∃ z : Int, r9 = some (.inl z) ∧ ((-2147483648 ≤ z ∧ z ≤ 2147483647) ∧ (z < 0 ∨ H9.1 361 4 = H.1 361 4)) ∧ Inv H9 ∧ fq [(2, 5), (7, 5), (7, 6), (8, 4), (13, 4), (18, 4), (361, 3), (361, 4), (361, 5), (361, 6), (361, 7), (361, 8), (361, 9)] [4, 5, 6, 9, 10, 11, 14, 15, 16, 17, 19, 20, 21, 22, 362] true H H9)) := by
  intro w
  induction w with
  | zero => exact fun _ _ _ _ _ _ _ _ _ _ _ _ _ _ _ _ _ _ _ _ _ _ _ _ _ h => absurd h (Nat.not_lt_zero _)
  | succ w ih =>
    intro H1 hI1 hf1 x1 x2 x3 x4 x5 x6 x7 hx1 hx2 hx3 hx4 hx5 hx6 hx7 hi0 hi1 hi2 hi3 hi4 hi5 hi6 hi7 hw
    have g19 : -2147483648 ≤ (H1.1 361 4) ∧ (H1.1 361 4) ≤ 2147483647 := kn (x := kx_361) hI1 rfl 4
    refine k_run 1 (pc' := 71) (l' := [(0, .inr (.inr 361)), (1, .inl x1), (2, .inl x2), (3, .inl x3), (4, .inl x4), (5, .inl x5), (6, .inl x6), (7, .inl x7)]) (st' := [.inl x7]) rfl ?_
    refine h_zeq (off := 155) (t := 226) rfl rfl (by omega) (fun c20 => ?_) (fun c20 => ?_)
    · refine k_run 0 (pc' := 226) (l' := [(0, .inr (.inr 361)), (1, .inl x1), (2, .inl x2), (3, .inl x3), (4, .inl x4), (5, .inl x5), (6, .inl x6), (7, .inl x7)]) (st' := []) rfl ?_
      refine k_run 1 (pc' := 228) (l' := [(0, .inr (.inr 361)), (1, .inl x1), (2, .inl x2), (3, .inl x3), (4, .inl x4), (5, .inl x5), (6, .inl x6), (7, .inl x7)]) (st' := [.inl x7]) rfl ?_
      refine h_zne (off := 63) (t := 291) rfl rfl (by omega) (fun c21 => ?_) (fun c21 => ?_)
      · exfalso
        omega
      · refine k_run 0 (pc' := 231) (l' := [(0, .inr (.inr 361)), (1, .inl x1), (2, .inl x2), (3, .inl x3), (4, .inl x4), (5, .inl x5), (6, .inl x6), (7, .inl x7)]) (st' := []) rfl ?_
        refine k_run 4 (pc' := 239) (l' := [(0, .inr (.inr 361)), (1, .inl x1), (2, .inl x2), (3, .inl x3), (4, .inl x4), (5, .inl x5), (6, .inl x6), (7, .inl x7)]) (st' := [.inl x1, .inr (.inr 8)]) rfl ?_
        refine k_puti (z := x1) (a := 8) (x := kx_8) rfl rfl rfl (by decide) (by decide) rfl rfl rfl rfl hI1 (by omega) (show 0 ≤ x1 ∧ x1 ≤ 6 by omega) (fun H22 hI23 hw24 hv25 => ?_)
        have hf26 : fq [(2, 5), (7, 5), (7, 6), (8, 4), (13, 4), (18, 4), (361, 3), (361, 4), (361, 5), (361, 6), (361, 7), (361, 8), (361, 9)] [4, 5, 6, 9, 10, 11, 14, 15, 16, 17, 19, 20, 21, 22, 362] true H H22 := fq_w hf1 hw24 (fpo (by decide) rfl)
        refine k_run 0 (pc' := 242) (l' := [(0, .inr (.inr 361)), (1, .inl x1), (2, .inl x2), (3, .inl x3), (4, .inl x4), (5, .inl x5), (6, .inl x6), (7, .inl x7)]) (st' := []) rfl ?_
        refine k_run 4 (pc' := 250) (l' := [(0, .inr (.inr 361)), (1, .inl x1), (2, .inl x2), (3, .inl x3), (4, .inl x4), (5, .inl x5), (6, .inl x6), (7, .inl x7)]) (st' := [.inl x2, .inr (.inr 13)]) rfl ?_
        refine k_puti (z := x2) (a := 13) (x := kx_13) rfl rfl rfl (by decide) (by decide) rfl rfl rfl rfl hI23 (by omega) (show 0 ≤ x2 ∧ x2 ≤ 16 by omega) (fun H27 hI28 hw29 hv30 => ?_)
        have hf31 : fq [(2, 5), (7, 5), (7, 6), (8, 4), (13, 4), (18, 4), (361, 3), (361, 4), (361, 5), (361, 6), (361, 7), (361, 8), (361, 9)] [4, 5, 6, 9, 10, 11, 14, 15, 16, 17, 19, 20, 21, 22, 362] true H H27 := fq_w hf26 hw29 (fpo (by decide) rfl)
        refine k_run 0 (pc' := 253) (l' := [(0, .inr (.inr 361)), (1, .inl x1), (2, .inl x2), (3, .inl x3), (4, .inl x4), (5, .inl x5), (6, .inl x6), (7, .inl x7)]) (st' := []) rfl ?_
        refine k_run 4 (pc' := 261) (l' := [(0, .inr (.inr 361)), (1, .inl x1), (2, .inl x2), (3, .inl x3), (4, .inl x4), (5, .inl x5), (6, .inl x6), (7, .inl x7)]) (st' := [.inl x3, .inr (.inr 18)]) rfl ?_
        refine k_puti (z := x3) (a := 18) (x := kx_18) rfl rfl rfl (by decide) (by decide) rfl rfl rfl rfl hI28 (by omega) (show 0 ≤ x3 ∧ x3 ≤ 16 by omega) (fun H32 hI33 hw34 hv35 => ?_)
        have hf36 : fq [(2, 5), (7, 5), (7, 6), (8, 4), (13, 4), (18, 4), (361, 3), (361, 4), (361, 5), (361, 6), (361, 7), (361, 8), (361, 9)] [4, 5, 6, 9, 10, 11, 14, 15, 16, 17, 19, 20, 21, 22, 362] true H H32 := fq_w hf31 hw34 (fpo (by decide) rfl)
        refine k_run 0 (pc' := 264) (l' := [(0, .inr (.inr 361)), (1, .inl x1), (2, .inl x2), (3, .inl x3), (4, .inl x4), (5, .inl x5), (6, .inl x6), (7, .inl x7)]) (st' := []) rfl ?_
        refine k_run 3 (pc' := 270) (l' := [(0, .inr (.inr 361)), (1, .inl x1), (2, .inl x2), (3, .inl x3), (4, .inl x4), (5, .inl x5), (6, .inl x6), (7, .inl x7)]) (st' := [.inl x4, .inr (.inr 7)]) rfl ?_
        refine k_puti (z := x4) (a := 7) (x := kx_7) rfl rfl rfl (by decide) (by decide) rfl rfl rfl rfl hI33 (by omega) (show 0 ≤ x4 ∧ x4 ≤ 40 by omega) (fun H37 hI38 hw39 hv40 => ?_)
        have hf41 : fq [(2, 5), (7, 5), (7, 6), (8, 4), (13, 4), (18, 4), (361, 3), (361, 4), (361, 5), (361, 6), (361, 7), (361, 8), (361, 9)] [4, 5, 6, 9, 10, 11, 14, 15, 16, 17, 19, 20, 21, 22, 362] true H H37 := fq_w hf36 hw39 (fpo (by decide) rfl)
        refine k_run 0 (pc' := 273) (l' := [(0, .inr (.inr 361)), (1, .inl x1), (2, .inl x2), (3, .inl x3), (4, .inl x4), (5, .inl x5), (6, .inl x6), (7, .inl x7)]) (st' := []) rfl ?_
        refine k_run 3 (pc' := 279) (l' := [(0, .inr (.inr 361)), (1, .inl x1), (2, .inl x2), (3, .inl x3), (4, .inl x4), (5, .inl x5), (6, .inl x6), (7, .inl x7)]) (st' := [.inl x5, .inr (.inr 7)]) rfl ?_
        refine k_puti (z := x5) (a := 7) (x := kx_7) rfl rfl rfl (by decide) (by decide) rfl rfl rfl rfl hI38 (by omega) (show 0 ≤ x5 ∧ x5 ≤ 16 by omega) (fun H42 hI43 hw44 hv45 => ?_)
        have hf46 : fq [(2, 5), (7, 5), (7, 6), (8, 4), (13, 4), (18, 4), (361, 3), (361, 4), (361, 5), (361, 6), (361, 7), (361, 8), (361, 9)] [4, 5, 6, 9, 10, 11, 14, 15, 16, 17, 19, 20, 21, 22, 362] true H H42 := fq_w hf41 hw44 (fpo (by decide) rfl)
        refine k_run 0 (pc' := 282) (l' := [(0, .inr (.inr 361)), (1, .inl x1), (2, .inl x2), (3, .inl x3), (4, .inl x4), (5, .inl x5), (6, .inl x6), (7, .inl x7)]) (st' := []) rfl ?_
        refine k_run 3 (pc' := 289) (l' := [(0, .inr (.inr 361)), (1, .inl x1), (2, .inl x2), (3, .inl x3), (4, .inl x4), (5, .inl x5), (6, .inl x6), (7, .inl x7)]) (st' := [.inl (H42.1 361 5), .inl (-1000)]) rfl ?_
        have g47 : 0 ≤ (H42.1 361 5) ∧ (H42.1 361 5) ≤ 1000 := kn (x := kx_361) hI43 rfl 5
        have e48 : (H42.1 361 5) = (H37.1 361 5) := hw44.2 _ _ (fun q => absurd q.1 (by decide))
        have e49 : (H37.1 361 5) = (H32.1 361 5) := hw39.2 _ _ (fun q => absurd q.1 (by decide))
        have e50 : (H32.1 361 5) = (H27.1 361 5) := hw34.2 _ _ (fun q => absurd q.1 (by decide))
        have e51 : (H27.1 361 5) = (H22.1 361 5) := hw29.2 _ _ (fun q => absurd q.1 (by decide))
        have e52 : (H22.1 361 5) = (H1.1 361 5) := hw24.2 _ _ (fun q => absurd q.1 (by decide))
        refine k_run 1 (pc' := 290) (l' := [(0, .inr (.inr 361)), (1, .inl x1), (2, .inl x2), (3, .inl x3), (4, .inl x4), (5, .inl x5), (6, .inl x6), (7, .inl x7)]) (st' := [.inl ((-1000) - (H42.1 361 5))]) rfl ?_
        refine h_reti (x := ((-1000) - (H42.1 361 5))) rfl rfl ?_
        have g53 : -2147483648 ≤ (H42.1 361 4) ∧ (H42.1 361 4) ≤ 2147483647 := kn (x := kx_361) hI43 rfl 4
        have e54 : (H42.1 361 4) = (H37.1 361 4) := hw44.2 _ _ (fun q => absurd q.1 (by decide))
        have e55 : (H37.1 361 4) = (H32.1 361 4) := hw39.2 _ _ (fun q => absurd q.1 (by decide))
        have e56 : (H32.1 361 4) = (H27.1 361 4) := hw34.2 _ _ (fun q => absurd q.1 (by decide))
        have e57 : (H27.1 361 4) = (H22.1 361 4) := hw29.2 _ _ (fun q => absurd q.1 (by decide))
        have e58 : (H22.1 361 4) = (H1.1 361 4) := hw24.2 _ _ (fun q => absurd q.1 (by decide))
        exact ⟨_, rfl, (by omega), hI43, hf46⟩
    · refine k_run 0 (pc' := 74) (l' := [(0, .inr (.inr 361)), (1, .inl x1), (2, .inl x2), (3, .inl x3), (4, .inl x4), (5, .inl x5), (6, .inl x6), (7, .inl x7)]) (st' := []) rfl ?_
      refine k_run 2 (pc' := 79) (l' := [(0, .inr (.inr 361)), (1, .inl x1), (2, .inl x2), (3, .inl x3), (4, .inl x4), (5, .inl x5), (6, .inl x6), (7, .inl x7)]) (st' := [.inl 1000, .inl x6]) rfl ?_
      refine h_igt (off := 147) (t := 226) rfl rfl (by omega) (by decide) (fun c59 => ?_) (fun c59 => ?_)
      · refine k_run 0 (pc' := 226) (l' := [(0, .inr (.inr 361)), (1, .inl x1), (2, .inl x2), (3, .inl x3), (4, .inl x4), (5, .inl x5), (6, .inl x6), (7, .inl x7)]) (st' := []) rfl ?_
        refine k_run 1 (pc' := 228) (l' := [(0, .inr (.inr 361)), (1, .inl x1), (2, .inl x2), (3, .inl x3), (4, .inl x4), (5, .inl x5), (6, .inl x6), (7, .inl x7)]) (st' := [.inl x7]) rfl ?_
        refine h_zne (off := 63) (t := 291) rfl rfl (by omega) (fun c60 => ?_) (fun c60 => ?_)
        · refine k_run 0 (pc' := 291) (l' := [(0, .inr (.inr 361)), (1, .inl x1), (2, .inl x2), (3, .inl x3), (4, .inl x4), (5, .inl x5), (6, .inl x6), (7, .inl x7)]) (st' := []) rfl ?_
          refine k_run 3 (pc' := 298) (l' := [(0, .inr (.inr 361)), (1, .inl x1), (2, .inl x2), (3, .inl x3), (4, .inl x4), (5, .inl x5), (6, .inl x6), (7, .inl x7)]) (st' := [.inl (H1.1 7 5)]) rfl ?_
          have g61 : 0 ≤ (H1.1 7 5) ∧ (H1.1 7 5) ≤ 40 := kn (x := kx_7) hI1 rfl 5
          refine k_run 1 (pc' := 300) (l' := [(0, .inr (.inr 361)), (1, .inl x1), (2, .inl x2), (3, .inl x3), (4, .inl x4), (5, .inl x5), (6, .inl x6), (7, .inl x7)]) (st' := [.inl x4, .inl (H1.1 7 5)]) rfl ?_
          refine h_ile (off := 10) (t := 310) rfl rfl (by omega) (by omega) (fun c62 => ?_) (fun c62 => ?_)
          · refine k_run 0 (pc' := 310) (l' := [(0, .inr (.inr 361)), (1, .inl x1), (2, .inl x2), (3, .inl x3), (4, .inl x4), (5, .inl x5), (6, .inl x6), (7, .inl x7)]) (st' := []) rfl ?_
            refine k_run 1 (pc' := 312) (l' := [(0, .inr (.inr 361)), (1, .inl x1), (2, .inl x2), (3, .inl x3), (4, .inl x4), (5, .inl x5), (6, .inl x6), (7, .inl x7)]) (st' := [.inl x6]) rfl ?_
            refine h_reti (x := x6) rfl rfl ?_
            exact ⟨_, rfl, (by omega), hI1, hf1⟩
          · refine k_run 0 (pc' := 303) (l' := [(0, .inr (.inr 361)), (1, .inl x1), (2, .inl x2), (3, .inl x3), (4, .inl x4), (5, .inl x5), (6, .inl x6), (7, .inl x7)]) (st' := []) rfl ?_
            refine k_run 2 (pc' := 307) (l' := [(0, .inr (.inr 361)), (1, .inl x1), (2, .inl x2), (3, .inl x3), (4, .inl x4), (5, .inl x5), (6, .inl x6), (7, .inl x7)]) (st' := [.inr (.inr 7)]) rfl ?_
            refine h_cv (i := 99) (j := 39) (b := 7) (M' := mt_39) (xs := []) (rest := []) rfl rfl rfl rfl (zs_K (x := kx_7) rfl (by decide)) rfl (Nat.le_of_ble_eq_true rfl) (Nat.le_of_ble_eq_true rfl) (by omega) (k_Program_forgetProofs (by omega) hI1 ) ?_
            rintro _ H64 ⟨rfl, hI65, hq66⟩
            have hf67 : fq [(2, 5), (7, 5), (7, 6), (8, 4), (13, 4), (18, 4), (361, 3), (361, 4), (361, 5), (361, 6), (361, 7), (361, 8), (361, 9)] [4, 5, 6, 9, 10, 11, 14, 15, 16, 17, 19, 20, 21, 22, 362] true H H64 := fq_t hf1 hq66 rfl rfl rfl
            refine k_run 0 (pc' := 310) (l' := [(0, .inr (.inr 361)), (1, .inl x1), (2, .inl x2), (3, .inl x3), (4, .inl x4), (5, .inl x5), (6, .inl x6), (7, .inl x7)]) (st' := []) rfl ?_
            refine k_run 1 (pc' := 312) (l' := [(0, .inr (.inr 361)), (1, .inl x1), (2, .inl x2), (3, .inl x3), (4, .inl x4), (5, .inl x5), (6, .inl x6), (7, .inl x7)]) (st' := [.inl x6]) rfl ?_
            refine h_reti (x := x6) rfl rfl ?_
            have g68 : -2147483648 ≤ (H64.1 361 4) ∧ (H64.1 361 4) ≤ 2147483647 := kn (x := kx_361) hI65 rfl 4
            have e69 : (H64.1 361 4) = (H1.1 361 4) := (hq66.1 361 4 rfl (by decide) (by decide)).1
            exact ⟨_, rfl, (by omega), hI65, hf67⟩
        · exfalso
          omega
      · refine k_run 0 (pc' := 82) (l' := [(0, .inr (.inr 361)), (1, .inl x1), (2, .inl x2), (3, .inl x3), (4, .inl x4), (5, .inl x5), (6, .inl x6), (7, .inl x7)]) (st' := []) rfl ?_
        refine k_run 1 (pc' := 83) (l' := [(0, .inr (.inr 361)), (1, .inl x1), (2, .inl x2), (3, .inl x3), (4, .inl x4), (5, .inl x5), (6, .inl x6), (7, .inl x7)]) (st' := [.inr (.inr 361)]) rfl ?_
        refine h_cv (i := 72) (j := 83) (b := 361) (M' := mt_83) (xs := []) (rest := []) rfl rfl rfl rfl (zs_K (x := kx_361) rfl (by decide)) rfl (Nat.le_of_ble_eq_true rfl) (Nat.le_of_ble_eq_true rfl) (by omega) (f_Reader_token (by omega) hI1 ) ?_
        rintro _ _ ⟨z74, rfl, g70, rfl⟩
        refine k_run 0 (pc' := 86) (l' := [(0, .inr (.inr 361)), (1, .inl x1), (2, .inl x2), (3, .inl x3), (4, .inl x4), (5, .inl x5), (6, .inl x6), (7, .inl x7)]) (st' := [.inl z74]) rfl ?_
        refine h_zeq (off := 140) (t := 226) rfl rfl (by omega) (fun c75 => ?_) (fun c75 => ?_)
        · refine k_run 0 (pc' := 226) (l' := [(0, .inr (.inr 361)), (1, .inl x1), (2, .inl x2), (3, .inl x3), (4, .inl x4), (5, .inl x5), (6, .inl x6), (7, .inl x7)]) (st' := []) rfl ?_
          refine k_run 1 (pc' := 228) (l' := [(0, .inr (.inr 361)), (1, .inl x1), (2, .inl x2), (3, .inl x3), (4, .inl x4), (5, .inl x5), (6, .inl x6), (7, .inl x7)]) (st' := [.inl x7]) rfl ?_
          refine h_zne (off := 63) (t := 291) rfl rfl (by omega) (fun c76 => ?_) (fun c76 => ?_)
          · refine k_run 0 (pc' := 291) (l' := [(0, .inr (.inr 361)), (1, .inl x1), (2, .inl x2), (3, .inl x3), (4, .inl x4), (5, .inl x5), (6, .inl x6), (7, .inl x7)]) (st' := []) rfl ?_
            refine k_run 3 (pc' := 298) (l' := [(0, .inr (.inr 361)), (1, .inl x1), (2, .inl x2), (3, .inl x3), (4, .inl x4), (5, .inl x5), (6, .inl x6), (7, .inl x7)]) (st' := [.inl (H1.1 7 5)]) rfl ?_
            have g77 : 0 ≤ (H1.1 7 5) ∧ (H1.1 7 5) ≤ 40 := kn (x := kx_7) hI1 rfl 5
            refine k_run 1 (pc' := 300) (l' := [(0, .inr (.inr 361)), (1, .inl x1), (2, .inl x2), (3, .inl x3), (4, .inl x4), (5, .inl x5), (6, .inl x6), (7, .inl x7)]) (st' := [.inl x4, .inl (H1.1 7 5)]) rfl ?_
            refine h_ile (off := 10) (t := 310) rfl rfl (by omega) (by omega) (fun c78 => ?_) (fun c78 => ?_)
            · refine k_run 0 (pc' := 310) (l' := [(0, .inr (.inr 361)), (1, .inl x1), (2, .inl x2), (3, .inl x3), (4, .inl x4), (5, .inl x5), (6, .inl x6), (7, .inl x7)]) (st' := []) rfl ?_
              refine k_run 1 (pc' := 312) (l' := [(0, .inr (.inr 361)), (1, .inl x1), (2, .inl x2), (3, .inl x3), (4, .inl x4), (5, .inl x5), (6, .inl x6), (7, .inl x7)]) (st' := [.inl x6]) rfl ?_
              refine h_reti (x := x6) rfl rfl ?_
              exact ⟨_, rfl, (by omega), hI1, hf1⟩
            · refine k_run 0 (pc' := 303) (l' := [(0, .inr (.inr 361)), (1, .inl x1), (2, .inl x2), (3, .inl x3), (4, .inl x4), (5, .inl x5), (6, .inl x6), (7, .inl x7)]) (st' := []) rfl ?_
              refine k_run 2 (pc' := 307) (l' := [(0, .inr (.inr 361)), (1, .inl x1), (2, .inl x2), (3, .inl x3), (4, .inl x4), (5, .inl x5), (6, .inl x6), (7, .inl x7)]) (st' := [.inr (.inr 7)]) rfl ?_
              refine h_cv (i := 99) (j := 39) (b := 7) (M' := mt_39) (xs := []) (rest := []) rfl rfl rfl rfl (zs_K (x := kx_7) rfl (by decide)) rfl (Nat.le_of_ble_eq_true rfl) (Nat.le_of_ble_eq_true rfl) (by omega) (k_Program_forgetProofs (by omega) hI1 ) ?_
              rintro _ H80 ⟨rfl, hI81, hq82⟩
              have hf83 : fq [(2, 5), (7, 5), (7, 6), (8, 4), (13, 4), (18, 4), (361, 3), (361, 4), (361, 5), (361, 6), (361, 7), (361, 8), (361, 9)] [4, 5, 6, 9, 10, 11, 14, 15, 16, 17, 19, 20, 21, 22, 362] true H H80 := fq_t hf1 hq82 rfl rfl rfl
              refine k_run 0 (pc' := 310) (l' := [(0, .inr (.inr 361)), (1, .inl x1), (2, .inl x2), (3, .inl x3), (4, .inl x4), (5, .inl x5), (6, .inl x6), (7, .inl x7)]) (st' := []) rfl ?_
              refine k_run 1 (pc' := 312) (l' := [(0, .inr (.inr 361)), (1, .inl x1), (2, .inl x2), (3, .inl x3), (4, .inl x4), (5, .inl x5), (6, .inl x6), (7, .inl x7)]) (st' := [.inl x6]) rfl ?_
              refine h_reti (x := x6) rfl rfl ?_
              have g84 : -2147483648 ≤ (H80.1 361 4) ∧ (H80.1 361 4) ≤ 2147483647 := kn (x := kx_361) hI81 rfl 4
              have e85 : (H80.1 361 4) = (H1.1 361 4) := (hq82.1 361 4 rfl (by decide) (by decide)).1
              exact ⟨_, rfl, (by omega), hI81, hf83⟩
          · exfalso
            omega
        · refine k_run 0 (pc' := 89) (l' := [(0, .inr (.inr 361)), (1, .inl x1), (2, .inl x2), (3, .inl x3), (4, .inl x4), (5, .inl x5), (6, .inl x6), (7, .inl x7)]) (st' := []) rfl ?_
          refine k_run 1 (pc' := 90) (l' := [(0, .inr (.inr 361)), (1, .inl x1), (2, .inl x2), (3, .inl x3), (4, .inl x4), (5, .inl x5), (6, .inl x6), (7, .inl x7)]) (st' := [.inr (.inr 361)]) rfl ?_
          refine h_cv (i := 72) (j := 83) (b := 361) (M' := mt_83) (xs := []) (rest := []) rfl rfl rfl rfl (zs_K (x := kx_361) rfl (by decide)) rfl (Nat.le_of_ble_eq_true rfl) (Nat.le_of_ble_eq_true rfl) (by omega) (f_Reader_token (by omega) hI1 ) ?_
          rintro _ _ ⟨z90, rfl, g86, rfl⟩
          refine k_run 0 (pc' := 93) (l' := [(0, .inr (.inr 361)), (1, .inl x1), (2, .inl x2), (3, .inl x3), (4, .inl x4), (5, .inl x5), (6, .inl x6), (7, .inl x7)]) (st' := [.inl z90]) rfl ?_
          refine k_run 2 (pc' := 97) (l' := [(0, .inr (.inr 361)), (1, .inl x1), (2, .inl x2), (3, .inl x3), (4, .inl x4), (5, .inl x5), (6, .inl x6), (7, .inl x7), (8, .inl z90)]) (st' := [.inl z90]) rfl ?_
          rcases (show z90 < 4 ∨ 7 < z90 ∨ z90 = 4 ∨ z90 = 5 ∨ z90 = 6 ∨ z90 = 7 by omega) with c91 | c91 | c91 | c91 | c91 | c91
          · refine h_tout (t := 164) rfl (by omega) (Or.inl c91) rfl ?_
            refine k_run 1 (pc' := 165) (l' := [(0, .inr (.inr 361)), (1, .inl x1), (2, .inl x2), (3, .inl x3), (4, .inl x4), (5, .inl x5), (6, .inl x6), (7, .inl x7), (8, .inl z90)]) (st' := [.inr (.inr 361)]) rfl ?_
            refine h_cv (i := 89) (j := 85) (b := 361) (M' := mt_85) (xs := []) (rest := []) rfl rfl rfl rfl (zs_K (x := kx_361) rfl (by decide)) rfl (Nat.le_of_ble_eq_true rfl) (Nat.le_of_ble_eq_true rfl) (by omega) (f_Reader_misplaced (by omega) hI1 ) ?_
            rintro _ H93 ⟨z96, rfl, g92, hI94, hq95⟩
            have hf97 : fq [(2, 5), (7, 5), (7, 6), (8, 4), (13, 4), (18, 4), (361, 3), (361, 4), (361, 5), (361, 6), (361, 7), (361, 8), (361, 9)] [4, 5, 6, 9, 10, 11, 14, 15, 16, 17, 19, 20, 21, 22, 362] true H H93 := fq_t hf1 hq95 rfl rfl rfl
            refine k_run 0 (pc' := 168) (l' := [(0, .inr (.inr 361)), (1, .inl x1), (2, .inl x2), (3, .inl x3), (4, .inl x4), (5, .inl x5), (6, .inl x6), (7, .inl x7), (8, .inl z90)]) (st' := [.inl z96]) rfl ?_
            refine k_run 2 (pc' := 172) (l' := [(0, .inr (.inr 361)), (1, .inl x1), (2, .inl x2), (3, .inl x3), (4, .inl x4), (5, .inl x5), (6, .inl x6), (7, .inl z96), (8, .inl z90)]) (st' := [.inl z96]) rfl ?_
            refine h_zeq (off := 16) (t := 188) rfl rfl (by omega) (fun c98 => ?_) (fun c98 => ?_)
            · refine k_run 0 (pc' := 188) (l' := [(0, .inr (.inr 361)), (1, .inl x1), (2, .inl x2), (3, .inl x3), (4, .inl x4), (5, .inl x5), (6, .inl x6), (7, .inl z96), (8, .inl z90)]) (st' := []) rfl ?_
              refine k_run 6 (pc' := 199) (l' := [(0, .inr (.inr 361)), (1, .inl x1), (2, .inl x2), (3, .inl x3), (4, .inl x4), (5, .inl x5), (6, .inl x6), (7, .inl 0), (8, .inl z90)]) (st' := [.inl (H93.1 7 6), .inr (.inr 7)]) rfl ?_
              have g99 : 0 ≤ (H93.1 7 6) ∧ (H93.1 7 6) ≤ 16 := kn (x := kx_7) hI94 rfl 6
              have e100 : (H93.1 7 6) = (H1.1 7 6) := (hq95.1 7 6 rfl (by decide) (by decide)).1
              refine k_run 1 (pc' := 201) (l' := [(0, .inr (.inr 361)), (1, .inl x1), (2, .inl x2), (3, .inl x3), (4, .inl x4), (5, .inl x5), (6, .inl x6), (7, .inl 0), (8, .inl z90)]) (st' := [.inl 0, .inl (H93.1 7 6), .inr (.inr 7)]) rfl ?_
              refine h_zeq (off := 14) (t := 215) rfl rfl (by decide) (fun _ => ?_) (fun c => absurd c (by decide))
              refine k_run 0 (pc' := 215) (l' := [(0, .inr (.inr 361)), (1, .inl x1), (2, .inl x2), (3, .inl x3), (4, .inl x4), (5, .inl x5), (6, .inl x6), (7, .inl 0), (8, .inl z90)]) (st' := [.inl (H93.1 7 6), .inr (.inr 7)]) rfl ?_
              refine k_run 2 (pc' := 217) (l' := [(0, .inr (.inr 361)), (1, .inl x1), (2, .inl x2), (3, .inl x3), (4, .inl x4), (5, .inl x5), (6, .inl x6), (7, .inl 0), (8, .inl z90)]) (st' := [.inl ((H93.1 7 6) + 0), .inr (.inr 7)]) rfl ?_
              refine k_puti (z := ((H93.1 7 6) + 0)) (a := 7) (x := kx_7) rfl rfl rfl (by decide) (by decide) rfl rfl rfl rfl hI94 (by omega) (show 0 ≤ ((H93.1 7 6) + 0) ∧ ((H93.1 7 6) + 0) ≤ 16 by omega) (fun H101 hI102 hw103 hv104 => ?_)
              have hf105 : fq [(2, 5), (7, 5), (7, 6), (8, 4), (13, 4), (18, 4), (361, 3), (361, 4), (361, 5), (361, 6), (361, 7), (361, 8), (361, 9)] [4, 5, 6, 9, 10, 11, 14, 15, 16, 17, 19, 20, 21, 22, 362] true H H101 := fq_w hf97 hw103 (fpo (by decide) rfl)
              refine k_run 0 (pc' := 220) (l' := [(0, .inr (.inr 361)), (1, .inl x1), (2, .inl x2), (3, .inl x3), (4, .inl x4), (5, .inl x5), (6, .inl x6), (7, .inl 0), (8, .inl z90)]) (st' := []) rfl ?_
              refine k_run 2 (pc' := 69) (l' := [(0, .inr (.inr 361)), (1, .inl x1), (2, .inl x2), (3, .inl x3), (4, .inl x4), (5, .inl x5), (6, .inl (x6 + 1)), (7, .inl 0), (8, .inl z90)]) (st' := []) rfl ?_
              have g106 : -2147483648 ≤ (H101.1 361 4) ∧ (H101.1 361 4) ≤ 2147483647 := kn (x := kx_361) hI102 rfl 4
              have e107 : (H101.1 361 4) = (H93.1 361 4) := hw103.2 _ _ (fun q => absurd q.1 (by decide))
              refine h_loc [0, 1, 2, 3, 4, 5, 6, 7] rfl ?_
              exact ih H101 hI102 hf105 x1 x2 x3 x4 x5 (x6 + 1) (0 : Int) (by omega) (by omega) (by omega) (by omega) (by omega) (by omega) (by decide) (by omega) (by omega) (by omega) (by omega) (by omega) (by omega) (by omega) (by omega) (by omega)
            · refine k_run 0 (pc' := 175) (l' := [(0, .inr (.inr 361)), (1, .inl x1), (2, .inl x2), (3, .inl x3), (4, .inl x4), (5, .inl x5), (6, .inl x6), (7, .inl z96), (8, .inl z90)]) (st' := []) rfl ?_
              refine k_run 2 (pc' := 178) (l' := [(0, .inr (.inr 361)), (1, .inl x1), (2, .inl x2), (3, .inl x3), (4, .inl x4), (5, .inl x5), (6, .inl x6), (7, .inl z96), (8, .inl z90)]) (st' := [.inl 59, .inr (.inr 361)]) rfl ?_
              have g108 : -2147483648 ≤ (H93.1 361 4) ∧ (H93.1 361 4) ≤ 2147483647 := kn (x := kx_361) hI94 rfl 4
              refine h_cv (i := 92) (j := 82) (b := 361) (M' := mt_82) (xs := [.inl 59]) (rest := []) rfl rfl rfl rfl (zs_K (x := kx_361) rfl (by decide)) rfl (Nat.le_of_ble_eq_true rfl) (Nat.le_of_ble_eq_true rfl) (by omega) (f_Reader_take (by omega) hI94 (by decide)) ?_
              rintro _ H110 ⟨z113, rfl, g109, hI111, hq112⟩
              have hf114 : fq [(2, 5), (7, 5), (7, 6), (8, 4), (13, 4), (18, 4), (361, 3), (361, 4), (361, 5), (361, 6), (361, 7), (361, 8), (361, 9)] [4, 5, 6, 9, 10, 11, 14, 15, 16, 17, 19, 20, 21, 22, 362] true H H110 := fq_t hf97 hq112 rfl rfl rfl
              refine k_run 0 (pc' := 181) (l' := [(0, .inr (.inr 361)), (1, .inl x1), (2, .inl x2), (3, .inl x3), (4, .inl x4), (5, .inl x5), (6, .inl x6), (7, .inl z96), (8, .inl z90)]) (st' := [.inl z113]) rfl ?_
              refine h_zeq (off := 7) (t := 188) rfl rfl (by omega) (fun c115 => ?_) (fun c115 => ?_)
              · refine k_run 0 (pc' := 188) (l' := [(0, .inr (.inr 361)), (1, .inl x1), (2, .inl x2), (3, .inl x3), (4, .inl x4), (5, .inl x5), (6, .inl x6), (7, .inl z96), (8, .inl z90)]) (st' := []) rfl ?_
                refine k_run 6 (pc' := 199) (l' := [(0, .inr (.inr 361)), (1, .inl x1), (2, .inl x2), (3, .inl x3), (4, .inl x4), (5, .inl x5), (6, .inl x6), (7, .inl 0), (8, .inl z90)]) (st' := [.inl (H110.1 7 6), .inr (.inr 7)]) rfl ?_
                have g116 : 0 ≤ (H110.1 7 6) ∧ (H110.1 7 6) ≤ 16 := kn (x := kx_7) hI111 rfl 6
                have e117 : (H110.1 7 6) = (H93.1 7 6) := (hq112.1 7 6 rfl (by decide) (by decide)).1
                have e118 : (H93.1 7 6) = (H1.1 7 6) := (hq95.1 7 6 rfl (by decide) (by decide)).1
                refine k_run 1 (pc' := 201) (l' := [(0, .inr (.inr 361)), (1, .inl x1), (2, .inl x2), (3, .inl x3), (4, .inl x4), (5, .inl x5), (6, .inl x6), (7, .inl 0), (8, .inl z90)]) (st' := [.inl 0, .inl (H110.1 7 6), .inr (.inr 7)]) rfl ?_
                refine h_zeq (off := 14) (t := 215) rfl rfl (by decide) (fun _ => ?_) (fun c => absurd c (by decide))
                refine k_run 0 (pc' := 215) (l' := [(0, .inr (.inr 361)), (1, .inl x1), (2, .inl x2), (3, .inl x3), (4, .inl x4), (5, .inl x5), (6, .inl x6), (7, .inl 0), (8, .inl z90)]) (st' := [.inl (H110.1 7 6), .inr (.inr 7)]) rfl ?_
                refine k_run 2 (pc' := 217) (l' := [(0, .inr (.inr 361)), (1, .inl x1), (2, .inl x2), (3, .inl x3), (4, .inl x4), (5, .inl x5), (6, .inl x6), (7, .inl 0), (8, .inl z90)]) (st' := [.inl ((H110.1 7 6) + 0), .inr (.inr 7)]) rfl ?_
                refine k_puti (z := ((H110.1 7 6) + 0)) (a := 7) (x := kx_7) rfl rfl rfl (by decide) (by decide) rfl rfl rfl rfl hI111 (by omega) (show 0 ≤ ((H110.1 7 6) + 0) ∧ ((H110.1 7 6) + 0) ≤ 16 by omega) (fun H119 hI120 hw121 hv122 => ?_)
                have hf123 : fq [(2, 5), (7, 5), (7, 6), (8, 4), (13, 4), (18, 4), (361, 3), (361, 4), (361, 5), (361, 6), (361, 7), (361, 8), (361, 9)] [4, 5, 6, 9, 10, 11, 14, 15, 16, 17, 19, 20, 21, 22, 362] true H H119 := fq_w hf114 hw121 (fpo (by decide) rfl)
                refine k_run 0 (pc' := 220) (l' := [(0, .inr (.inr 361)), (1, .inl x1), (2, .inl x2), (3, .inl x3), (4, .inl x4), (5, .inl x5), (6, .inl x6), (7, .inl 0), (8, .inl z90)]) (st' := []) rfl ?_
                refine k_run 2 (pc' := 69) (l' := [(0, .inr (.inr 361)), (1, .inl x1), (2, .inl x2), (3, .inl x3), (4, .inl x4), (5, .inl x5), (6, .inl (x6 + 1)), (7, .inl 0), (8, .inl z90)]) (st' := []) rfl ?_
                have g124 : -2147483648 ≤ (H119.1 361 4) ∧ (H119.1 361 4) ≤ 2147483647 := kn (x := kx_361) hI120 rfl 4
                have e125 : (H119.1 361 4) = (H110.1 361 4) := hw121.2 _ _ (fun q => absurd q.1 (by decide))
                refine h_loc [0, 1, 2, 3, 4, 5, 6, 7] rfl ?_
                exact ih H119 hI120 hf123 x1 x2 x3 x4 x5 (x6 + 1) (0 : Int) (by omega) (by omega) (by omega) (by omega) (by omega) (by omega) (by decide) (by omega) (by omega) (by omega) (by omega) (by omega) (by omega) (by omega) (by omega) (by omega)
              · refine k_run 0 (pc' := 184) (l' := [(0, .inr (.inr 361)), (1, .inl x1), (2, .inl x2), (3, .inl x3), (4, .inl x4), (5, .inl x5), (6, .inl x6), (7, .inl z96), (8, .inl z90)]) (st' := []) rfl ?_
                refine k_run 7 (pc' := 199) (l' := [(0, .inr (.inr 361)), (1, .inl x1), (2, .inl x2), (3, .inl x3), (4, .inl x4), (5, .inl x5), (6, .inl x6), (7, .inl 1), (8, .inl z90)]) (st' := [.inl (H110.1 7 6), .inr (.inr 7)]) rfl ?_
                have g126 : 0 ≤ (H110.1 7 6) ∧ (H110.1 7 6) ≤ 16 := kn (x := kx_7) hI111 rfl 6
                have e127 : (H110.1 7 6) = (H93.1 7 6) := (hq112.1 7 6 rfl (by decide) (by decide)).1
                have e128 : (H93.1 7 6) = (H1.1 7 6) := (hq95.1 7 6 rfl (by decide) (by decide)).1
                refine k_run 1 (pc' := 201) (l' := [(0, .inr (.inr 361)), (1, .inl x1), (2, .inl x2), (3, .inl x3), (4, .inl x4), (5, .inl x5), (6, .inl x6), (7, .inl 1), (8, .inl z90)]) (st' := [.inl 1, .inl (H110.1 7 6), .inr (.inr 7)]) rfl ?_
                refine h_zeq (off := 14) (t := 215) rfl rfl (by decide) (fun c => absurd c (by decide)) (fun _ => ?_)
                refine k_run 0 (pc' := 204) (l' := [(0, .inr (.inr 361)), (1, .inl x1), (2, .inl x2), (3, .inl x3), (4, .inl x4), (5, .inl x5), (6, .inl x6), (7, .inl 1), (8, .inl z90)]) (st' := [.inl (H110.1 7 6), .inr (.inr 7)]) rfl ?_
                refine k_run 2 (pc' := 208) (l' := [(0, .inr (.inr 361)), (1, .inl x1), (2, .inl x2), (3, .inl x3), (4, .inl x4), (5, .inl x5), (6, .inl x6), (7, .inl 1), (8, .inl z90)]) (st' := [.inl 7, .inl z90, .inl (H110.1 7 6), .inr (.inr 7)]) rfl ?_
                refine h_ine (off := 7) (t := 215) rfl rfl (by omega) (by decide) (fun c129 => ?_) (fun c129 => ?_)
                · refine k_run 0 (pc' := 215) (l' := [(0, .inr (.inr 361)), (1, .inl x1), (2, .inl x2), (3, .inl x3), (4, .inl x4), (5, .inl x5), (6, .inl x6), (7, .inl 1), (8, .inl z90)]) (st' := [.inl (H110.1 7 6), .inr (.inr 7)]) rfl ?_
                  refine k_run 2 (pc' := 217) (l' := [(0, .inr (.inr 361)), (1, .inl x1), (2, .inl x2), (3, .inl x3), (4, .inl x4), (5, .inl x5), (6, .inl x6), (7, .inl 1), (8, .inl z90)]) (st' := [.inl ((H110.1 7 6) + 0), .inr (.inr 7)]) rfl ?_
                  refine k_puti (z := ((H110.1 7 6) + 0)) (a := 7) (x := kx_7) rfl rfl rfl (by decide) (by decide) rfl rfl rfl rfl hI111 (by omega) (show 0 ≤ ((H110.1 7 6) + 0) ∧ ((H110.1 7 6) + 0) ≤ 16 by omega) (fun H130 hI131 hw132 hv133 => ?_)
                  have hf134 : fq [(2, 5), (7, 5), (7, 6), (8, 4), (13, 4), (18, 4), (361, 3), (361, 4), (361, 5), (361, 6), (361, 7), (361, 8), (361, 9)] [4, 5, 6, 9, 10, 11, 14, 15, 16, 17, 19, 20, 21, 22, 362] true H H130 := fq_w hf114 hw132 (fpo (by decide) rfl)
                  refine k_run 0 (pc' := 220) (l' := [(0, .inr (.inr 361)), (1, .inl x1), (2, .inl x2), (3, .inl x3), (4, .inl x4), (5, .inl x5), (6, .inl x6), (7, .inl 1), (8, .inl z90)]) (st' := []) rfl ?_
                  refine k_run 2 (pc' := 69) (l' := [(0, .inr (.inr 361)), (1, .inl x1), (2, .inl x2), (3, .inl x3), (4, .inl x4), (5, .inl x5), (6, .inl (x6 + 1)), (7, .inl 1), (8, .inl z90)]) (st' := []) rfl ?_
                  have g135 : -2147483648 ≤ (H130.1 361 4) ∧ (H130.1 361 4) ≤ 2147483647 := kn (x := kx_361) hI131 rfl 4
                  have e136 : (H130.1 361 4) = (H110.1 361 4) := hw132.2 _ _ (fun q => absurd q.1 (by decide))
                  refine h_loc [0, 1, 2, 3, 4, 5, 6, 7] rfl ?_
                  exact ih H130 hI131 hf134 x1 x2 x3 x4 x5 (x6 + 1) (1 : Int) (by omega) (by omega) (by omega) (by omega) (by omega) (by omega) (by decide) (by omega) (by omega) (by omega) (by omega) (by omega) (by omega) (by omega) (by omega) (by omega)
                · refine k_run 0 (pc' := 211) (l' := [(0, .inr (.inr 361)), (1, .inl x1), (2, .inl x2), (3, .inl x3), (4, .inl x4), (5, .inl x5), (6, .inl x6), (7, .inl 1), (8, .inl z90)]) (st' := [.inl (H110.1 7 6), .inr (.inr 7)]) rfl ?_
                  refine k_run 3 (pc' := 217) (l' := [(0, .inr (.inr 361)), (1, .inl x1), (2, .inl x2), (3, .inl x3), (4, .inl x4), (5, .inl x5), (6, .inl x6), (7, .inl 1), (8, .inl z90)]) (st' := [.inl ((H110.1 7 6) + 1), .inr (.inr 7)]) rfl ?_
                  refine k_puti (z := ((H110.1 7 6) + 1)) (a := 7) (x := kx_7) rfl rfl rfl (by decide) (by decide) rfl rfl rfl rfl hI111 (by omega) (show 0 ≤ ((H110.1 7 6) + 1) ∧ ((H110.1 7 6) + 1) ≤ 16 by omega) (fun H137 hI138 hw139 hv140 => ?_)
                  have hf141 : fq [(2, 5), (7, 5), (7, 6), (8, 4), (13, 4), (18, 4), (361, 3), (361, 4), (361, 5), (361, 6), (361, 7), (361, 8), (361, 9)] [4, 5, 6, 9, 10, 11, 14, 15, 16, 17, 19, 20, 21, 22, 362] true H H137 := fq_w hf114 hw139 (fpo (by decide) rfl)
                  refine k_run 0 (pc' := 220) (l' := [(0, .inr (.inr 361)), (1, .inl x1), (2, .inl x2), (3, .inl x3), (4, .inl x4), (5, .inl x5), (6, .inl x6), (7, .inl 1), (8, .inl z90)]) (st' := []) rfl ?_
                  refine k_run 2 (pc' := 69) (l' := [(0, .inr (.inr 361)), (1, .inl x1), (2, .inl x2), (3, .inl x3), (4, .inl x4), (5, .inl x5), (6, .inl (x6 + 1)), (7, .inl 1), (8, .inl z90)]) (st' := []) rfl ?_
                  have g142 : -2147483648 ≤ (H137.1 361 4) ∧ (H137.1 361 4) ≤ 2147483647 := kn (x := kx_361) hI138 rfl 4
                  have e143 : (H137.1 361 4) = (H110.1 361 4) := hw139.2 _ _ (fun q => absurd q.1 (by decide))
                  refine h_loc [0, 1, 2, 3, 4, 5, 6, 7] rfl ?_
                  exact ih H137 hI138 hf141 x1 x2 x3 x4 x5 (x6 + 1) (1 : Int) (by omega) (by omega) (by omega) (by omega) (by omega) (by omega) (by decide) (by omega) (by omega) (by omega) (by omega) (by omega) (by omega) (by omega) (by omega) (by omega)
          · refine h_tout (t := 164) rfl (by omega) (Or.inr c91) rfl ?_
            refine k_run 1 (pc' := 165) (l' := [(0, .inr (.inr 361)), (1, .inl x1), (2, .inl x2), (3, .inl x3), (4, .inl x4), (5, .inl x5), (6, .inl x6), (7, .inl x7), (8, .inl z90)]) (st' := [.inr (.inr 361)]) rfl ?_
            refine h_cv (i := 89) (j := 85) (b := 361) (M' := mt_85) (xs := []) (rest := []) rfl rfl rfl rfl (zs_K (x := kx_361) rfl (by decide)) rfl (Nat.le_of_ble_eq_true rfl) (Nat.le_of_ble_eq_true rfl) (by omega) (f_Reader_misplaced (by omega) hI1 ) ?_
            rintro _ H145 ⟨z148, rfl, g144, hI146, hq147⟩
            have hf149 : fq [(2, 5), (7, 5), (7, 6), (8, 4), (13, 4), (18, 4), (361, 3), (361, 4), (361, 5), (361, 6), (361, 7), (361, 8), (361, 9)] [4, 5, 6, 9, 10, 11, 14, 15, 16, 17, 19, 20, 21, 22, 362] true H H145 := fq_t hf1 hq147 rfl rfl rfl
            refine k_run 0 (pc' := 168) (l' := [(0, .inr (.inr 361)), (1, .inl x1), (2, .inl x2), (3, .inl x3), (4, .inl x4), (5, .inl x5), (6, .inl x6), (7, .inl x7), (8, .inl z90)]) (st' := [.inl z148]) rfl ?_
            refine k_run 2 (pc' := 172) (l' := [(0, .inr (.inr 361)), (1, .inl x1), (2, .inl x2), (3, .inl x3), (4, .inl x4), (5, .inl x5), (6, .inl x6), (7, .inl z148), (8, .inl z90)]) (st' := [.inl z148]) rfl ?_
            refine h_zeq (off := 16) (t := 188) rfl rfl (by omega) (fun c150 => ?_) (fun c150 => ?_)
            · refine k_run 0 (pc' := 188) (l' := [(0, .inr (.inr 361)), (1, .inl x1), (2, .inl x2), (3, .inl x3), (4, .inl x4), (5, .inl x5), (6, .inl x6), (7, .inl z148), (8, .inl z90)]) (st' := []) rfl ?_
              refine k_run 6 (pc' := 199) (l' := [(0, .inr (.inr 361)), (1, .inl x1), (2, .inl x2), (3, .inl x3), (4, .inl x4), (5, .inl x5), (6, .inl x6), (7, .inl 0), (8, .inl z90)]) (st' := [.inl (H145.1 7 6), .inr (.inr 7)]) rfl ?_
              have g151 : 0 ≤ (H145.1 7 6) ∧ (H145.1 7 6) ≤ 16 := kn (x := kx_7) hI146 rfl 6
              have e152 : (H145.1 7 6) = (H1.1 7 6) := (hq147.1 7 6 rfl (by decide) (by decide)).1
              refine k_run 1 (pc' := 201) (l' := [(0, .inr (.inr 361)), (1, .inl x1), (2, .inl x2), (3, .inl x3), (4, .inl x4), (5, .inl x5), (6, .inl x6), (7, .inl 0), (8, .inl z90)]) (st' := [.inl 0, .inl (H145.1 7 6), .inr (.inr 7)]) rfl ?_
              refine h_zeq (off := 14) (t := 215) rfl rfl (by decide) (fun _ => ?_) (fun c => absurd c (by decide))
              refine k_run 0 (pc' := 215) (l' := [(0, .inr (.inr 361)), (1, .inl x1), (2, .inl x2), (3, .inl x3), (4, .inl x4), (5, .inl x5), (6, .inl x6), (7, .inl 0), (8, .inl z90)]) (st' := [.inl (H145.1 7 6), .inr (.inr 7)]) rfl ?_
              refine k_run 2 (pc' := 217) (l' := [(0, .inr (.inr 361)), (1, .inl x1), (2, .inl x2), (3, .inl x3), (4, .inl x4), (5, .inl x5), (6, .inl x6), (7, .inl 0), (8, .inl z90)]) (st' := [.inl ((H145.1 7 6) + 0), .inr (.inr 7)]) rfl ?_
              refine k_puti (z := ((H145.1 7 6) + 0)) (a := 7) (x := kx_7) rfl rfl rfl (by decide) (by decide) rfl rfl rfl rfl hI146 (by omega) (show 0 ≤ ((H145.1 7 6) + 0) ∧ ((H145.1 7 6) + 0) ≤ 16 by omega) (fun H153 hI154 hw155 hv156 => ?_)
              have hf157 : fq [(2, 5), (7, 5), (7, 6), (8, 4), (13, 4), (18, 4), (361, 3), (361, 4), (361, 5), (361, 6), (361, 7), (361, 8), (361, 9)] [4, 5, 6, 9, 10, 11, 14, 15, 16, 17, 19, 20, 21, 22, 362] true H H153 := fq_w hf149 hw155 (fpo (by decide) rfl)
              refine k_run 0 (pc' := 220) (l' := [(0, .inr (.inr 361)), (1, .inl x1), (2, .inl x2), (3, .inl x3), (4, .inl x4), (5, .inl x5), (6, .inl x6), (7, .inl 0), (8, .inl z90)]) (st' := []) rfl ?_
              refine k_run 2 (pc' := 69) (l' := [(0, .inr (.inr 361)), (1, .inl x1), (2, .inl x2), (3, .inl x3), (4, .inl x4), (5, .inl x5), (6, .inl (x6 + 1)), (7, .inl 0), (8, .inl z90)]) (st' := []) rfl ?_
              have g158 : -2147483648 ≤ (H153.1 361 4) ∧ (H153.1 361 4) ≤ 2147483647 := kn (x := kx_361) hI154 rfl 4
              have e159 : (H153.1 361 4) = (H145.1 361 4) := hw155.2 _ _ (fun q => absurd q.1 (by decide))
              refine h_loc [0, 1, 2, 3, 4, 5, 6, 7] rfl ?_
              exact ih H153 hI154 hf157 x1 x2 x3 x4 x5 (x6 + 1) (0 : Int) (by omega) (by omega) (by omega) (by omega) (by omega) (by omega) (by decide) (by omega) (by omega) (by omega) (by omega) (by omega) (by omega) (by omega) (by omega) (by omega)
            · refine k_run 0 (pc' := 175) (l' := [(0, .inr (.inr 361)), (1, .inl x1), (2, .inl x2), (3, .inl x3), (4, .inl x4), (5, .inl x5), (6, .inl x6), (7, .inl z148), (8, .inl z90)]) (st' := []) rfl ?_
              refine k_run 2 (pc' := 178) (l' := [(0, .inr (.inr 361)), (1, .inl x1), (2, .inl x2), (3, .inl x3), (4, .inl x4), (5, .inl x5), (6, .inl x6), (7, .inl z148), (8, .inl z90)]) (st' := [.inl 59, .inr (.inr 361)]) rfl ?_
              have g160 : -2147483648 ≤ (H145.1 361 4) ∧ (H145.1 361 4) ≤ 2147483647 := kn (x := kx_361) hI146 rfl 4
              refine h_cv (i := 92) (j := 82) (b := 361) (M' := mt_82) (xs := [.inl 59]) (rest := []) rfl rfl rfl rfl (zs_K (x := kx_361) rfl (by decide)) rfl (Nat.le_of_ble_eq_true rfl) (Nat.le_of_ble_eq_true rfl) (by omega) (f_Reader_take (by omega) hI146 (by decide)) ?_
              rintro _ H162 ⟨z165, rfl, g161, hI163, hq164⟩
              have hf166 : fq [(2, 5), (7, 5), (7, 6), (8, 4), (13, 4), (18, 4), (361, 3), (361, 4), (361, 5), (361, 6), (361, 7), (361, 8), (361, 9)] [4, 5, 6, 9, 10, 11, 14, 15, 16, 17, 19, 20, 21, 22, 362] true H H162 := fq_t hf149 hq164 rfl rfl rfl
              refine k_run 0 (pc' := 181) (l' := [(0, .inr (.inr 361)), (1, .inl x1), (2, .inl x2), (3, .inl x3), (4, .inl x4), (5, .inl x5), (6, .inl x6), (7, .inl z148), (8, .inl z90)]) (st' := [.inl z165]) rfl ?_
              refine h_zeq (off := 7) (t := 188) rfl rfl (by omega) (fun c167 => ?_) (fun c167 => ?_)
              · refine k_run 0 (pc' := 188) (l' := [(0, .inr (.inr 361)), (1, .inl x1), (2, .inl x2), (3, .inl x3), (4, .inl x4), (5, .inl x5), (6, .inl x6), (7, .inl z148), (8, .inl z90)]) (st' := []) rfl ?_
                refine k_run 6 (pc' := 199) (l' := [(0, .inr (.inr 361)), (1, .inl x1), (2, .inl x2), (3, .inl x3), (4, .inl x4), (5, .inl x5), (6, .inl x6), (7, .inl 0), (8, .inl z90)]) (st' := [.inl (H162.1 7 6), .inr (.inr 7)]) rfl ?_
                have g168 : 0 ≤ (H162.1 7 6) ∧ (H162.1 7 6) ≤ 16 := kn (x := kx_7) hI163 rfl 6
                have e169 : (H162.1 7 6) = (H145.1 7 6) := (hq164.1 7 6 rfl (by decide) (by decide)).1
                have e170 : (H145.1 7 6) = (H1.1 7 6) := (hq147.1 7 6 rfl (by decide) (by decide)).1
                refine k_run 1 (pc' := 201) (l' := [(0, .inr (.inr 361)), (1, .inl x1), (2, .inl x2), (3, .inl x3), (4, .inl x4), (5, .inl x5), (6, .inl x6), (7, .inl 0), (8, .inl z90)]) (st' := [.inl 0, .inl (H162.1 7 6), .inr (.inr 7)]) rfl ?_
                refine h_zeq (off := 14) (t := 215) rfl rfl (by decide) (fun _ => ?_) (fun c => absurd c (by decide))
                refine k_run 0 (pc' := 215) (l' := [(0, .inr (.inr 361)), (1, .inl x1), (2, .inl x2), (3, .inl x3), (4, .inl x4), (5, .inl x5), (6, .inl x6), (7, .inl 0), (8, .inl z90)]) (st' := [.inl (H162.1 7 6), .inr (.inr 7)]) rfl ?_
                refine k_run 2 (pc' := 217) (l' := [(0, .inr (.inr 361)), (1, .inl x1), (2, .inl x2), (3, .inl x3), (4, .inl x4), (5, .inl x5), (6, .inl x6), (7, .inl 0), (8, .inl z90)]) (st' := [.inl ((H162.1 7 6) + 0), .inr (.inr 7)]) rfl ?_
                refine k_puti (z := ((H162.1 7 6) + 0)) (a := 7) (x := kx_7) rfl rfl rfl (by decide) (by decide) rfl rfl rfl rfl hI163 (by omega) (show 0 ≤ ((H162.1 7 6) + 0) ∧ ((H162.1 7 6) + 0) ≤ 16 by omega) (fun H171 hI172 hw173 hv174 => ?_)
                have hf175 : fq [(2, 5), (7, 5), (7, 6), (8, 4), (13, 4), (18, 4), (361, 3), (361, 4), (361, 5), (361, 6), (361, 7), (361, 8), (361, 9)] [4, 5, 6, 9, 10, 11, 14, 15, 16, 17, 19, 20, 21, 22, 362] true H H171 := fq_w hf166 hw173 (fpo (by decide) rfl)
                refine k_run 0 (pc' := 220) (l' := [(0, .inr (.inr 361)), (1, .inl x1), (2, .inl x2), (3, .inl x3), (4, .inl x4), (5, .inl x5), (6, .inl x6), (7, .inl 0), (8, .inl z90)]) (st' := []) rfl ?_
                refine k_run 2 (pc' := 69) (l' := [(0, .inr (.inr 361)), (1, .inl x1), (2, .inl x2), (3, .inl x3), (4, .inl x4), (5, .inl x5), (6, .inl (x6 + 1)), (7, .inl 0), (8, .inl z90)]) (st' := []) rfl ?_
                have g176 : -2147483648 ≤ (H171.1 361 4) ∧ (H171.1 361 4) ≤ 2147483647 := kn (x := kx_361) hI172 rfl 4
                have e177 : (H171.1 361 4) = (H162.1 361 4) := hw173.2 _ _ (fun q => absurd q.1 (by decide))
                refine h_loc [0, 1, 2, 3, 4, 5, 6, 7] rfl ?_
                exact ih H171 hI172 hf175 x1 x2 x3 x4 x5 (x6 + 1) (0 : Int) (by omega) (by omega) (by omega) (by omega) (by omega) (by omega) (by decide) (by omega) (by omega) (by omega) (by omega) (by omega) (by omega) (by omega) (by omega) (by omega)
              · refine k_run 0 (pc' := 184) (l' := [(0, .inr (.inr 361)), (1, .inl x1), (2, .inl x2), (3, .inl x3), (4, .inl x4), (5, .inl x5), (6, .inl x6), (7, .inl z148), (8, .inl z90)]) (st' := []) rfl ?_
                refine k_run 7 (pc' := 199) (l' := [(0, .inr (.inr 361)), (1, .inl x1), (2, .inl x2), (3, .inl x3), (4, .inl x4), (5, .inl x5), (6, .inl x6), (7, .inl 1), (8, .inl z90)]) (st' := [.inl (H162.1 7 6), .inr (.inr 7)]) rfl ?_
                have g178 : 0 ≤ (H162.1 7 6) ∧ (H162.1 7 6) ≤ 16 := kn (x := kx_7) hI163 rfl 6
                have e179 : (H162.1 7 6) = (H145.1 7 6) := (hq164.1 7 6 rfl (by decide) (by decide)).1
                have e180 : (H145.1 7 6) = (H1.1 7 6) := (hq147.1 7 6 rfl (by decide) (by decide)).1
                refine k_run 1 (pc' := 201) (l' := [(0, .inr (.inr 361)), (1, .inl x1), (2, .inl x2), (3, .inl x3), (4, .inl x4), (5, .inl x5), (6, .inl x6), (7, .inl 1), (8, .inl z90)]) (st' := [.inl 1, .inl (H162.1 7 6), .inr (.inr 7)]) rfl ?_
                refine h_zeq (off := 14) (t := 215) rfl rfl (by decide) (fun c => absurd c (by decide)) (fun _ => ?_)
                refine k_run 0 (pc' := 204) (l' := [(0, .inr (.inr 361)), (1, .inl x1), (2, .inl x2), (3, .inl x3), (4, .inl x4), (5, .inl x5), (6, .inl x6), (7, .inl 1), (8, .inl z90)]) (st' := [.inl (H162.1 7 6), .inr (.inr 7)]) rfl ?_
                refine k_run 2 (pc' := 208) (l' := [(0, .inr (.inr 361)), (1, .inl x1), (2, .inl x2), (3, .inl x3), (4, .inl x4), (5, .inl x5), (6, .inl x6), (7, .inl 1), (8, .inl z90)]) (st' := [.inl 7, .inl z90, .inl (H162.1 7 6), .inr (.inr 7)]) rfl ?_
                refine h_ine (off := 7) (t := 215) rfl rfl (by omega) (by decide) (fun c181 => ?_) (fun c181 => ?_)
                · refine k_run 0 (pc' := 215) (l' := [(0, .inr (.inr 361)), (1, .inl x1), (2, .inl x2), (3, .inl x3), (4, .inl x4), (5, .inl x5), (6, .inl x6), (7, .inl 1), (8, .inl z90)]) (st' := [.inl (H162.1 7 6), .inr (.inr 7)]) rfl ?_
                  refine k_run 2 (pc' := 217) (l' := [(0, .inr (.inr 361)), (1, .inl x1), (2, .inl x2), (3, .inl x3), (4, .inl x4), (5, .inl x5), (6, .inl x6), (7, .inl 1), (8, .inl z90)]) (st' := [.inl ((H162.1 7 6) + 0), .inr (.inr 7)]) rfl ?_
                  refine k_puti (z := ((H162.1 7 6) + 0)) (a := 7) (x := kx_7) rfl rfl rfl (by decide) (by decide) rfl rfl rfl rfl hI163 (by omega) (show 0 ≤ ((H162.1 7 6) + 0) ∧ ((H162.1 7 6) + 0) ≤ 16 by omega) (fun H182 hI183 hw184 hv185 => ?_)
                  have hf186 : fq [(2, 5), (7, 5), (7, 6), (8, 4), (13, 4), (18, 4), (361, 3), (361, 4), (361, 5), (361, 6), (361, 7), (361, 8), (361, 9)] [4, 5, 6, 9, 10, 11, 14, 15, 16, 17, 19, 20, 21, 22, 362] true H H182 := fq_w hf166 hw184 (fpo (by decide) rfl)
                  refine k_run 0 (pc' := 220) (l' := [(0, .inr (.inr 361)), (1, .inl x1), (2, .inl x2), (3, .inl x3), (4, .inl x4), (5, .inl x5), (6, .inl x6), (7, .inl 1), (8, .inl z90)]) (st' := []) rfl ?_
                  refine k_run 2 (pc' := 69) (l' := [(0, .inr (.inr 361)), (1, .inl x1), (2, .inl x2), (3, .inl x3), (4, .inl x4), (5, .inl x5), (6, .inl (x6 + 1)), (7, .inl 1), (8, .inl z90)]) (st' := []) rfl ?_
                  have g187 : -2147483648 ≤ (H182.1 361 4) ∧ (H182.1 361 4) ≤ 2147483647 := kn (x := kx_361) hI183 rfl 4
                  have e188 : (H182.1 361 4) = (H162.1 361 4) := hw184.2 _ _ (fun q => absurd q.1 (by decide))
                  refine h_loc [0, 1, 2, 3, 4, 5, 6, 7] rfl ?_
                  exact ih H182 hI183 hf186 x1 x2 x3 x4 x5 (x6 + 1) (1 : Int) (by omega) (by omega) (by omega) (by omega) (by omega) (by omega) (by decide) (by omega) (by omega) (by omega) (by omega) (by omega) (by omega) (by omega) (by omega) (by omega)
                · refine k_run 0 (pc' := 211) (l' := [(0, .inr (.inr 361)), (1, .inl x1), (2, .inl x2), (3, .inl x3), (4, .inl x4), (5, .inl x5), (6, .inl x6), (7, .inl 1), (8, .inl z90)]) (st' := [.inl (H162.1 7 6), .inr (.inr 7)]) rfl ?_
                  refine k_run 3 (pc' := 217) (l' := [(0, .inr (.inr 361)), (1, .inl x1), (2, .inl x2), (3, .inl x3), (4, .inl x4), (5, .inl x5), (6, .inl x6), (7, .inl 1), (8, .inl z90)]) (st' := [.inl ((H162.1 7 6) + 1), .inr (.inr 7)]) rfl ?_
                  refine k_puti (z := ((H162.1 7 6) + 1)) (a := 7) (x := kx_7) rfl rfl rfl (by decide) (by decide) rfl rfl rfl rfl hI163 (by omega) (show 0 ≤ ((H162.1 7 6) + 1) ∧ ((H162.1 7 6) + 1) ≤ 16 by omega) (fun H189 hI190 hw191 hv192 => ?_)
                  have hf193 : fq [(2, 5), (7, 5), (7, 6), (8, 4), (13, 4), (18, 4), (361, 3), (361, 4), (361, 5), (361, 6), (361, 7), (361, 8), (361, 9)] [4, 5, 6, 9, 10, 11, 14, 15, 16, 17, 19, 20, 21, 22, 362] true H H189 := fq_w hf166 hw191 (fpo (by decide) rfl)
                  refine k_run 0 (pc' := 220) (l' := [(0, .inr (.inr 361)), (1, .inl x1), (2, .inl x2), (3, .inl x3), (4, .inl x4), (5, .inl x5), (6, .inl x6), (7, .inl 1), (8, .inl z90)]) (st' := []) rfl ?_
                  refine k_run 2 (pc' := 69) (l' := [(0, .inr (.inr 361)), (1, .inl x1), (2, .inl x2), (3, .inl x3), (4, .inl x4), (5, .inl x5), (6, .inl (x6 + 1)), (7, .inl 1), (8, .inl z90)]) (st' := []) rfl ?_
                  have g194 : -2147483648 ≤ (H189.1 361 4) ∧ (H189.1 361 4) ≤ 2147483647 := kn (x := kx_361) hI190 rfl 4
                  have e195 : (H189.1 361 4) = (H162.1 361 4) := hw191.2 _ _ (fun q => absurd q.1 (by decide))
                  refine h_loc [0, 1, 2, 3, 4, 5, 6, 7] rfl ?_
                  exact ih H189 hI190 hf193 x1 x2 x3 x4 x5 (x6 + 1) (1 : Int) (by omega) (by omega) (by omega) (by omega) (by omega) (by omega) (by decide) (by omega) (by omega) (by omega) (by omega) (by omega) (by omega) (by omega) (by omega) (by omega)
          · refine h_tin (k := 0) (t := 128) rfl (by omega) (show z90 = 4 + ((0 : Nat) : Int) by omega) (by decide) rfl rfl ?_
            refine k_run 1 (pc' := 129) (l' := [(0, .inr (.inr 361)), (1, .inl x1), (2, .inl x2), (3, .inl x3), (4, .inl x4), (5, .inl x5), (6, .inl x6), (7, .inl x7), (8, .inl z90)]) (st' := [.inr (.inr 361)]) rfl ?_
            refine h_cv (i := 76) (j := 64) (b := 361) (M' := mt_64) (xs := []) (rest := []) rfl rfl rfl rfl (zs_K (x := kx_361) rfl (by decide)) rfl (Nat.le_of_ble_eq_true rfl) (Nat.le_of_ble_eq_true rfl) (by omega) (f_Reader_readData (by omega) hI1 ) ?_
            rintro _ H197 ⟨z200, rfl, g196, hI198, hq199⟩
            have hf201 : fq [(2, 5), (7, 5), (7, 6), (8, 4), (13, 4), (18, 4), (361, 3), (361, 4), (361, 5), (361, 6), (361, 7), (361, 8), (361, 9)] [4, 5, 6, 9, 10, 11, 14, 15, 16, 17, 19, 20, 21, 22, 362] true H H197 := fq_t hf1 hq199 rfl rfl rfl
            refine k_run 0 (pc' := 132) (l' := [(0, .inr (.inr 361)), (1, .inl x1), (2, .inl x2), (3, .inl x3), (4, .inl x4), (5, .inl x5), (6, .inl x6), (7, .inl x7), (8, .inl z90)]) (st' := [.inl z200]) rfl ?_
            refine k_run 3 (pc' := 172) (l' := [(0, .inr (.inr 361)), (1, .inl x1), (2, .inl x2), (3, .inl x3), (4, .inl x4), (5, .inl x5), (6, .inl x6), (7, .inl z200), (8, .inl z90)]) (st' := [.inl z200]) rfl ?_
            refine h_zeq (off := 16) (t := 188) rfl rfl (by omega) (fun c202 => ?_) (fun c202 => ?_)
            · refine k_run 0 (pc' := 188) (l' := [(0, .inr (.inr 361)), (1, .inl x1), (2, .inl x2), (3, .inl x3), (4, .inl x4), (5, .inl x5), (6, .inl x6), (7, .inl z200), (8, .inl z90)]) (st' := []) rfl ?_
              refine k_run 6 (pc' := 199) (l' := [(0, .inr (.inr 361)), (1, .inl x1), (2, .inl x2), (3, .inl x3), (4, .inl x4), (5, .inl x5), (6, .inl x6), (7, .inl 0), (8, .inl z90)]) (st' := [.inl (H197.1 7 6), .inr (.inr 7)]) rfl ?_
              have g203 : 0 ≤ (H197.1 7 6) ∧ (H197.1 7 6) ≤ 16 := kn (x := kx_7) hI198 rfl 6
              have e204 : (H197.1 7 6) = (H1.1 7 6) := (hq199.1 7 6 rfl (by decide) (by decide)).1
              refine k_run 1 (pc' := 201) (l' := [(0, .inr (.inr 361)), (1, .inl x1), (2, .inl x2), (3, .inl x3), (4, .inl x4), (5, .inl x5), (6, .inl x6), (7, .inl 0), (8, .inl z90)]) (st' := [.inl 0, .inl (H197.1 7 6), .inr (.inr 7)]) rfl ?_
              refine h_zeq (off := 14) (t := 215) rfl rfl (by decide) (fun _ => ?_) (fun c => absurd c (by decide))
              refine k_run 0 (pc' := 215) (l' := [(0, .inr (.inr 361)), (1, .inl x1), (2, .inl x2), (3, .inl x3), (4, .inl x4), (5, .inl x5), (6, .inl x6), (7, .inl 0), (8, .inl z90)]) (st' := [.inl (H197.1 7 6), .inr (.inr 7)]) rfl ?_
              refine k_run 2 (pc' := 217) (l' := [(0, .inr (.inr 361)), (1, .inl x1), (2, .inl x2), (3, .inl x3), (4, .inl x4), (5, .inl x5), (6, .inl x6), (7, .inl 0), (8, .inl z90)]) (st' := [.inl ((H197.1 7 6) + 0), .inr (.inr 7)]) rfl ?_
              refine k_puti (z := ((H197.1 7 6) + 0)) (a := 7) (x := kx_7) rfl rfl rfl (by decide) (by decide) rfl rfl rfl rfl hI198 (by omega) (show 0 ≤ ((H197.1 7 6) + 0) ∧ ((H197.1 7 6) + 0) ≤ 16 by omega) (fun H205 hI206 hw207 hv208 => ?_)
              have hf209 : fq [(2, 5), (7, 5), (7, 6), (8, 4), (13, 4), (18, 4), (361, 3), (361, 4), (361, 5), (361, 6), (361, 7), (361, 8), (361, 9)] [4, 5, 6, 9, 10, 11, 14, 15, 16, 17, 19, 20, 21, 22, 362] true H H205 := fq_w hf201 hw207 (fpo (by decide) rfl)
              refine k_run 0 (pc' := 220) (l' := [(0, .inr (.inr 361)), (1, .inl x1), (2, .inl x2), (3, .inl x3), (4, .inl x4), (5, .inl x5), (6, .inl x6), (7, .inl 0), (8, .inl z90)]) (st' := []) rfl ?_
              refine k_run 2 (pc' := 69) (l' := [(0, .inr (.inr 361)), (1, .inl x1), (2, .inl x2), (3, .inl x3), (4, .inl x4), (5, .inl x5), (6, .inl (x6 + 1)), (7, .inl 0), (8, .inl z90)]) (st' := []) rfl ?_
              have g210 : -2147483648 ≤ (H205.1 361 4) ∧ (H205.1 361 4) ≤ 2147483647 := kn (x := kx_361) hI206 rfl 4
              have e211 : (H205.1 361 4) = (H197.1 361 4) := hw207.2 _ _ (fun q => absurd q.1 (by decide))
              refine h_loc [0, 1, 2, 3, 4, 5, 6, 7] rfl ?_
              exact ih H205 hI206 hf209 x1 x2 x3 x4 x5 (x6 + 1) (0 : Int) (by omega) (by omega) (by omega) (by omega) (by omega) (by omega) (by decide) (by omega) (by omega) (by omega) (by omega) (by omega) (by omega) (by omega) (by omega) (by omega)
            · refine k_run 0 (pc' := 175) (l' := [(0, .inr (.inr 361)), (1, .inl x1), (2, .inl x2), (3, .inl x3), (4, .inl x4), (5, .inl x5), (6, .inl x6), (7, .inl z200), (8, .inl z90)]) (st' := []) rfl ?_
              refine k_run 2 (pc' := 178) (l' := [(0, .inr (.inr 361)), (1, .inl x1), (2, .inl x2), (3, .inl x3), (4, .inl x4), (5, .inl x5), (6, .inl x6), (7, .inl z200), (8, .inl z90)]) (st' := [.inl 59, .inr (.inr 361)]) rfl ?_
              have g212 : -2147483648 ≤ (H197.1 361 4) ∧ (H197.1 361 4) ≤ 2147483647 := kn (x := kx_361) hI198 rfl 4
              refine h_cv (i := 92) (j := 82) (b := 361) (M' := mt_82) (xs := [.inl 59]) (rest := []) rfl rfl rfl rfl (zs_K (x := kx_361) rfl (by decide)) rfl (Nat.le_of_ble_eq_true rfl) (Nat.le_of_ble_eq_true rfl) (by omega) (f_Reader_take (by omega) hI198 (by decide)) ?_
              rintro _ H214 ⟨z217, rfl, g213, hI215, hq216⟩
              have hf218 : fq [(2, 5), (7, 5), (7, 6), (8, 4), (13, 4), (18, 4), (361, 3), (361, 4), (361, 5), (361, 6), (361, 7), (361, 8), (361, 9)] [4, 5, 6, 9, 10, 11, 14, 15, 16, 17, 19, 20, 21, 22, 362] true H H214 := fq_t hf201 hq216 rfl rfl rfl
              refine k_run 0 (pc' := 181) (l' := [(0, .inr (.inr 361)), (1, .inl x1), (2, .inl x2), (3, .inl x3), (4, .inl x4), (5, .inl x5), (6, .inl x6), (7, .inl z200), (8, .inl z90)]) (st' := [.inl z217]) rfl ?_
              refine h_zeq (off := 7) (t := 188) rfl rfl (by omega) (fun c219 => ?_) (fun c219 => ?_)
              · refine k_run 0 (pc' := 188) (l' := [(0, .inr (.inr 361)), (1, .inl x1), (2, .inl x2), (3, .inl x3), (4, .inl x4), (5, .inl x5), (6, .inl x6), (7, .inl z200), (8, .inl z90)]) (st' := []) rfl ?_
                refine k_run 6 (pc' := 199) (l' := [(0, .inr (.inr 361)), (1, .inl x1), (2, .inl x2), (3, .inl x3), (4, .inl x4), (5, .inl x5), (6, .inl x6), (7, .inl 0), (8, .inl z90)]) (st' := [.inl (H214.1 7 6), .inr (.inr 7)]) rfl ?_
                have g220 : 0 ≤ (H214.1 7 6) ∧ (H214.1 7 6) ≤ 16 := kn (x := kx_7) hI215 rfl 6
                have e221 : (H214.1 7 6) = (H197.1 7 6) := (hq216.1 7 6 rfl (by decide) (by decide)).1
                have e222 : (H197.1 7 6) = (H1.1 7 6) := (hq199.1 7 6 rfl (by decide) (by decide)).1
                refine k_run 1 (pc' := 201) (l' := [(0, .inr (.inr 361)), (1, .inl x1), (2, .inl x2), (3, .inl x3), (4, .inl x4), (5, .inl x5), (6, .inl x6), (7, .inl 0), (8, .inl z90)]) (st' := [.inl 0, .inl (H214.1 7 6), .inr (.inr 7)]) rfl ?_
                refine h_zeq (off := 14) (t := 215) rfl rfl (by decide) (fun _ => ?_) (fun c => absurd c (by decide))
                refine k_run 0 (pc' := 215) (l' := [(0, .inr (.inr 361)), (1, .inl x1), (2, .inl x2), (3, .inl x3), (4, .inl x4), (5, .inl x5), (6, .inl x6), (7, .inl 0), (8, .inl z90)]) (st' := [.inl (H214.1 7 6), .inr (.inr 7)]) rfl ?_
                refine k_run 2 (pc' := 217) (l' := [(0, .inr (.inr 361)), (1, .inl x1), (2, .inl x2), (3, .inl x3), (4, .inl x4), (5, .inl x5), (6, .inl x6), (7, .inl 0), (8, .inl z90)]) (st' := [.inl ((H214.1 7 6) + 0), .inr (.inr 7)]) rfl ?_
                refine k_puti (z := ((H214.1 7 6) + 0)) (a := 7) (x := kx_7) rfl rfl rfl (by decide) (by decide) rfl rfl rfl rfl hI215 (by omega) (show 0 ≤ ((H214.1 7 6) + 0) ∧ ((H214.1 7 6) + 0) ≤ 16 by omega) (fun H223 hI224 hw225 hv226 => ?_)
                have hf227 : fq [(2, 5), (7, 5), (7, 6), (8, 4), (13, 4), (18, 4), (361, 3), (361, 4), (361, 5), (361, 6), (361, 7), (361, 8), (361, 9)] [4, 5, 6, 9, 10, 11, 14, 15, 16, 17, 19, 20, 21, 22, 362] true H H223 := fq_w hf218 hw225 (fpo (by decide) rfl)
                refine k_run 0 (pc' := 220) (l' := [(0, .inr (.inr 361)), (1, .inl x1), (2, .inl x2), (3, .inl x3), (4, .inl x4), (5, .inl x5), (6, .inl x6), (7, .inl 0), (8, .inl z90)]) (st' := []) rfl ?_
                refine k_run 2 (pc' := 69) (l' := [(0, .inr (.inr 361)), (1, .inl x1), (2, .inl x2), (3, .inl x3), (4, .inl x4), (5, .inl x5), (6, .inl (x6 + 1)), (7, .inl 0), (8, .inl z90)]) (st' := []) rfl ?_
                have g228 : -2147483648 ≤ (H223.1 361 4) ∧ (H223.1 361 4) ≤ 2147483647 := kn (x := kx_361) hI224 rfl 4
                have e229 : (H223.1 361 4) = (H214.1 361 4) := hw225.2 _ _ (fun q => absurd q.1 (by decide))
                refine h_loc [0, 1, 2, 3, 4, 5, 6, 7] rfl ?_
                exact ih H223 hI224 hf227 x1 x2 x3 x4 x5 (x6 + 1) (0 : Int) (by omega) (by omega) (by omega) (by omega) (by omega) (by omega) (by decide) (by omega) (by omega) (by omega) (by omega) (by omega) (by omega) (by omega) (by omega) (by omega)
              · refine k_run 0 (pc' := 184) (l' := [(0, .inr (.inr 361)), (1, .inl x1), (2, .inl x2), (3, .inl x3), (4, .inl x4), (5, .inl x5), (6, .inl x6), (7, .inl z200), (8, .inl z90)]) (st' := []) rfl ?_
                refine k_run 7 (pc' := 199) (l' := [(0, .inr (.inr 361)), (1, .inl x1), (2, .inl x2), (3, .inl x3), (4, .inl x4), (5, .inl x5), (6, .inl x6), (7, .inl 1), (8, .inl z90)]) (st' := [.inl (H214.1 7 6), .inr (.inr 7)]) rfl ?_
                have g230 : 0 ≤ (H214.1 7 6) ∧ (H214.1 7 6) ≤ 16 := kn (x := kx_7) hI215 rfl 6
                have e231 : (H214.1 7 6) = (H197.1 7 6) := (hq216.1 7 6 rfl (by decide) (by decide)).1
                have e232 : (H197.1 7 6) = (H1.1 7 6) := (hq199.1 7 6 rfl (by decide) (by decide)).1
                refine k_run 1 (pc' := 201) (l' := [(0, .inr (.inr 361)), (1, .inl x1), (2, .inl x2), (3, .inl x3), (4, .inl x4), (5, .inl x5), (6, .inl x6), (7, .inl 1), (8, .inl z90)]) (st' := [.inl 1, .inl (H214.1 7 6), .inr (.inr 7)]) rfl ?_
                refine h_zeq (off := 14) (t := 215) rfl rfl (by decide) (fun c => absurd c (by decide)) (fun _ => ?_)
                refine k_run 0 (pc' := 204) (l' := [(0, .inr (.inr 361)), (1, .inl x1), (2, .inl x2), (3, .inl x3), (4, .inl x4), (5, .inl x5), (6, .inl x6), (7, .inl 1), (8, .inl z90)]) (st' := [.inl (H214.1 7 6), .inr (.inr 7)]) rfl ?_
                refine k_run 2 (pc' := 208) (l' := [(0, .inr (.inr 361)), (1, .inl x1), (2, .inl x2), (3, .inl x3), (4, .inl x4), (5, .inl x5), (6, .inl x6), (7, .inl 1), (8, .inl z90)]) (st' := [.inl 7, .inl z90, .inl (H214.1 7 6), .inr (.inr 7)]) rfl ?_
                refine h_ine (off := 7) (t := 215) rfl rfl (by omega) (by decide) (fun c233 => ?_) (fun c233 => ?_)
                · refine k_run 0 (pc' := 215) (l' := [(0, .inr (.inr 361)), (1, .inl x1), (2, .inl x2), (3, .inl x3), (4, .inl x4), (5, .inl x5), (6, .inl x6), (7, .inl 1), (8, .inl z90)]) (st' := [.inl (H214.1 7 6), .inr (.inr 7)]) rfl ?_
                  refine k_run 2 (pc' := 217) (l' := [(0, .inr (.inr 361)), (1, .inl x1), (2, .inl x2), (3, .inl x3), (4, .inl x4), (5, .inl x5), (6, .inl x6), (7, .inl 1), (8, .inl z90)]) (st' := [.inl ((H214.1 7 6) + 0), .inr (.inr 7)]) rfl ?_
                  refine k_puti (z := ((H214.1 7 6) + 0)) (a := 7) (x := kx_7) rfl rfl rfl (by decide) (by decide) rfl rfl rfl rfl hI215 (by omega) (show 0 ≤ ((H214.1 7 6) + 0) ∧ ((H214.1 7 6) + 0) ≤ 16 by omega) (fun H234 hI235 hw236 hv237 => ?_)
                  have hf238 : fq [(2, 5), (7, 5), (7, 6), (8, 4), (13, 4), (18, 4), (361, 3), (361, 4), (361, 5), (361, 6), (361, 7), (361, 8), (361, 9)] [4, 5, 6, 9, 10, 11, 14, 15, 16, 17, 19, 20, 21, 22, 362] true H H234 := fq_w hf218 hw236 (fpo (by decide) rfl)
                  refine k_run 0 (pc' := 220) (l' := [(0, .inr (.inr 361)), (1, .inl x1), (2, .inl x2), (3, .inl x3), (4, .inl x4), (5, .inl x5), (6, .inl x6), (7, .inl 1), (8, .inl z90)]) (st' := []) rfl ?_
                  refine k_run 2 (pc' := 69) (l' := [(0, .inr (.inr 361)), (1, .inl x1), (2, .inl x2), (3, .inl x3), (4, .inl x4), (5, .inl x5), (6, .inl (x6 + 1)), (7, .inl 1), (8, .inl z90)]) (st' := []) rfl ?_
                  have g239 : -2147483648 ≤ (H234.1 361 4) ∧ (H234.1 361 4) ≤ 2147483647 := kn (x := kx_361) hI235 rfl 4
                  have e240 : (H234.1 361 4) = (H214.1 361 4) := hw236.2 _ _ (fun q => absurd q.1 (by decide))
                  refine h_loc [0, 1, 2, 3, 4, 5, 6, 7] rfl ?_
                  exact ih H234 hI235 hf238 x1 x2 x3 x4 x5 (x6 + 1) (1 : Int) (by omega) (by omega) (by omega) (by omega) (by omega) (by omega) (by decide) (by omega) (by omega) (by omega) (by omega) (by omega) (by omega) (by omega) (by omega) (by omega)
                · refine k_run 0 (pc' := 211) (l' := [(0, .inr (.inr 361)), (1, .inl x1), (2, .inl x2), (3, .inl x3), (4, .inl x4), (5, .inl x5), (6, .inl x6), (7, .inl 1), (8, .inl z90)]) (st' := [.inl (H214.1 7 6), .inr (.inr 7)]) rfl ?_
                  refine k_run 3 (pc' := 217) (l' := [(0, .inr (.inr 361)), (1, .inl x1), (2, .inl x2), (3, .inl x3), (4, .inl x4), (5, .inl x5), (6, .inl x6), (7, .inl 1), (8, .inl z90)]) (st' := [.inl ((H214.1 7 6) + 1), .inr (.inr 7)]) rfl ?_
                  refine k_puti (z := ((H214.1 7 6) + 1)) (a := 7) (x := kx_7) rfl rfl rfl (by decide) (by decide) rfl rfl rfl rfl hI215 (by omega) (show 0 ≤ ((H214.1 7 6) + 1) ∧ ((H214.1 7 6) + 1) ≤ 16 by omega) (fun H241 hI242 hw243 hv244 => ?_)
                  have hf245 : fq [(2, 5), (7, 5), (7, 6), (8, 4), (13, 4), (18, 4), (361, 3), (361, 4), (361, 5), (361, 6), (361, 7), (361, 8), (361, 9)] [4, 5, 6, 9, 10, 11, 14, 15, 16, 17, 19, 20, 21, 22, 362] true H H241 := fq_w hf218 hw243 (fpo (by decide) rfl)
                  refine k_run 0 (pc' := 220) (l' := [(0, .inr (.inr 361)), (1, .inl x1), (2, .inl x2), (3, .inl x3), (4, .inl x4), (5, .inl x5), (6, .inl x6), (7, .inl 1), (8, .inl z90)]) (st' := []) rfl ?_
                  refine k_run 2 (pc' := 69) (l' := [(0, .inr (.inr 361)), (1, .inl x1), (2, .inl x2), (3, .inl x3), (4, .inl x4), (5, .inl x5), (6, .inl (x6 + 1)), (7, .inl 1), (8, .inl z90)]) (st' := []) rfl ?_
                  have g246 : -2147483648 ≤ (H241.1 361 4) ∧ (H241.1 361 4) ≤ 2147483647 := kn (x := kx_361) hI242 rfl 4
                  have e247 : (H241.1 361 4) = (H214.1 361 4) := hw243.2 _ _ (fun q => absurd q.1 (by decide))
                  refine h_loc [0, 1, 2, 3, 4, 5, 6, 7] rfl ?_
                  exact ih H241 hI242 hf245 x1 x2 x3 x4 x5 (x6 + 1) (1 : Int) (by omega) (by omega) (by omega) (by omega) (by omega) (by omega) (by decide) (by omega) (by omega) (by omega) (by omega) (by omega) (by omega) (by omega) (by omega) (by omega)
          · refine h_tin (k := 1) (t := 137) rfl (by omega) (show z90 = 4 + ((1 : Nat) : Int) by omega) (by decide) rfl rfl ?_
            refine k_run 1 (pc' := 138) (l' := [(0, .inr (.inr 361)), (1, .inl x1), (2, .inl x2), (3, .inl x3), (4, .inl x4), (5, .inl x5), (6, .inl x6), (7, .inl x7), (8, .inl z90)]) (st' := [.inr (.inr 361)]) rfl ?_
            refine h_cv (i := 80) (j := 66) (b := 361) (M' := mt_66) (xs := []) (rest := []) rfl rfl rfl rfl (zs_K (x := kx_361) rfl (by decide)) rfl (Nat.le_of_ble_eq_true rfl) (Nat.le_of_ble_eq_true rfl) (by omega) (f_Reader_readFunction (by omega) hI1 ) ?_
            rintro _ H249 ⟨z252, rfl, g248, hI250, hq251⟩
            have hf253 : fq [(2, 5), (7, 5), (7, 6), (8, 4), (13, 4), (18, 4), (361, 3), (361, 4), (361, 5), (361, 6), (361, 7), (361, 8), (361, 9)] [4, 5, 6, 9, 10, 11, 14, 15, 16, 17, 19, 20, 21, 22, 362] true H H249 := fq_t hf1 hq251 rfl rfl rfl
            refine k_run 0 (pc' := 141) (l' := [(0, .inr (.inr 361)), (1, .inl x1), (2, .inl x2), (3, .inl x3), (4, .inl x4), (5, .inl x5), (6, .inl x6), (7, .inl x7), (8, .inl z90)]) (st' := [.inl z252]) rfl ?_
            refine k_run 3 (pc' := 172) (l' := [(0, .inr (.inr 361)), (1, .inl x1), (2, .inl x2), (3, .inl x3), (4, .inl x4), (5, .inl x5), (6, .inl x6), (7, .inl z252), (8, .inl z90)]) (st' := [.inl z252]) rfl ?_
            refine h_zeq (off := 16) (t := 188) rfl rfl (by omega) (fun c254 => ?_) (fun c254 => ?_)
            · refine k_run 0 (pc' := 188) (l' := [(0, .inr (.inr 361)), (1, .inl x1), (2, .inl x2), (3, .inl x3), (4, .inl x4), (5, .inl x5), (6, .inl x6), (7, .inl z252), (8, .inl z90)]) (st' := []) rfl ?_
              refine k_run 6 (pc' := 199) (l' := [(0, .inr (.inr 361)), (1, .inl x1), (2, .inl x2), (3, .inl x3), (4, .inl x4), (5, .inl x5), (6, .inl x6), (7, .inl 0), (8, .inl z90)]) (st' := [.inl (H249.1 7 6), .inr (.inr 7)]) rfl ?_
              have g255 : 0 ≤ (H249.1 7 6) ∧ (H249.1 7 6) ≤ 16 := kn (x := kx_7) hI250 rfl 6
              have e256 : (H249.1 7 6) = (H1.1 7 6) := (hq251.1 7 6 rfl (by decide) (by decide)).1
              refine k_run 1 (pc' := 201) (l' := [(0, .inr (.inr 361)), (1, .inl x1), (2, .inl x2), (3, .inl x3), (4, .inl x4), (5, .inl x5), (6, .inl x6), (7, .inl 0), (8, .inl z90)]) (st' := [.inl 0, .inl (H249.1 7 6), .inr (.inr 7)]) rfl ?_
              refine h_zeq (off := 14) (t := 215) rfl rfl (by decide) (fun _ => ?_) (fun c => absurd c (by decide))
              refine k_run 0 (pc' := 215) (l' := [(0, .inr (.inr 361)), (1, .inl x1), (2, .inl x2), (3, .inl x3), (4, .inl x4), (5, .inl x5), (6, .inl x6), (7, .inl 0), (8, .inl z90)]) (st' := [.inl (H249.1 7 6), .inr (.inr 7)]) rfl ?_
              refine k_run 2 (pc' := 217) (l' := [(0, .inr (.inr 361)), (1, .inl x1), (2, .inl x2), (3, .inl x3), (4, .inl x4), (5, .inl x5), (6, .inl x6), (7, .inl 0), (8, .inl z90)]) (st' := [.inl ((H249.1 7 6) + 0), .inr (.inr 7)]) rfl ?_
              refine k_puti (z := ((H249.1 7 6) + 0)) (a := 7) (x := kx_7) rfl rfl rfl (by decide) (by decide) rfl rfl rfl rfl hI250 (by omega) (show 0 ≤ ((H249.1 7 6) + 0) ∧ ((H249.1 7 6) + 0) ≤ 16 by omega) (fun H257 hI258 hw259 hv260 => ?_)
              have hf261 : fq [(2, 5), (7, 5), (7, 6), (8, 4), (13, 4), (18, 4), (361, 3), (361, 4), (361, 5), (361, 6), (361, 7), (361, 8), (361, 9)] [4, 5, 6, 9, 10, 11, 14, 15, 16, 17, 19, 20, 21, 22, 362] true H H257 := fq_w hf253 hw259 (fpo (by decide) rfl)
              refine k_run 0 (pc' := 220) (l' := [(0, .inr (.inr 361)), (1, .inl x1), (2, .inl x2), (3, .inl x3), (4, .inl x4), (5, .inl x5), (6, .inl x6), (7, .inl 0), (8, .inl z90)]) (st' := []) rfl ?_
              refine k_run 2 (pc' := 69) (l' := [(0, .inr (.inr 361)), (1, .inl x1), (2, .inl x2), (3, .inl x3), (4, .inl x4), (5, .inl x5), (6, .inl (x6 + 1)), (7, .inl 0), (8, .inl z90)]) (st' := []) rfl ?_
              have g262 : -2147483648 ≤ (H257.1 361 4) ∧ (H257.1 361 4) ≤ 2147483647 := kn (x := kx_361) hI258 rfl 4
              have e263 : (H257.1 361 4) = (H249.1 361 4) := hw259.2 _ _ (fun q => absurd q.1 (by decide))
              refine h_loc [0, 1, 2, 3, 4, 5, 6, 7] rfl ?_
              exact ih H257 hI258 hf261 x1 x2 x3 x4 x5 (x6 + 1) (0 : Int) (by omega) (by omega) (by omega) (by omega) (by omega) (by omega) (by decide) (by omega) (by omega) (by omega) (by omega) (by omega) (by omega) (by omega) (by omega) (by omega)
            · refine k_run 0 (pc' := 175) (l' := [(0, .inr (.inr 361)), (1, .inl x1), (2, .inl x2), (3, .inl x3), (4, .inl x4), (5, .inl x5), (6, .inl x6), (7, .inl z252), (8, .inl z90)]) (st' := []) rfl ?_
              refine k_run 2 (pc' := 178) (l' := [(0, .inr (.inr 361)), (1, .inl x1), (2, .inl x2), (3, .inl x3), (4, .inl x4), (5, .inl x5), (6, .inl x6), (7, .inl z252), (8, .inl z90)]) (st' := [.inl 59, .inr (.inr 361)]) rfl ?_
              have g264 : -2147483648 ≤ (H249.1 361 4) ∧ (H249.1 361 4) ≤ 2147483647 := kn (x := kx_361) hI250 rfl 4
              refine h_cv (i := 92) (j := 82) (b := 361) (M' := mt_82) (xs := [.inl 59]) (rest := []) rfl rfl rfl rfl (zs_K (x := kx_361) rfl (by decide)) rfl (Nat.le_of_ble_eq_true rfl) (Nat.le_of_ble_eq_true rfl) (by omega) (f_Reader_take (by omega) hI250 (by decide)) ?_
              rintro _ H266 ⟨z269, rfl, g265, hI267, hq268⟩
              have hf270 : fq [(2, 5), (7, 5), (7, 6), (8, 4), (13, 4), (18, 4), (361, 3), (361, 4), (361, 5), (361, 6), (361, 7), (361, 8), (361, 9)] [4, 5, 6, 9, 10, 11, 14, 15, 16, 17, 19, 20, 21, 22, 362] true H H266 := fq_t hf253 hq268 rfl rfl rfl
              refine k_run 0 (pc' := 181) (l' := [(0, .inr (.inr 361)), (1, .inl x1), (2, .inl x2), (3, .inl x3), (4, .inl x4), (5, .inl x5), (6, .inl x6), (7, .inl z252), (8, .inl z90)]) (st' := [.inl z269]) rfl ?_
              refine h_zeq (off := 7) (t := 188) rfl rfl (by omega) (fun c271 => ?_) (fun c271 => ?_)
              · refine k_run 0 (pc' := 188) (l' := [(0, .inr (.inr 361)), (1, .inl x1), (2, .inl x2), (3, .inl x3), (4, .inl x4), (5, .inl x5), (6, .inl x6), (7, .inl z252), (8, .inl z90)]) (st' := []) rfl ?_
                refine k_run 6 (pc' := 199) (l' := [(0, .inr (.inr 361)), (1, .inl x1), (2, .inl x2), (3, .inl x3), (4, .inl x4), (5, .inl x5), (6, .inl x6), (7, .inl 0), (8, .inl z90)]) (st' := [.inl (H266.1 7 6), .inr (.inr 7)]) rfl ?_
                have g272 : 0 ≤ (H266.1 7 6) ∧ (H266.1 7 6) ≤ 16 := kn (x := kx_7) hI267 rfl 6
                have e273 : (H266.1 7 6) = (H249.1 7 6) := (hq268.1 7 6 rfl (by decide) (by decide)).1
                have e274 : (H249.1 7 6) = (H1.1 7 6) := (hq251.1 7 6 rfl (by decide) (by decide)).1
                refine k_run 1 (pc' := 201) (l' := [(0, .inr (.inr 361)), (1, .inl x1), (2, .inl x2), (3, .inl x3), (4, .inl x4), (5, .inl x5), (6, .inl x6), (7, .inl 0), (8, .inl z90)]) (st' := [.inl 0, .inl (H266.1 7 6), .inr (.inr 7)]) rfl ?_
                refine h_zeq (off := 14) (t := 215) rfl rfl (by decide) (fun _ => ?_) (fun c => absurd c (by decide))
                refine k_run 0 (pc' := 215) (l' := [(0, .inr (.inr 361)), (1, .inl x1), (2, .inl x2), (3, .inl x3), (4, .inl x4), (5, .inl x5), (6, .inl x6), (7, .inl 0), (8, .inl z90)]) (st' := [.inl (H266.1 7 6), .inr (.inr 7)]) rfl ?_
                refine k_run 2 (pc' := 217) (l' := [(0, .inr (.inr 361)), (1, .inl x1), (2, .inl x2), (3, .inl x3), (4, .inl x4), (5, .inl x5), (6, .inl x6), (7, .inl 0), (8, .inl z90)]) (st' := [.inl ((H266.1 7 6) + 0), .inr (.inr 7)]) rfl ?_
                refine k_puti (z := ((H266.1 7 6) + 0)) (a := 7) (x := kx_7) rfl rfl rfl (by decide) (by decide) rfl rfl rfl rfl hI267 (by omega) (show 0 ≤ ((H266.1 7 6) + 0) ∧ ((H266.1 7 6) + 0) ≤ 16 by omega) (fun H275 hI276 hw277 hv278 => ?_)
                have hf279 : fq [(2, 5), (7, 5), (7, 6), (8, 4), (13, 4), (18, 4), (361, 3), (361, 4), (361, 5), (361, 6), (361, 7), (361, 8), (361, 9)] [4, 5, 6, 9, 10, 11, 14, 15, 16, 17, 19, 20, 21, 22, 362] true H H275 := fq_w hf270 hw277 (fpo (by decide) rfl)
                refine k_run 0 (pc' := 220) (l' := [(0, .inr (.inr 361)), (1, .inl x1), (2, .inl x2), (3, .inl x3), (4, .inl x4), (5, .inl x5), (6, .inl x6), (7, .inl 0), (8, .inl z90)]) (st' := []) rfl ?_
                refine k_run 2 (pc' := 69) (l' := [(0, .inr (.inr 361)), (1, .inl x1), (2, .inl x2), (3, .inl x3), (4, .inl x4), (5, .inl x5), (6, .inl (x6 + 1)), (7, .inl 0), (8, .inl z90)]) (st' := []) rfl ?_
                have g280 : -2147483648 ≤ (H275.1 361 4) ∧ (H275.1 361 4) ≤ 2147483647 := kn (x := kx_361) hI276 rfl 4
                have e281 : (H275.1 361 4) = (H266.1 361 4) := hw277.2 _ _ (fun q => absurd q.1 (by decide))
                refine h_loc [0, 1, 2, 3, 4, 5, 6, 7] rfl ?_
                exact ih H275 hI276 hf279 x1 x2 x3 x4 x5 (x6 + 1) (0 : Int) (by omega) (by omega) (by omega) (by omega) (by omega) (by omega) (by decide) (by omega) (by omega) (by omega) (by omega) (by omega) (by omega) (by omega) (by omega) (by omega)
              · refine k_run 0 (pc' := 184) (l' := [(0, .inr (.inr 361)), (1, .inl x1), (2, .inl x2), (3, .inl x3), (4, .inl x4), (5, .inl x5), (6, .inl x6), (7, .inl z252), (8, .inl z90)]) (st' := []) rfl ?_
                refine k_run 7 (pc' := 199) (l' := [(0, .inr (.inr 361)), (1, .inl x1), (2, .inl x2), (3, .inl x3), (4, .inl x4), (5, .inl x5), (6, .inl x6), (7, .inl 1), (8, .inl z90)]) (st' := [.inl (H266.1 7 6), .inr (.inr 7)]) rfl ?_
                have g282 : 0 ≤ (H266.1 7 6) ∧ (H266.1 7 6) ≤ 16 := kn (x := kx_7) hI267 rfl 6
                have e283 : (H266.1 7 6) = (H249.1 7 6) := (hq268.1 7 6 rfl (by decide) (by decide)).1
                have e284 : (H249.1 7 6) = (H1.1 7 6) := (hq251.1 7 6 rfl (by decide) (by decide)).1
                refine k_run 1 (pc' := 201) (l' := [(0, .inr (.inr 361)), (1, .inl x1), (2, .inl x2), (3, .inl x3), (4, .inl x4), (5, .inl x5), (6, .inl x6), (7, .inl 1), (8, .inl z90)]) (st' := [.inl 1, .inl (H266.1 7 6), .inr (.inr 7)]) rfl ?_
                refine h_zeq (off := 14) (t := 215) rfl rfl (by decide) (fun c => absurd c (by decide)) (fun _ => ?_)
                refine k_run 0 (pc' := 204) (l' := [(0, .inr (.inr 361)), (1, .inl x1), (2, .inl x2), (3, .inl x3), (4, .inl x4), (5, .inl x5), (6, .inl x6), (7, .inl 1), (8, .inl z90)]) (st' := [.inl (H266.1 7 6), .inr (.inr 7)]) rfl ?_
                refine k_run 2 (pc' := 208) (l' := [(0, .inr (.inr 361)), (1, .inl x1), (2, .inl x2), (3, .inl x3), (4, .inl x4), (5, .inl x5), (6, .inl x6), (7, .inl 1), (8, .inl z90)]) (st' := [.inl 7, .inl z90, .inl (H266.1 7 6), .inr (.inr 7)]) rfl ?_
                refine h_ine (off := 7) (t := 215) rfl rfl (by omega) (by decide) (fun c285 => ?_) (fun c285 => ?_)
                · refine k_run 0 (pc' := 215) (l' := [(0, .inr (.inr 361)), (1, .inl x1), (2, .inl x2), (3, .inl x3), (4, .inl x4), (5, .inl x5), (6, .inl x6), (7, .inl 1), (8, .inl z90)]) (st' := [.inl (H266.1 7 6), .inr (.inr 7)]) rfl ?_
                  refine k_run 2 (pc' := 217) (l' := [(0, .inr (.inr 361)), (1, .inl x1), (2, .inl x2), (3, .inl x3), (4, .inl x4), (5, .inl x5), (6, .inl x6), (7, .inl 1), (8, .inl z90)]) (st' := [.inl ((H266.1 7 6) + 0), .inr (.inr 7)]) rfl ?_
                  refine k_puti (z := ((H266.1 7 6) + 0)) (a := 7) (x := kx_7) rfl rfl rfl (by decide) (by decide) rfl rfl rfl rfl hI267 (by omega) (show 0 ≤ ((H266.1 7 6) + 0) ∧ ((H266.1 7 6) + 0) ≤ 16 by omega) (fun H286 hI287 hw288 hv289 => ?_)
                  have hf290 : fq [(2, 5), (7, 5), (7, 6), (8, 4), (13, 4), (18, 4), (361, 3), (361, 4), (361, 5), (361, 6), (361, 7), (361, 8), (361, 9)] [4, 5, 6, 9, 10, 11, 14, 15, 16, 17, 19, 20, 21, 22, 362] true H H286 := fq_w hf270 hw288 (fpo (by decide) rfl)
                  refine k_run 0 (pc' := 220) (l' := [(0, .inr (.inr 361)), (1, .inl x1), (2, .inl x2), (3, .inl x3), (4, .inl x4), (5, .inl x5), (6, .inl x6), (7, .inl 1), (8, .inl z90)]) (st' := []) rfl ?_
                  refine k_run 2 (pc' := 69) (l' := [(0, .inr (.inr 361)), (1, .inl x1), (2, .inl x2), (3, .inl x3), (4, .inl x4), (5, .inl x5), (6, .inl (x6 + 1)), (7, .inl 1), (8, .inl z90)]) (st' := []) rfl ?_
                  have g291 : -2147483648 ≤ (H286.1 361 4) ∧ (H286.1 361 4) ≤ 2147483647 := kn (x := kx_361) hI287 rfl 4
                  have e292 : (H286.1 361 4) = (H266.1 361 4) := hw288.2 _ _ (fun q => absurd q.1 (by decide))
                  refine h_loc [0, 1, 2, 3, 4, 5, 6, 7] rfl ?_
                  exact ih H286 hI287 hf290 x1 x2 x3 x4 x5 (x6 + 1) (1 : Int) (by omega) (by omega) (by omega) (by omega) (by omega) (by omega) (by decide) (by omega) (by omega) (by omega) (by omega) (by omega) (by omega) (by omega) (by omega) (by omega)
                · refine k_run 0 (pc' := 211) (l' := [(0, .inr (.inr 361)), (1, .inl x1), (2, .inl x2), (3, .inl x3), (4, .inl x4), (5, .inl x5), (6, .inl x6), (7, .inl 1), (8, .inl z90)]) (st' := [.inl (H266.1 7 6), .inr (.inr 7)]) rfl ?_
                  refine k_run 3 (pc' := 217) (l' := [(0, .inr (.inr 361)), (1, .inl x1), (2, .inl x2), (3, .inl x3), (4, .inl x4), (5, .inl x5), (6, .inl x6), (7, .inl 1), (8, .inl z90)]) (st' := [.inl ((H266.1 7 6) + 1), .inr (.inr 7)]) rfl ?_
                  refine k_puti (z := ((H266.1 7 6) + 1)) (a := 7) (x := kx_7) rfl rfl rfl (by decide) (by decide) rfl rfl rfl rfl hI267 (by omega) (show 0 ≤ ((H266.1 7 6) + 1) ∧ ((H266.1 7 6) + 1) ≤ 16 by omega) (fun H293 hI294 hw295 hv296 => ?_)
                  have hf297 : fq [(2, 5), (7, 5), (7, 6), (8, 4), (13, 4), (18, 4), (361, 3), (361, 4), (361, 5), (361, 6), (361, 7), (361, 8), (361, 9)] [4, 5, 6, 9, 10, 11, 14, 15, 16, 17, 19, 20, 21, 22, 362] true H H293 := fq_w hf270 hw295 (fpo (by decide) rfl)
                  refine k_run 0 (pc' := 220) (l' := [(0, .inr (.inr 361)), (1, .inl x1), (2, .inl x2), (3, .inl x3), (4, .inl x4), (5, .inl x5), (6, .inl x6), (7, .inl 1), (8, .inl z90)]) (st' := []) rfl ?_
                  refine k_run 2 (pc' := 69) (l' := [(0, .inr (.inr 361)), (1, .inl x1), (2, .inl x2), (3, .inl x3), (4, .inl x4), (5, .inl x5), (6, .inl (x6 + 1)), (7, .inl 1), (8, .inl z90)]) (st' := []) rfl ?_
                  have g298 : -2147483648 ≤ (H293.1 361 4) ∧ (H293.1 361 4) ≤ 2147483647 := kn (x := kx_361) hI294 rfl 4
                  have e299 : (H293.1 361 4) = (H266.1 361 4) := hw295.2 _ _ (fun q => absurd q.1 (by decide))
                  refine h_loc [0, 1, 2, 3, 4, 5, 6, 7] rfl ?_
                  exact ih H293 hI294 hf297 x1 x2 x3 x4 x5 (x6 + 1) (1 : Int) (by omega) (by omega) (by omega) (by omega) (by omega) (by omega) (by decide) (by omega) (by omega) (by omega) (by omega) (by omega) (by omega) (by omega) (by omega) (by omega)
          · refine h_tin (k := 2) (t := 146) rfl (by omega) (show z90 = 4 + ((2 : Nat) : Int) by omega) (by decide) rfl rfl ?_
            refine k_run 1 (pc' := 147) (l' := [(0, .inr (.inr 361)), (1, .inl x1), (2, .inl x2), (3, .inl x3), (4, .inl x4), (5, .inl x5), (6, .inl x6), (7, .inl x7), (8, .inl z90)]) (st' := [.inr (.inr 361)]) rfl ?_
            refine h_cv (i := 83) (j := 68) (b := 361) (M' := mt_68) (xs := []) (rest := []) rfl rfl rfl rfl (zs_K (x := kx_361) rfl (by decide)) rfl (Nat.le_of_ble_eq_true rfl) (Nat.le_of_ble_eq_true rfl) (by omega) (f_Reader_readRule (by omega) hI1 ) ?_
            rintro _ H301 ⟨z304, rfl, g300, hI302, hq303⟩
            have hf305 : fq [(2, 5), (7, 5), (7, 6), (8, 4), (13, 4), (18, 4), (361, 3), (361, 4), (361, 5), (361, 6), (361, 7), (361, 8), (361, 9)] [4, 5, 6, 9, 10, 11, 14, 15, 16, 17, 19, 20, 21, 22, 362] true H H301 := fq_t hf1 hq303 rfl rfl rfl
            refine k_run 0 (pc' := 150) (l' := [(0, .inr (.inr 361)), (1, .inl x1), (2, .inl x2), (3, .inl x3), (4, .inl x4), (5, .inl x5), (6, .inl x6), (7, .inl x7), (8, .inl z90)]) (st' := [.inl z304]) rfl ?_
            refine k_run 3 (pc' := 172) (l' := [(0, .inr (.inr 361)), (1, .inl x1), (2, .inl x2), (3, .inl x3), (4, .inl x4), (5, .inl x5), (6, .inl x6), (7, .inl z304), (8, .inl z90)]) (st' := [.inl z304]) rfl ?_
            refine h_zeq (off := 16) (t := 188) rfl rfl (by omega) (fun c306 => ?_) (fun c306 => ?_)
            · refine k_run 0 (pc' := 188) (l' := [(0, .inr (.inr 361)), (1, .inl x1), (2, .inl x2), (3, .inl x3), (4, .inl x4), (5, .inl x5), (6, .inl x6), (7, .inl z304), (8, .inl z90)]) (st' := []) rfl ?_
              refine k_run 6 (pc' := 199) (l' := [(0, .inr (.inr 361)), (1, .inl x1), (2, .inl x2), (3, .inl x3), (4, .inl x4), (5, .inl x5), (6, .inl x6), (7, .inl 0), (8, .inl z90)]) (st' := [.inl (H301.1 7 6), .inr (.inr 7)]) rfl ?_
              have g307 : 0 ≤ (H301.1 7 6) ∧ (H301.1 7 6) ≤ 16 := kn (x := kx_7) hI302 rfl 6
              have e308 : (H301.1 7 6) = (H1.1 7 6) := (hq303.1 7 6 rfl (by decide) (by decide)).1
              refine k_run 1 (pc' := 201) (l' := [(0, .inr (.inr 361)), (1, .inl x1), (2, .inl x2), (3, .inl x3), (4, .inl x4), (5, .inl x5), (6, .inl x6), (7, .inl 0), (8, .inl z90)]) (st' := [.inl 0, .inl (H301.1 7 6), .inr (.inr 7)]) rfl ?_
              refine h_zeq (off := 14) (t := 215) rfl rfl (by decide) (fun _ => ?_) (fun c => absurd c (by decide))
              refine k_run 0 (pc' := 215) (l' := [(0, .inr (.inr 361)), (1, .inl x1), (2, .inl x2), (3, .inl x3), (4, .inl x4), (5, .inl x5), (6, .inl x6), (7, .inl 0), (8, .inl z90)]) (st' := [.inl (H301.1 7 6), .inr (.inr 7)]) rfl ?_
              refine k_run 2 (pc' := 217) (l' := [(0, .inr (.inr 361)), (1, .inl x1), (2, .inl x2), (3, .inl x3), (4, .inl x4), (5, .inl x5), (6, .inl x6), (7, .inl 0), (8, .inl z90)]) (st' := [.inl ((H301.1 7 6) + 0), .inr (.inr 7)]) rfl ?_
              refine k_puti (z := ((H301.1 7 6) + 0)) (a := 7) (x := kx_7) rfl rfl rfl (by decide) (by decide) rfl rfl rfl rfl hI302 (by omega) (show 0 ≤ ((H301.1 7 6) + 0) ∧ ((H301.1 7 6) + 0) ≤ 16 by omega) (fun H309 hI310 hw311 hv312 => ?_)
              have hf313 : fq [(2, 5), (7, 5), (7, 6), (8, 4), (13, 4), (18, 4), (361, 3), (361, 4), (361, 5), (361, 6), (361, 7), (361, 8), (361, 9)] [4, 5, 6, 9, 10, 11, 14, 15, 16, 17, 19, 20, 21, 22, 362] true H H309 := fq_w hf305 hw311 (fpo (by decide) rfl)
              refine k_run 0 (pc' := 220) (l' := [(0, .inr (.inr 361)), (1, .inl x1), (2, .inl x2), (3, .inl x3), (4, .inl x4), (5, .inl x5), (6, .inl x6), (7, .inl 0), (8, .inl z90)]) (st' := []) rfl ?_
              refine k_run 2 (pc' := 69) (l' := [(0, .inr (.inr 361)), (1, .inl x1), (2, .inl x2), (3, .inl x3), (4, .inl x4), (5, .inl x5), (6, .inl (x6 + 1)), (7, .inl 0), (8, .inl z90)]) (st' := []) rfl ?_
              have g314 : -2147483648 ≤ (H309.1 361 4) ∧ (H309.1 361 4) ≤ 2147483647 := kn (x := kx_361) hI310 rfl 4
              have e315 : (H309.1 361 4) = (H301.1 361 4) := hw311.2 _ _ (fun q => absurd q.1 (by decide))
              refine h_loc [0, 1, 2, 3, 4, 5, 6, 7] rfl ?_
              exact ih H309 hI310 hf313 x1 x2 x3 x4 x5 (x6 + 1) (0 : Int) (by omega) (by omega) (by omega) (by omega) (by omega) (by omega) (by decide) (by omega) (by omega) (by omega) (by omega) (by omega) (by omega) (by omega) (by omega) (by omega)
            · refine k_run 0 (pc' := 175) (l' := [(0, .inr (.inr 361)), (1, .inl x1), (2, .inl x2), (3, .inl x3), (4, .inl x4), (5, .inl x5), (6, .inl x6), (7, .inl z304), (8, .inl z90)]) (st' := []) rfl ?_
              refine k_run 2 (pc' := 178) (l' := [(0, .inr (.inr 361)), (1, .inl x1), (2, .inl x2), (3, .inl x3), (4, .inl x4), (5, .inl x5), (6, .inl x6), (7, .inl z304), (8, .inl z90)]) (st' := [.inl 59, .inr (.inr 361)]) rfl ?_
              have g316 : -2147483648 ≤ (H301.1 361 4) ∧ (H301.1 361 4) ≤ 2147483647 := kn (x := kx_361) hI302 rfl 4
              refine h_cv (i := 92) (j := 82) (b := 361) (M' := mt_82) (xs := [.inl 59]) (rest := []) rfl rfl rfl rfl (zs_K (x := kx_361) rfl (by decide)) rfl (Nat.le_of_ble_eq_true rfl) (Nat.le_of_ble_eq_true rfl) (by omega) (f_Reader_take (by omega) hI302 (by decide)) ?_
              rintro _ H318 ⟨z321, rfl, g317, hI319, hq320⟩
              have hf322 : fq [(2, 5), (7, 5), (7, 6), (8, 4), (13, 4), (18, 4), (361, 3), (361, 4), (361, 5), (361, 6), (361, 7), (361, 8), (361, 9)] [4, 5, 6, 9, 10, 11, 14, 15, 16, 17, 19, 20, 21, 22, 362] true H H318 := fq_t hf305 hq320 rfl rfl rfl
              refine k_run 0 (pc' := 181) (l' := [(0, .inr (.inr 361)), (1, .inl x1), (2, .inl x2), (3, .inl x3), (4, .inl x4), (5, .inl x5), (6, .inl x6), (7, .inl z304), (8, .inl z90)]) (st' := [.inl z321]) rfl ?_
              refine h_zeq (off := 7) (t := 188) rfl rfl (by omega) (fun c323 => ?_) (fun c323 => ?_)
              · refine k_run 0 (pc' := 188) (l' := [(0, .inr (.inr 361)), (1, .inl x1), (2, .inl x2), (3, .inl x3), (4, .inl x4), (5, .inl x5), (6, .inl x6), (7, .inl z304), (8, .inl z90)]) (st' := []) rfl ?_
                refine k_run 6 (pc' := 199) (l' := [(0, .inr (.inr 361)), (1, .inl x1), (2, .inl x2), (3, .inl x3), (4, .inl x4), (5, .inl x5), (6, .inl x6), (7, .inl 0), (8, .inl z90)]) (st' := [.inl (H318.1 7 6), .inr (.inr 7)]) rfl ?_
                have g324 : 0 ≤ (H318.1 7 6) ∧ (H318.1 7 6) ≤ 16 := kn (x := kx_7) hI319 rfl 6
                have e325 : (H318.1 7 6) = (H301.1 7 6) := (hq320.1 7 6 rfl (by decide) (by decide)).1
                have e326 : (H301.1 7 6) = (H1.1 7 6) := (hq303.1 7 6 rfl (by decide) (by decide)).1
                refine k_run 1 (pc' := 201) (l' := [(0, .inr (.inr 361)), (1, .inl x1), (2, .inl x2), (3, .inl x3), (4, .inl x4), (5, .inl x5), (6, .inl x6), (7, .inl 0), (8, .inl z90)]) (st' := [.inl 0, .inl (H318.1 7 6), .inr (.inr 7)]) rfl ?_
                refine h_zeq (off := 14) (t := 215) rfl rfl (by decide) (fun _ => ?_) (fun c => absurd c (by decide))
                refine k_run 0 (pc' := 215) (l' := [(0, .inr (.inr 361)), (1, .inl x1), (2, .inl x2), (3, .inl x3), (4, .inl x4), (5, .inl x5), (6, .inl x6), (7, .inl 0), (8, .inl z90)]) (st' := [.inl (H318.1 7 6), .inr (.inr 7)]) rfl ?_
                refine k_run 2 (pc' := 217) (l' := [(0, .inr (.inr 361)), (1, .inl x1), (2, .inl x2), (3, .inl x3), (4, .inl x4), (5, .inl x5), (6, .inl x6), (7, .inl 0), (8, .inl z90)]) (st' := [.inl ((H318.1 7 6) + 0), .inr (.inr 7)]) rfl ?_
                refine k_puti (z := ((H318.1 7 6) + 0)) (a := 7) (x := kx_7) rfl rfl rfl (by decide) (by decide) rfl rfl rfl rfl hI319 (by omega) (show 0 ≤ ((H318.1 7 6) + 0) ∧ ((H318.1 7 6) + 0) ≤ 16 by omega) (fun H327 hI328 hw329 hv330 => ?_)
                have hf331 : fq [(2, 5), (7, 5), (7, 6), (8, 4), (13, 4), (18, 4), (361, 3), (361, 4), (361, 5), (361, 6), (361, 7), (361, 8), (361, 9)] [4, 5, 6, 9, 10, 11, 14, 15, 16, 17, 19, 20, 21, 22, 362] true H H327 := fq_w hf322 hw329 (fpo (by decide) rfl)
                refine k_run 0 (pc' := 220) (l' := [(0, .inr (.inr 361)), (1, .inl x1), (2, .inl x2), (3, .inl x3), (4, .inl x4), (5, .inl x5), (6, .inl x6), (7, .inl 0), (8, .inl z90)]) (st' := []) rfl ?_
                refine k_run 2 (pc' := 69) (l' := [(0, .inr (.inr 361)), (1, .inl x1), (2, .inl x2), (3, .inl x3), (4, .inl x4), (5, .inl x5), (6, .inl (x6 + 1)), (7, .inl 0), (8, .inl z90)]) (st' := []) rfl ?_
                have g332 : -2147483648 ≤ (H327.1 361 4) ∧ (H327.1 361 4) ≤ 2147483647 := kn (x := kx_361) hI328 rfl 4
                have e333 : (H327.1 361 4) = (H318.1 361 4) := hw329.2 _ _ (fun q => absurd q.1 (by decide))
                refine h_loc [0, 1, 2, 3, 4, 5, 6, 7] rfl ?_
                exact ih H327 hI328 hf331 x1 x2 x3 x4 x5 (x6 + 1) (0 : Int) (by omega) (by omega) (by omega) (by omega) (by omega) (by omega) (by decide) (by omega) (by omega) (by omega) (by omega) (by omega) (by omega) (by omega) (by omega) (by omega)
              · refine k_run 0 (pc' := 184) (l' := [(0, .inr (.inr 361)), (1, .inl x1), (2, .inl x2), (3, .inl x3), (4, .inl x4), (5, .inl x5), (6, .inl x6), (7, .inl z304), (8, .inl z90)]) (st' := []) rfl ?_
                refine k_run 7 (pc' := 199) (l' := [(0, .inr (.inr 361)), (1, .inl x1), (2, .inl x2), (3, .inl x3), (4, .inl x4), (5, .inl x5), (6, .inl x6), (7, .inl 1), (8, .inl z90)]) (st' := [.inl (H318.1 7 6), .inr (.inr 7)]) rfl ?_
                have g334 : 0 ≤ (H318.1 7 6) ∧ (H318.1 7 6) ≤ 16 := kn (x := kx_7) hI319 rfl 6
                have e335 : (H318.1 7 6) = (H301.1 7 6) := (hq320.1 7 6 rfl (by decide) (by decide)).1
                have e336 : (H301.1 7 6) = (H1.1 7 6) := (hq303.1 7 6 rfl (by decide) (by decide)).1
                refine k_run 1 (pc' := 201) (l' := [(0, .inr (.inr 361)), (1, .inl x1), (2, .inl x2), (3, .inl x3), (4, .inl x4), (5, .inl x5), (6, .inl x6), (7, .inl 1), (8, .inl z90)]) (st' := [.inl 1, .inl (H318.1 7 6), .inr (.inr 7)]) rfl ?_
                refine h_zeq (off := 14) (t := 215) rfl rfl (by decide) (fun c => absurd c (by decide)) (fun _ => ?_)
                refine k_run 0 (pc' := 204) (l' := [(0, .inr (.inr 361)), (1, .inl x1), (2, .inl x2), (3, .inl x3), (4, .inl x4), (5, .inl x5), (6, .inl x6), (7, .inl 1), (8, .inl z90)]) (st' := [.inl (H318.1 7 6), .inr (.inr 7)]) rfl ?_
                refine k_run 2 (pc' := 208) (l' := [(0, .inr (.inr 361)), (1, .inl x1), (2, .inl x2), (3, .inl x3), (4, .inl x4), (5, .inl x5), (6, .inl x6), (7, .inl 1), (8, .inl z90)]) (st' := [.inl 7, .inl z90, .inl (H318.1 7 6), .inr (.inr 7)]) rfl ?_
                refine h_ine (off := 7) (t := 215) rfl rfl (by omega) (by decide) (fun c337 => ?_) (fun c337 => ?_)
                · refine k_run 0 (pc' := 215) (l' := [(0, .inr (.inr 361)), (1, .inl x1), (2, .inl x2), (3, .inl x3), (4, .inl x4), (5, .inl x5), (6, .inl x6), (7, .inl 1), (8, .inl z90)]) (st' := [.inl (H318.1 7 6), .inr (.inr 7)]) rfl ?_
                  refine k_run 2 (pc' := 217) (l' := [(0, .inr (.inr 361)), (1, .inl x1), (2, .inl x2), (3, .inl x3), (4, .inl x4), (5, .inl x5), (6, .inl x6), (7, .inl 1), (8, .inl z90)]) (st' := [.inl ((H318.1 7 6) + 0), .inr (.inr 7)]) rfl ?_
                  refine k_puti (z := ((H318.1 7 6) + 0)) (a := 7) (x := kx_7) rfl rfl rfl (by decide) (by decide) rfl rfl rfl rfl hI319 (by omega) (show 0 ≤ ((H318.1 7 6) + 0) ∧ ((H318.1 7 6) + 0) ≤ 16 by omega) (fun H338 hI339 hw340 hv341 => ?_)
                  have hf342 : fq [(2, 5), (7, 5), (7, 6), (8, 4), (13, 4), (18, 4), (361, 3), (361, 4), (361, 5), (361, 6), (361, 7), (361, 8), (361, 9)] [4, 5, 6, 9, 10, 11, 14, 15, 16, 17, 19, 20, 21, 22, 362] true H H338 := fq_w hf322 hw340 (fpo (by decide) rfl)
                  refine k_run 0 (pc' := 220) (l' := [(0, .inr (.inr 361)), (1, .inl x1), (2, .inl x2), (3, .inl x3), (4, .inl x4), (5, .inl x5), (6, .inl x6), (7, .inl 1), (8, .inl z90)]) (st' := []) rfl ?_
                  refine k_run 2 (pc' := 69) (l' := [(0, .inr (.inr 361)), (1, .inl x1), (2, .inl x2), (3, .inl x3), (4, .inl x4), (5, .inl x5), (6, .inl (x6 + 1)), (7, .inl 1), (8, .inl z90)]) (st' := []) rfl ?_
                  have g343 : -2147483648 ≤ (H338.1 361 4) ∧ (H338.1 361 4) ≤ 2147483647 := kn (x := kx_361) hI339 rfl 4
                  have e344 : (H338.1 361 4) = (H318.1 361 4) := hw340.2 _ _ (fun q => absurd q.1 (by decide))
                  refine h_loc [0, 1, 2, 3, 4, 5, 6, 7] rfl ?_
                  exact ih H338 hI339 hf342 x1 x2 x3 x4 x5 (x6 + 1) (1 : Int) (by omega) (by omega) (by omega) (by omega) (by omega) (by omega) (by decide) (by omega) (by omega) (by omega) (by omega) (by omega) (by omega) (by omega) (by omega) (by omega)
                · refine k_run 0 (pc' := 211) (l' := [(0, .inr (.inr 361)), (1, .inl x1), (2, .inl x2), (3, .inl x3), (4, .inl x4), (5, .inl x5), (6, .inl x6), (7, .inl 1), (8, .inl z90)]) (st' := [.inl (H318.1 7 6), .inr (.inr 7)]) rfl ?_
                  refine k_run 3 (pc' := 217) (l' := [(0, .inr (.inr 361)), (1, .inl x1), (2, .inl x2), (3, .inl x3), (4, .inl x4), (5, .inl x5), (6, .inl x6), (7, .inl 1), (8, .inl z90)]) (st' := [.inl ((H318.1 7 6) + 1), .inr (.inr 7)]) rfl ?_
                  refine k_puti (z := ((H318.1 7 6) + 1)) (a := 7) (x := kx_7) rfl rfl rfl (by decide) (by decide) rfl rfl rfl rfl hI319 (by omega) (show 0 ≤ ((H318.1 7 6) + 1) ∧ ((H318.1 7 6) + 1) ≤ 16 by omega) (fun H345 hI346 hw347 hv348 => ?_)
                  have hf349 : fq [(2, 5), (7, 5), (7, 6), (8, 4), (13, 4), (18, 4), (361, 3), (361, 4), (361, 5), (361, 6), (361, 7), (361, 8), (361, 9)] [4, 5, 6, 9, 10, 11, 14, 15, 16, 17, 19, 20, 21, 22, 362] true H H345 := fq_w hf322 hw347 (fpo (by decide) rfl)
                  refine k_run 0 (pc' := 220) (l' := [(0, .inr (.inr 361)), (1, .inl x1), (2, .inl x2), (3, .inl x3), (4, .inl x4), (5, .inl x5), (6, .inl x6), (7, .inl 1), (8, .inl z90)]) (st' := []) rfl ?_
                  refine k_run 2 (pc' := 69) (l' := [(0, .inr (.inr 361)), (1, .inl x1), (2, .inl x2), (3, .inl x3), (4, .inl x4), (5, .inl x5), (6, .inl (x6 + 1)), (7, .inl 1), (8, .inl z90)]) (st' := []) rfl ?_
                  have g350 : -2147483648 ≤ (H345.1 361 4) ∧ (H345.1 361 4) ≤ 2147483647 := kn (x := kx_361) hI346 rfl 4
                  have e351 : (H345.1 361 4) = (H318.1 361 4) := hw347.2 _ _ (fun q => absurd q.1 (by decide))
                  refine h_loc [0, 1, 2, 3, 4, 5, 6, 7] rfl ?_
                  exact ih H345 hI346 hf349 x1 x2 x3 x4 x5 (x6 + 1) (1 : Int) (by omega) (by omega) (by omega) (by omega) (by omega) (by omega) (by decide) (by omega) (by omega) (by omega) (by omega) (by omega) (by omega) (by omega) (by omega) (by omega)
          · refine h_tin (k := 3) (t := 155) rfl (by omega) (show z90 = 4 + ((3 : Nat) : Int) by omega) (by decide) rfl rfl ?_
            refine k_run 1 (pc' := 156) (l' := [(0, .inr (.inr 361)), (1, .inl x1), (2, .inl x2), (3, .inl x3), (4, .inl x4), (5, .inl x5), (6, .inl x6), (7, .inl x7), (8, .inl z90)]) (st' := [.inr (.inr 361)]) rfl ?_
            refine h_cv (i := 86) (j := 69) (b := 361) (M' := mt_69) (xs := []) (rest := []) rfl rfl rfl rfl (zs_K (x := kx_361) rfl (by decide)) rfl (Nat.le_of_ble_eq_true rfl) (Nat.le_of_ble_eq_true rfl) (by omega) (f_Reader_readLaw (by omega) hI1 ) ?_
            rintro _ H353 ⟨z356, rfl, g352, hI354, hq355⟩
            have hf357 : fq [(2, 5), (7, 5), (7, 6), (8, 4), (13, 4), (18, 4), (361, 3), (361, 4), (361, 5), (361, 6), (361, 7), (361, 8), (361, 9)] [4, 5, 6, 9, 10, 11, 14, 15, 16, 17, 19, 20, 21, 22, 362] true H H353 := fq_t hf1 hq355 rfl rfl rfl
            refine k_run 0 (pc' := 159) (l' := [(0, .inr (.inr 361)), (1, .inl x1), (2, .inl x2), (3, .inl x3), (4, .inl x4), (5, .inl x5), (6, .inl x6), (7, .inl x7), (8, .inl z90)]) (st' := [.inl z356]) rfl ?_
            refine k_run 3 (pc' := 172) (l' := [(0, .inr (.inr 361)), (1, .inl x1), (2, .inl x2), (3, .inl x3), (4, .inl x4), (5, .inl x5), (6, .inl x6), (7, .inl z356), (8, .inl z90)]) (st' := [.inl z356]) rfl ?_
            refine h_zeq (off := 16) (t := 188) rfl rfl (by omega) (fun c358 => ?_) (fun c358 => ?_)
            · refine k_run 0 (pc' := 188) (l' := [(0, .inr (.inr 361)), (1, .inl x1), (2, .inl x2), (3, .inl x3), (4, .inl x4), (5, .inl x5), (6, .inl x6), (7, .inl z356), (8, .inl z90)]) (st' := []) rfl ?_
              refine k_run 6 (pc' := 199) (l' := [(0, .inr (.inr 361)), (1, .inl x1), (2, .inl x2), (3, .inl x3), (4, .inl x4), (5, .inl x5), (6, .inl x6), (7, .inl 0), (8, .inl z90)]) (st' := [.inl (H353.1 7 6), .inr (.inr 7)]) rfl ?_
              have g359 : 0 ≤ (H353.1 7 6) ∧ (H353.1 7 6) ≤ 16 := kn (x := kx_7) hI354 rfl 6
              have e360 : (H353.1 7 6) = (H1.1 7 6) := (hq355.1 7 6 rfl (by decide) (by decide)).1
              refine k_run 1 (pc' := 201) (l' := [(0, .inr (.inr 361)), (1, .inl x1), (2, .inl x2), (3, .inl x3), (4, .inl x4), (5, .inl x5), (6, .inl x6), (7, .inl 0), (8, .inl z90)]) (st' := [.inl 0, .inl (H353.1 7 6), .inr (.inr 7)]) rfl ?_
              refine h_zeq (off := 14) (t := 215) rfl rfl (by decide) (fun _ => ?_) (fun c => absurd c (by decide))
              refine k_run 0 (pc' := 215) (l' := [(0, .inr (.inr 361)), (1, .inl x1), (2, .inl x2), (3, .inl x3), (4, .inl x4), (5, .inl x5), (6, .inl x6), (7, .inl 0), (8, .inl z90)]) (st' := [.inl (H353.1 7 6), .inr (.inr 7)]) rfl ?_
              refine k_run 2 (pc' := 217) (l' := [(0, .inr (.inr 361)), (1, .inl x1), (2, .inl x2), (3, .inl x3), (4, .inl x4), (5, .inl x5), (6, .inl x6), (7, .inl 0), (8, .inl z90)]) (st' := [.inl ((H353.1 7 6) + 0), .inr (.inr 7)]) rfl ?_
              refine k_puti (z := ((H353.1 7 6) + 0)) (a := 7) (x := kx_7) rfl rfl rfl (by decide) (by decide) rfl rfl rfl rfl hI354 (by omega) (show 0 ≤ ((H353.1 7 6) + 0) ∧ ((H353.1 7 6) + 0) ≤ 16 by omega) (fun H361 hI362 hw363 hv364 => ?_)
              have hf365 : fq [(2, 5), (7, 5), (7, 6), (8, 4), (13, 4), (18, 4), (361, 3), (361, 4), (361, 5), (361, 6), (361, 7), (361, 8), (361, 9)] [4, 5, 6, 9, 10, 11, 14, 15, 16, 17, 19, 20, 21, 22, 362] true H H361 := fq_w hf357 hw363 (fpo (by decide) rfl)
              refine k_run 0 (pc' := 220) (l' := [(0, .inr (.inr 361)), (1, .inl x1), (2, .inl x2), (3, .inl x3), (4, .inl x4), (5, .inl x5), (6, .inl x6), (7, .inl 0), (8, .inl z90)]) (st' := []) rfl ?_
              refine k_run 2 (pc' := 69) (l' := [(0, .inr (.inr 361)), (1, .inl x1), (2, .inl x2), (3, .inl x3), (4, .inl x4), (5, .inl x5), (6, .inl (x6 + 1)), (7, .inl 0), (8, .inl z90)]) (st' := []) rfl ?_
              have g366 : -2147483648 ≤ (H361.1 361 4) ∧ (H361.1 361 4) ≤ 2147483647 := kn (x := kx_361) hI362 rfl 4
              have e367 : (H361.1 361 4) = (H353.1 361 4) := hw363.2 _ _ (fun q => absurd q.1 (by decide))
              refine h_loc [0, 1, 2, 3, 4, 5, 6, 7] rfl ?_
              exact ih H361 hI362 hf365 x1 x2 x3 x4 x5 (x6 + 1) (0 : Int) (by omega) (by omega) (by omega) (by omega) (by omega) (by omega) (by decide) (by omega) (by omega) (by omega) (by omega) (by omega) (by omega) (by omega) (by omega) (by omega)
            · refine k_run 0 (pc' := 175) (l' := [(0, .inr (.inr 361)), (1, .inl x1), (2, .inl x2), (3, .inl x3), (4, .inl x4), (5, .inl x5), (6, .inl x6), (7, .inl z356), (8, .inl z90)]) (st' := []) rfl ?_
              refine k_run 2 (pc' := 178) (l' := [(0, .inr (.inr 361)), (1, .inl x1), (2, .inl x2), (3, .inl x3), (4, .inl x4), (5, .inl x5), (6, .inl x6), (7, .inl z356), (8, .inl z90)]) (st' := [.inl 59, .inr (.inr 361)]) rfl ?_
              have g368 : -2147483648 ≤ (H353.1 361 4) ∧ (H353.1 361 4) ≤ 2147483647 := kn (x := kx_361) hI354 rfl 4
              refine h_cv (i := 92) (j := 82) (b := 361) (M' := mt_82) (xs := [.inl 59]) (rest := []) rfl rfl rfl rfl (zs_K (x := kx_361) rfl (by decide)) rfl (Nat.le_of_ble_eq_true rfl) (Nat.le_of_ble_eq_true rfl) (by omega) (f_Reader_take (by omega) hI354 (by decide)) ?_
              rintro _ H370 ⟨z373, rfl, g369, hI371, hq372⟩
              have hf374 : fq [(2, 5), (7, 5), (7, 6), (8, 4), (13, 4), (18, 4), (361, 3), (361, 4), (361, 5), (361, 6), (361, 7), (361, 8), (361, 9)] [4, 5, 6, 9, 10, 11, 14, 15, 16, 17, 19, 20, 21, 22, 362] true H H370 := fq_t hf357 hq372 rfl rfl rfl
              refine k_run 0 (pc' := 181) (l' := [(0, .inr (.inr 361)), (1, .inl x1), (2, .inl x2), (3, .inl x3), (4, .inl x4), (5, .inl x5), (6, .inl x6), (7, .inl z356), (8, .inl z90)]) (st' := [.inl z373]) rfl ?_
              refine h_zeq (off := 7) (t := 188) rfl rfl (by omega) (fun c375 => ?_) (fun c375 => ?_)
              · refine k_run 0 (pc' := 188) (l' := [(0, .inr (.inr 361)), (1, .inl x1), (2, .inl x2), (3, .inl x3), (4, .inl x4), (5, .inl x5), (6, .inl x6), (7, .inl z356), (8, .inl z90)]) (st' := []) rfl ?_
                refine k_run 6 (pc' := 199) (l' := [(0, .inr (.inr 361)), (1, .inl x1), (2, .inl x2), (3, .inl x3), (4, .inl x4), (5, .inl x5), (6, .inl x6), (7, .inl 0), (8, .inl z90)]) (st' := [.inl (H370.1 7 6), .inr (.inr 7)]) rfl ?_
                have g376 : 0 ≤ (H370.1 7 6) ∧ (H370.1 7 6) ≤ 16 := kn (x := kx_7) hI371 rfl 6
                have e377 : (H370.1 7 6) = (H353.1 7 6) := (hq372.1 7 6 rfl (by decide) (by decide)).1
                have e378 : (H353.1 7 6) = (H1.1 7 6) := (hq355.1 7 6 rfl (by decide) (by decide)).1
                refine k_run 1 (pc' := 201) (l' := [(0, .inr (.inr 361)), (1, .inl x1), (2, .inl x2), (3, .inl x3), (4, .inl x4), (5, .inl x5), (6, .inl x6), (7, .inl 0), (8, .inl z90)]) (st' := [.inl 0, .inl (H370.1 7 6), .inr (.inr 7)]) rfl ?_
                refine h_zeq (off := 14) (t := 215) rfl rfl (by decide) (fun _ => ?_) (fun c => absurd c (by decide))
                refine k_run 0 (pc' := 215) (l' := [(0, .inr (.inr 361)), (1, .inl x1), (2, .inl x2), (3, .inl x3), (4, .inl x4), (5, .inl x5), (6, .inl x6), (7, .inl 0), (8, .inl z90)]) (st' := [.inl (H370.1 7 6), .inr (.inr 7)]) rfl ?_
                refine k_run 2 (pc' := 217) (l' := [(0, .inr (.inr 361)), (1, .inl x1), (2, .inl x2), (3, .inl x3), (4, .inl x4), (5, .inl x5), (6, .inl x6), (7, .inl 0), (8, .inl z90)]) (st' := [.inl ((H370.1 7 6) + 0), .inr (.inr 7)]) rfl ?_
                refine k_puti (z := ((H370.1 7 6) + 0)) (a := 7) (x := kx_7) rfl rfl rfl (by decide) (by decide) rfl rfl rfl rfl hI371 (by omega) (show 0 ≤ ((H370.1 7 6) + 0) ∧ ((H370.1 7 6) + 0) ≤ 16 by omega) (fun H379 hI380 hw381 hv382 => ?_)
                have hf383 : fq [(2, 5), (7, 5), (7, 6), (8, 4), (13, 4), (18, 4), (361, 3), (361, 4), (361, 5), (361, 6), (361, 7), (361, 8), (361, 9)] [4, 5, 6, 9, 10, 11, 14, 15, 16, 17, 19, 20, 21, 22, 362] true H H379 := fq_w hf374 hw381 (fpo (by decide) rfl)
                refine k_run 0 (pc' := 220) (l' := [(0, .inr (.inr 361)), (1, .inl x1), (2, .inl x2), (3, .inl x3), (4, .inl x4), (5, .inl x5), (6, .inl x6), (7, .inl 0), (8, .inl z90)]) (st' := []) rfl ?_
                refine k_run 2 (pc' := 69) (l' := [(0, .inr (.inr 361)), (1, .inl x1), (2, .inl x2), (3, .inl x3), (4, .inl x4), (5, .inl x5), (6, .inl (x6 + 1)), (7, .inl 0), (8, .inl z90)]) (st' := []) rfl ?_
                have g384 : -2147483648 ≤ (H379.1 361 4) ∧ (H379.1 361 4) ≤ 2147483647 := kn (x := kx_361) hI380 rfl 4
                have e385 : (H379.1 361 4) = (H370.1 361 4) := hw381.2 _ _ (fun q => absurd q.1 (by decide))
                refine h_loc [0, 1, 2, 3, 4, 5, 6, 7] rfl ?_
                exact ih H379 hI380 hf383 x1 x2 x3 x4 x5 (x6 + 1) (0 : Int) (by omega) (by omega) (by omega) (by omega) (by omega) (by omega) (by decide) (by omega) (by omega) (by omega) (by omega) (by omega) (by omega) (by omega) (by omega) (by omega)
              · refine k_run 0 (pc' := 184) (l' := [(0, .inr (.inr 361)), (1, .inl x1), (2, .inl x2), (3, .inl x3), (4, .inl x4), (5, .inl x5), (6, .inl x6), (7, .inl z356), (8, .inl z90)]) (st' := []) rfl ?_
                refine k_run 7 (pc' := 199) (l' := [(0, .inr (.inr 361)), (1, .inl x1), (2, .inl x2), (3, .inl x3), (4, .inl x4), (5, .inl x5), (6, .inl x6), (7, .inl 1), (8, .inl z90)]) (st' := [.inl (H370.1 7 6), .inr (.inr 7)]) rfl ?_
                have g386 : 0 ≤ (H370.1 7 6) ∧ (H370.1 7 6) ≤ 16 := kn (x := kx_7) hI371 rfl 6
                have e387 : (H370.1 7 6) = (H353.1 7 6) := (hq372.1 7 6 rfl (by decide) (by decide)).1
                have e388 : (H353.1 7 6) = (H1.1 7 6) := (hq355.1 7 6 rfl (by decide) (by decide)).1
                refine k_run 1 (pc' := 201) (l' := [(0, .inr (.inr 361)), (1, .inl x1), (2, .inl x2), (3, .inl x3), (4, .inl x4), (5, .inl x5), (6, .inl x6), (7, .inl 1), (8, .inl z90)]) (st' := [.inl 1, .inl (H370.1 7 6), .inr (.inr 7)]) rfl ?_
                refine h_zeq (off := 14) (t := 215) rfl rfl (by decide) (fun c => absurd c (by decide)) (fun _ => ?_)
                refine k_run 0 (pc' := 204) (l' := [(0, .inr (.inr 361)), (1, .inl x1), (2, .inl x2), (3, .inl x3), (4, .inl x4), (5, .inl x5), (6, .inl x6), (7, .inl 1), (8, .inl z90)]) (st' := [.inl (H370.1 7 6), .inr (.inr 7)]) rfl ?_
                refine k_run 2 (pc' := 208) (l' := [(0, .inr (.inr 361)), (1, .inl x1), (2, .inl x2), (3, .inl x3), (4, .inl x4), (5, .inl x5), (6, .inl x6), (7, .inl 1), (8, .inl z90)]) (st' := [.inl 7, .inl z90, .inl (H370.1 7 6), .inr (.inr 7)]) rfl ?_
                refine h_ine (off := 7) (t := 215) rfl rfl (by omega) (by decide) (fun c389 => ?_) (fun c389 => ?_)
                · refine k_run 0 (pc' := 215) (l' := [(0, .inr (.inr 361)), (1, .inl x1), (2, .inl x2), (3, .inl x3), (4, .inl x4), (5, .inl x5), (6, .inl x6), (7, .inl 1), (8, .inl z90)]) (st' := [.inl (H370.1 7 6), .inr (.inr 7)]) rfl ?_
                  refine k_run 2 (pc' := 217) (l' := [(0, .inr (.inr 361)), (1, .inl x1), (2, .inl x2), (3, .inl x3), (4, .inl x4), (5, .inl x5), (6, .inl x6), (7, .inl 1), (8, .inl z90)]) (st' := [.inl ((H370.1 7 6) + 0), .inr (.inr 7)]) rfl ?_
                  refine k_puti (z := ((H370.1 7 6) + 0)) (a := 7) (x := kx_7) rfl rfl rfl (by decide) (by decide) rfl rfl rfl rfl hI371 (by omega) (show 0 ≤ ((H370.1 7 6) + 0) ∧ ((H370.1 7 6) + 0) ≤ 16 by omega) (fun H390 hI391 hw392 hv393 => ?_)
                  have hf394 : fq [(2, 5), (7, 5), (7, 6), (8, 4), (13, 4), (18, 4), (361, 3), (361, 4), (361, 5), (361, 6), (361, 7), (361, 8), (361, 9)] [4, 5, 6, 9, 10, 11, 14, 15, 16, 17, 19, 20, 21, 22, 362] true H H390 := fq_w hf374 hw392 (fpo (by decide) rfl)
                  refine k_run 0 (pc' := 220) (l' := [(0, .inr (.inr 361)), (1, .inl x1), (2, .inl x2), (3, .inl x3), (4, .inl x4), (5, .inl x5), (6, .inl x6), (7, .inl 1), (8, .inl z90)]) (st' := []) rfl ?_
                  refine k_run 2 (pc' := 69) (l' := [(0, .inr (.inr 361)), (1, .inl x1), (2, .inl x2), (3, .inl x3), (4, .inl x4), (5, .inl x5), (6, .inl (x6 + 1)), (7, .inl 1), (8, .inl z90)]) (st' := []) rfl ?_
                  have g395 : -2147483648 ≤ (H390.1 361 4) ∧ (H390.1 361 4) ≤ 2147483647 := kn (x := kx_361) hI391 rfl 4
                  have e396 : (H390.1 361 4) = (H370.1 361 4) := hw392.2 _ _ (fun q => absurd q.1 (by decide))
                  refine h_loc [0, 1, 2, 3, 4, 5, 6, 7] rfl ?_
                  exact ih H390 hI391 hf394 x1 x2 x3 x4 x5 (x6 + 1) (1 : Int) (by omega) (by omega) (by omega) (by omega) (by omega) (by omega) (by decide) (by omega) (by omega) (by omega) (by omega) (by omega) (by omega) (by omega) (by omega) (by omega)
                · refine k_run 0 (pc' := 211) (l' := [(0, .inr (.inr 361)), (1, .inl x1), (2, .inl x2), (3, .inl x3), (4, .inl x4), (5, .inl x5), (6, .inl x6), (7, .inl 1), (8, .inl z90)]) (st' := [.inl (H370.1 7 6), .inr (.inr 7)]) rfl ?_
                  refine k_run 3 (pc' := 217) (l' := [(0, .inr (.inr 361)), (1, .inl x1), (2, .inl x2), (3, .inl x3), (4, .inl x4), (5, .inl x5), (6, .inl x6), (7, .inl 1), (8, .inl z90)]) (st' := [.inl ((H370.1 7 6) + 1), .inr (.inr 7)]) rfl ?_
                  refine k_puti (z := ((H370.1 7 6) + 1)) (a := 7) (x := kx_7) rfl rfl rfl (by decide) (by decide) rfl rfl rfl rfl hI371 (by omega) (show 0 ≤ ((H370.1 7 6) + 1) ∧ ((H370.1 7 6) + 1) ≤ 16 by omega) (fun H397 hI398 hw399 hv400 => ?_)
                  have hf401 : fq [(2, 5), (7, 5), (7, 6), (8, 4), (13, 4), (18, 4), (361, 3), (361, 4), (361, 5), (361, 6), (361, 7), (361, 8), (361, 9)] [4, 5, 6, 9, 10, 11, 14, 15, 16, 17, 19, 20, 21, 22, 362] true H H397 := fq_w hf374 hw399 (fpo (by decide) rfl)
                  refine k_run 0 (pc' := 220) (l' := [(0, .inr (.inr 361)), (1, .inl x1), (2, .inl x2), (3, .inl x3), (4, .inl x4), (5, .inl x5), (6, .inl x6), (7, .inl 1), (8, .inl z90)]) (st' := []) rfl ?_
                  refine k_run 2 (pc' := 69) (l' := [(0, .inr (.inr 361)), (1, .inl x1), (2, .inl x2), (3, .inl x3), (4, .inl x4), (5, .inl x5), (6, .inl (x6 + 1)), (7, .inl 1), (8, .inl z90)]) (st' := []) rfl ?_
                  have g402 : -2147483648 ≤ (H397.1 361 4) ∧ (H397.1 361 4) ≤ 2147483647 := kn (x := kx_361) hI398 rfl 4
                  have e403 : (H397.1 361 4) = (H370.1 361 4) := hw399.2 _ _ (fun q => absurd q.1 (by decide))
                  refine h_loc [0, 1, 2, 3, 4, 5, 6, 7] rfl ?_
                  exact ih H397 hI398 hf401 x1 x2 x3 x4 x5 (x6 + 1) (1 : Int) (by omega) (by omega) (by omega) (by omega) (by omega) (by omega) (by decide) (by omega) (by omega) (by omega) (by omega) (by omega) (by omega) (by omega) (by omega) (by omega)
set_option maxRecDepth 100000 in
theorem f_Reader_readText {d : Nat} (hd : 42 ≤ d) {H : hp} (hI : Inv H)   : hG (zs zK) d mt_62 0 (zargs 0 [.inr (.inr 361)]) [] H (fun r9 H9 => ∃ z : Int, r9 = some (.inl z) ∧ ((-2147483648 ≤ z ∧ z ≤ 2147483647) ∧ (z < 0 ∨ H9.1 361 4 = H.1 361 4)) ∧ Inv H9 ∧ fq [(2, 5), (7, 5), (7, 6), (8, 4), (13, 4), (18, 4), (361, 3), (361, 4), (361, 5), (361, 6), (361, 7), (361, 8), (361, 9)] [4, 5, 6, 9, 10, 11, 14, 15, 16, 17, 19, 20, 21, 22, 362] true H H9) := by
  refine k_run 0 (pc' := 0) (l' := [(0, .inr (.inr 361))]) (st' := []) rfl ?_
  refine k_run 4 (pc' := 10) (l' := [(0, .inr (.inr 361))]) (st' := [.inl (H.1 8 4)]) rfl ?_
  have g1 : 0 ≤ (H.1 8 4) ∧ (H.1 8 4) ≤ 6 := kn (x := kx_8) hI rfl 4
  refine k_run 5 (pc' := 21) (l' := [(0, .inr (.inr 361)), (1, .inl (H.1 8 4))]) (st' := [.inl (H.1 13 4)]) rfl ?_
  have g2 : 0 ≤ (H.1 13 4) ∧ (H.1 13 4) ≤ 16 := kn (x := kx_13) hI rfl 4
  refine k_run 5 (pc' := 32) (l' := [(0, .inr (.inr 361)), (1, .inl (H.1 8 4)), (2, .inl (H.1 13 4))]) (st' := [.inl (H.1 18 4)]) rfl ?_
  have g3 : 0 ≤ (H.1 18 4) ∧ (H.1 18 4) ≤ 16 := kn (x := kx_18) hI rfl 4
  refine k_run 4 (pc' := 40) (l' := [(0, .inr (.inr 361)), (1, .inl (H.1 8 4)), (2, .inl (H.1 13 4)), (3, .inl (H.1 18 4))]) (st' := [.inl (H.1 7 5)]) rfl ?_
  have g4 : 0 ≤ (H.1 7 5) ∧ (H.1 7 5) ≤ 40 := kn (x := kx_7) hI rfl 5
  refine k_run 4 (pc' := 49) (l' := [(0, .inr (.inr 361)), (1, .inl (H.1 8 4)), (2, .inl (H.1 13 4)), (3, .inl (H.1 18 4)), (4, .inl (H.1 7 5))]) (st' := [.inl (H.1 7 6)]) rfl ?_
  have g5 : 0 ≤ (H.1 7 6) ∧ (H.1 7 6) ≤ 16 := kn (x := kx_7) hI rfl 6
  refine k_run 3 (pc' := 55) (l' := [(0, .inr (.inr 361)), (1, .inl (H.1 8 4)), (2, .inl (H.1 13 4)), (3, .inl (H.1 18 4)), (4, .inl (H.1 7 5)), (5, .inl (H.1 7 6))]) (st' := [.inr (.inr 2)]) rfl ?_
  refine h_cv (i := 64) (j := 27) (b := 2) (M' := mt_27) (xs := []) (rest := []) rfl rfl rfl rfl (zs_K (x := kx_2) rfl (by decide)) rfl (Nat.le_of_ble_eq_true rfl) (Nat.le_of_ble_eq_true rfl) (by omega) (k_Tape_cut (by omega) hI ) ?_
  rintro _ H7 ⟨rfl, hI8, hq9⟩
  have hf10 : fq [(2, 5), (7, 5), (7, 6), (8, 4), (13, 4), (18, 4), (361, 3), (361, 4), (361, 5), (361, 6), (361, 7), (361, 8), (361, 9)] [4, 5, 6, 9, 10, 11, 14, 15, 16, 17, 19, 20, 21, 22, 362] true H H7 := fq_t (fq_rf _ _ _ _) hq9 rfl rfl rfl
  refine k_run 0 (pc' := 58) (l' := [(0, .inr (.inr 361)), (1, .inl (H.1 8 4)), (2, .inl (H.1 13 4)), (3, .inl (H.1 18 4)), (4, .inl (H.1 7 5)), (5, .inl (H.1 7 6))]) (st' := []) rfl ?_
  refine k_run 2 (pc' := 60) (l' := [(0, .inr (.inr 361)), (1, .inl (H.1 8 4)), (2, .inl (H.1 13 4)), (3, .inl (H.1 18 4)), (4, .inl (H.1 7 5)), (5, .inl (H.1 7 6))]) (st' := [.inl 0, .inr (.inr 361)]) rfl ?_
  refine k_putw (a := 361) (x := kx_361) rfl rfl rfl (by decide) (by decide) rfl rfl rfl rfl hI8 rfl (fun H11 hI12 hw13 => ?_)
  have hf15 : fq [(2, 5), (7, 5), (7, 6), (8, 4), (13, 4), (18, 4), (361, 3), (361, 4), (361, 5), (361, 6), (361, 7), (361, 8), (361, 9)] [4, 5, 6, 9, 10, 11, 14, 15, 16, 17, 19, 20, 21, 22, 362] true H H11 := fq_w hf10 hw13 (fpo (by decide) rfl)
  refine k_run 0 (pc' := 63) (l' := [(0, .inr (.inr 361)), (1, .inl (H.1 8 4)), (2, .inl (H.1 13 4)), (3, .inl (H.1 18 4)), (4, .inl (H.1 7 5)), (5, .inl (H.1 7 6))]) (st' := []) rfl ?_
  refine k_run 4 (pc' := 69) (l' := [(0, .inr (.inr 361)), (1, .inl (H.1 8 4)), (2, .inl (H.1 13 4)), (3, .inl (H.1 18 4)), (4, .inl (H.1 7 5)), (5, .inl (H.1 7 6)), (6, .inl 0), (7, .inl 1)]) (st' := []) rfl ?_
  have g16 : -2147483648 ≤ (H11.1 361 4) ∧ (H11.1 361 4) ≤ 2147483647 := kn (x := kx_361) hI12 rfl 4
  have e17 : (H11.1 361 4) = (H7.1 361 4) := hw13.2 _ _ (fun q => absurd q.2 (by decide))
  have e18 : (H7.1 361 4) = (H.1 361 4) := (hq9.1 361 4 rfl (by decide) (by decide)).1
  exact (f_Reader_readText_cut hd hI  _) H11 hI12 hf15 (H.1 8 4) (H.1 13 4) (H.1 18 4) (H.1 7 5) (H.1 7 6) (0 : Int) (1 : Int) (by omega) (by omega) (by omega) (by omega) (by omega) (by decide) (by decide) (by omega) (by omega) (by omega) (by omega) (by omega) (by omega) (by omega) (by omega) (Nat.lt_succ_self _)

/-! read -/
set_option maxRecDepth 100000 in
theorem f_read {d : Nat} (hd : 43 ≤ d) {H : hp} (hI : Inv H)   : hG (zs zK) d mt_3 0 (zargs 0 [.inr (.inr 1)]) [] H (fun r9 H9 => ∃ z : Int, r9 = some (.inl z) ∧ ((-2147483648 ≤ z ∧ z ≤ 2147483647) ∧ (z < 0 ∨ H9.1 361 4 = H.1 361 4)) ∧ Inv H9 ∧ fq [(2, 1), (2, 5), (7, 5), (7, 6), (8, 4), (13, 4), (18, 4), (361, 3), (361, 4), (361, 5), (361, 6), (361, 7), (361, 8), (361, 9), (407, 2), (407, 3)] [4, 5, 6, 9, 10, 11, 14, 15, 16, 17, 19, 20, 21, 22, 362] true H H9) := by
  refine k_run 0 (pc' := 0) (l' := [(0, .inr (.inr 1))]) (st' := []) rfl ?_
  refine k_run 2 (pc' := 4) (l' := [(0, .inr (.inr 1))]) (st' := [.inr (.inr 361)]) rfl ?_
  have g1 : -2147483648 ≤ (H.1 361 4) ∧ (H.1 361 4) ≤ 2147483647 := kn (x := kx_361) hI rfl 4
  refine h_cv (i := 92) (j := 62) (b := 361) (M' := mt_62) (xs := []) (rest := []) rfl rfl rfl rfl (zs_K (x := kx_361) rfl (by decide)) rfl (Nat.le_of_ble_eq_true rfl) (Nat.le_of_ble_eq_true rfl) (by omega) (f_Reader_readText (by omega) hI ) ?_
  rintro _ H3 ⟨z6, rfl, g2, hI4, hq5⟩
  have hf7 : fq [(2, 1), (2, 5), (7, 5), (7, 6), (8, 4), (13, 4), (18, 4), (361, 3), (361, 4), (361, 5), (361, 6), (361, 7), (361, 8), (361, 9), (407, 2), (407, 3)] [4, 5, 6, 9, 10, 11, 14, 15, 16, 17, 19, 20, 21, 22, 362] true H H3 := fq_t (fq_rf _ _ _ _) hq5 rfl rfl rfl
  refine k_run 0 (pc' := 7) (l' := [(0, .inr (.inr 1))]) (st' := [.inl z6]) rfl ?_
  refine k_run 4 (pc' := 13) (l' := [(0, .inr (.inr 1)), (1, .inl z6)]) (st' := [.inl 0, .inr (.inr 2)]) rfl ?_
  refine k_puti (z := 0) (a := 2) (x := kx_2) rfl rfl rfl (by decide) (by decide) rfl rfl rfl rfl hI4 (by decide) (show 0 ≤ (0 : Int) ∧ (0 : Int) ≤ 1000 by omega) (fun H8 hI9 hw10 hv11 => ?_)
  have hf12 : fq [(2, 1), (2, 5), (7, 5), (7, 6), (8, 4), (13, 4), (18, 4), (361, 3), (361, 4), (361, 5), (361, 6), (361, 7), (361, 8), (361, 9), (407, 2), (407, 3)] [4, 5, 6, 9, 10, 11, 14, 15, 16, 17, 19, 20, 21, 22, 362] true H H8 := fq_w hf7 hw10 (fpo (by decide) rfl)
  refine k_run 0 (pc' := 16) (l' := [(0, .inr (.inr 1)), (1, .inl z6)]) (st' := []) rfl ?_
  refine k_run 1 (pc' := 17) (l' := [(0, .inr (.inr 1)), (1, .inl z6)]) (st' := [.inl z6]) rfl ?_
  refine h_zlt (off := 13) (t := 30) rfl rfl (by omega) (fun c13 => ?_) (fun c13 => ?_)
  · refine k_run 0 (pc' := 30) (l' := [(0, .inr (.inr 1)), (1, .inl z6)]) (st' := []) rfl ?_
    refine k_run 1 (pc' := 31) (l' := [(0, .inr (.inr 1)), (1, .inl z6)]) (st' := [.inl z6]) rfl ?_
    refine h_reti (x := z6) rfl rfl ?_
    have g14 : -2147483648 ≤ (H8.1 361 4) ∧ (H8.1 361 4) ≤ 2147483647 := kn (x := kx_361) hI9 rfl 4
    have e15 : (H8.1 361 4) = (H3.1 361 4) := hw10.2 _ _ (fun q => absurd q.1 (by decide))
    exact ⟨_, rfl, (by omega), hI9, hf12⟩
  · refine k_run 0 (pc' := 20) (l' := [(0, .inr (.inr 1)), (1, .inl z6)]) (st' := []) rfl ?_
    refine k_run 3 (pc' := 27) (l' := [(0, .inr (.inr 1)), (1, .inl z6)]) (st' := [.inr (.inr 407)]) rfl ?_
    refine h_cv (i := 100) (j := 144) (b := 407) (M' := mt_144) (xs := []) (rest := []) rfl rfl rfl rfl (zs_K (x := kx_407) rfl (by decide)) rfl (Nat.le_of_ble_eq_true rfl) (Nat.le_of_ble_eq_true rfl) (by omega) (k_Proof_forget (by omega) hI9 ) ?_
    rintro _ H17 ⟨rfl, hI18, hq19⟩
    have hf20 : fq [(2, 1), (2, 5), (7, 5), (7, 6), (8, 4), (13, 4), (18, 4), (361, 3), (361, 4), (361, 5), (361, 6), (361, 7), (361, 8), (361, 9), (407, 2), (407, 3)] [4, 5, 6, 9, 10, 11, 14, 15, 16, 17, 19, 20, 21, 22, 362] true H H17 := fq_t hf12 hq19 rfl rfl rfl
    refine k_run 0 (pc' := 30) (l' := [(0, .inr (.inr 1)), (1, .inl z6)]) (st' := []) rfl ?_
    refine k_run 1 (pc' := 31) (l' := [(0, .inr (.inr 1)), (1, .inl z6)]) (st' := [.inl z6]) rfl ?_
    refine h_reti (x := z6) rfl rfl ?_
    have g21 : -2147483648 ≤ (H17.1 361 4) ∧ (H17.1 361 4) ≤ 2147483647 := kn (x := kx_361) hI18 rfl 4
    have e22 : (H17.1 361 4) = (H8.1 361 4) := (hq19.1 361 4 rfl (by decide) (by decide)).1
    have e23 : (H8.1 361 4) = (H3.1 361 4) := hw10.2 _ _ (fun q => absurd q.1 (by decide))
    exact ⟨_, rfl, (by omega), hI18, hf20⟩

/-! fault -/
set_option maxRecDepth 100000 in
theorem kb_fault {d : Nat} (hd : 1 ≤ d) {H : hp} (hI : Inv H)   : hG (zs zK) d mt_4 0 (zargs 0 [.inr (.inr 1)]) [] H (fun r9 H9 => ∃ z : Int, r9 = some (.inl z) ∧ ((-2147483648 ≤ z ∧ z ≤ 2147483647) ∧ (z = H.1 361 4)) ∧ H = H9) := by
  refine k_run 0 (pc' := 0) (l' := [(0, .inr (.inr 1))]) (st' := []) rfl ?_
  refine k_run 3 (pc' := 7) (l' := [(0, .inr (.inr 1))]) (st' := [.inl (H.1 361 4)]) rfl ?_
  have g1 : -2147483648 ≤ (H.1 361 4) ∧ (H.1 361 4) ≤ 2147483647 := kn (x := kx_361) hI rfl 4
  refine h_reti (x := (H.1 361 4)) rfl rfl ?_
  exact ⟨_, rfl, (by omega), rfl⟩
