/-! the class's reader: names are told, signs put, exactly -/
/-! Term.codeOf -/
set_option maxRecDepth 100000 in
theorem q_Term_codeOf {d : Nat} (hd : 1 ≤ d) {H : hp} {a : Int} {b : Int} {c : Int} (ha : -2147483648 ≤ a ∧ a ≤ 2147483647) (hb : -2147483648 ≤ b ∧ b ≤ 2147483647) (hc : -2147483648 ≤ c ∧ c ≤ 2147483647) : hG (zs zK) d mt_48 0 (zargs 0 [.inl a, .inl b, .inl c]) [] H (fun r9 H9 => ∃ z : Int, r9 = some (.inl z) ∧ ((-2147483648 ≤ z ∧ z ≤ 2147483647)) ∧ (z = kco a b c) ∧ H = H9) := by
  refine k_run 0 (pc' := 0) (l' := [(0, .inl a), (1, .inl b), (2, .inl c)]) (st' := []) rfl ?_
  refine k_run 6 (pc' := 8) (l' := [(0, .inl a), (1, .inl b), (2, .inl c)]) (st' := [.inl (z_and b 127), .inl (z_shl a 10)]) rfl ?_
  have g1 : 0 ≤ (z_and b 127) ∧ (z_and b 127) ≤ 127 := z_and_le _ 127 (by decide)
  refine k_run 6 (pc' := 15) (l' := [(0, .inl a), (1, .inl b), (2, .inl c)]) (st' := [.inl (z_and c 7), .inl (z_or (z_shl a 10) (z_shl (z_and b 127) 3))]) rfl ?_
  have g2 : 0 ≤ (z_and c 7) ∧ (z_and c 7) ≤ 7 := z_and_le _ 7 (by decide)
  refine k_run 1 (pc' := 16) (l' := [(0, .inl a), (1, .inl b), (2, .inl c)]) (st' := [.inl (z_or (z_or (z_shl a 10) (z_shl (z_and b 127) 3)) (z_and c 7))]) rfl ?_
  refine h_reti (x := (z_or (z_or (z_shl a 10) (z_shl (z_and b 127) 3)) (z_and c 7))) rfl rfl ?_
  exact ⟨_, rfl, (z_int _), rfl, rfl⟩

/-! Term.put -/
set_option maxRecDepth 100000 in
theorem q_Term_put {d : Nat} (hd : 1 ≤ d) {H : hp} (hI : Inv H) {t n : Nat} {a : Int} (ht : isT t n) (ha : -2147483648 ≤ a ∧ a ≤ 2147483647) (hp0 : H.1 t 1 < n) : hG (zs zK) d mt_52 0 (zargs 0 [.inr (.inr t), .inl a]) [] H (fun r9 H9 => r9 = none ∧ Inv H9 ∧ fq [] [] false H H9 ∧ fw [((t + 1), (H.1 t 1).toNat), (t, 1)] H H9 ∧ (H9.1 (t + 1) (H.1 t 1).toNat = a ∧ H9.1 t 1 = H.1 t 1 + 1)) := by
  have htb := ht.2.2.2.2
  refine k_run 0 (pc' := 0) (l' := [(0, .inr (.inr t)), (1, .inl a)]) (st' := []) rfl ?_
  refine k_run 1 (pc' := 1) (l' := [(0, .inr (.inr t)), (1, .inl a)]) (st' := [.inr (.inr t)]) rfl ?_
  refine k_get (a := t) (x := (kTo t n)) (v := .inl (H.1 t 1)) rfl rfl ht.1 (iT0 ht) rfl rfl rfl ?_
  have g1 : 0 ≤ (H.1 t 1) ∧ (H.1 t 1) ≤ n := kn hI ht.1 1
  refine k_run 0 (pc' := 4) (l' := [(0, .inr (.inr t)), (1, .inl a)]) (st' := [.inl (H.1 t 1)]) rfl ?_
  refine k_run 1 (pc' := 5) (l' := [(0, .inr (.inr t)), (1, .inl a)]) (st' := [.inr (.inr t), .inl (H.1 t 1)]) rfl ?_
  refine k_get (a := t) (x := (kTo t n)) (v := .inr (.inr (t + 1))) rfl rfl ht.1 (iT0 ht) rfl rfl rfl ?_
  refine k_run 0 (pc' := 8) (l' := [(0, .inr (.inr t)), (1, .inl a)]) (st' := [.inr (.inr (t + 1)), .inl (H.1 t 1)]) rfl ?_
  refine k_alen (c := (t + 1)) (x := (kTc n)) rfl ht.2.1 (iT1 ht) rfl ?_
  refine k_run 0 (pc' := 9) (l' := [(0, .inr (.inr t)), (1, .inl a)]) (st' := [.inl (n : Int), .inl (H.1 t 1)]) rfl ?_
  refine h_ige (off := 23) (t := 32) rfl rfl (by omega) (by omega) (fun c2 => ?_) (fun c2 => ?_)
  · refine k_run 0 (pc' := 32) (l' := [(0, .inr (.inr t)), (1, .inl a)]) (st' := []) rfl ?_
    refine h_ret rfl rfl ?_
    exact ⟨rfl, hI, (fq_rf _ _ _ _), (fw_rf _ _), (by omega)⟩
  · refine k_run 0 (pc' := 12) (l' := [(0, .inr (.inr t)), (1, .inl a)]) (st' := []) rfl ?_
    refine k_run 1 (pc' := 13) (l' := [(0, .inr (.inr t)), (1, .inl a)]) (st' := [.inr (.inr t)]) rfl ?_
    refine k_get (a := t) (x := (kTo t n)) (v := .inr (.inr (t + 1))) rfl rfl ht.1 (iT0 ht) rfl rfl rfl ?_
    refine k_run 0 (pc' := 16) (l' := [(0, .inr (.inr t)), (1, .inl a)]) (st' := [.inr (.inr (t + 1))]) rfl ?_
    refine k_run 1 (pc' := 17) (l' := [(0, .inr (.inr t)), (1, .inl a)]) (st' := [.inr (.inr t), .inr (.inr (t + 1))]) rfl ?_
    refine k_get (a := t) (x := (kTo t n)) (v := .inl (H.1 t 1)) rfl rfl ht.1 (iT0 ht) rfl rfl rfl ?_
    refine k_run 0 (pc' := 20) (l' := [(0, .inr (.inr t)), (1, .inl a)]) (st' := [.inl (H.1 t 1), .inr (.inr (t + 1))]) rfl ?_
    refine k_run 1 (pc' := 21) (l' := [(0, .inr (.inr t)), (1, .inl a)]) (st' := [.inl a, .inl (H.1 t 1), .inr (.inr (t + 1))]) rfl ?_
    refine k_ist (z := a) (c := (t + 1)) (j := ((H.1 t 1)).toNat) (i := (H.1 t 1)) (x := (kTc n)) rfl ht.2.1 (iT1 ht) (by omega) rfl (by omega) (by omega) (by omega) hI (by omega) (show -2147483648 ≤ a ∧ a ≤ 2147483647 by omega) (fun H3 hI4 hw5 hv6 => ?_)
    have hf7 : fq [] [] false H H3 := fq_w (fq_rf _ _ _ _) hw5 (fpC ht)
    have hp8 : fw [((t + 1), (H.1 t 1).toNat), (t, 1)] H H3 := fw_w (fw_rf _ _) hw5 (by first | (simp; done) | (simp; omega))
    refine k_run 0 (pc' := 22) (l' := [(0, .inr (.inr t)), (1, .inl a)]) (st' := []) rfl ?_
    refine k_run 2 (pc' := 24) (l' := [(0, .inr (.inr t)), (1, .inl a)]) (st' := [.inr (.inr t), .inr (.inr t)]) rfl ?_
    refine k_get (a := t) (x := (kTo t n)) (v := .inl (H3.1 t 1)) rfl rfl ht.1 (iT0 ht) rfl rfl rfl ?_
    have g9 : 0 ≤ (H3.1 t 1) ∧ (H3.1 t 1) ≤ n := kn hI4 ht.1 1
    have e10 : (H3.1 t 1) = (H.1 t 1) := hw5.2 _ _ (fun q => iTC ht ht q.1)
    refine k_run 0 (pc' := 27) (l' := [(0, .inr (.inr t)), (1, .inl a)]) (st' := [.inl (H3.1 t 1), .inr (.inr t)]) rfl ?_
    refine k_run 2 (pc' := 29) (l' := [(0, .inr (.inr t)), (1, .inl a)]) (st' := [.inl ((H3.1 t 1) + 1), .inr (.inr t)]) rfl ?_
    refine k_puti (z := ((H3.1 t 1) + 1)) (a := t) (x := (kTo t n)) rfl rfl ht.1 (iT0 ht) ht.2.2.1 rfl rfl rfl rfl hI4 (by omega) (show 0 ≤ ((H3.1 t 1) + 1) ∧ ((H3.1 t 1) + 1) ≤ n by omega) (fun H11 hI12 hw13 hv14 => ?_)
    have hf15 : fq [] [] false H H11 := fq_w hf7 hw13 (fpT ht)
    have hp16 : fw [((t + 1), (H.1 t 1).toNat), (t, 1)] H H11 := fw_w hp8 hw13 (by first | (simp; done) | (simp; omega))
    refine k_run 0 (pc' := 32) (l' := [(0, .inr (.inr t)), (1, .inl a)]) (st' := []) rfl ?_
    refine h_ret rfl rfl ?_
    exact ⟨rfl, hI12, hf15, hp16, ⟨((hw13.2 _ _ (fun q => absurd q.1 (by first | decide | omega))).trans hv6), (by have h9 := hv14; omega)⟩⟩

/-! Reader.tellName -/
set_option maxRecDepth 100000 in
theorem q_Reader_tellName_8 {d : Nat} (hd : 3 ≤ d) {H : hp} (hI : Inv H) {a : Int} {b : Int} (ha : -2147483648 ≤ a ∧ a ≤ 2147483647) (hb : -2147483648 ≤ b ∧ b ≤ 2147483647) (hp0 : -2 ≤ b ∧ b ≤ 100) (hp1 : 0 ≤ H.1 361 3 ∧ H.1 361 3 < H.1 2 5) : hG (zs zK) d mt_78 0 (zargs 0 [.inr (.inr 361), .inr (.inr 8), .inl a, .inl b]) [] H (fun r9 H9 => ∃ z : Int, r9 = some (.inl z) ∧ ((0 ≤ z ∧ z ≤ 1)) ∧ Inv H9 ∧ fq [(8, 4), (361, 3), (361, 4), (361, 5)] [9, 10, 11] false H H9 ∧ fw [(9, (H.1 8 4).toNat), (10, (H.1 8 4).toNat), (11, (H.1 8 4).toNat), (8, 4), (361, 3), (361, 4), (361, 5)] H H9 ∧ ((z = 1 ∧ H.1 4 (H.1 361 3).toNat = a ∧ fnd (H.1 9) (H.1 8 4) (H.1 6 (H.1 361 3).toNat) < 0 ∧ H.1 8 4 < 6 ∧ H9.1 9 (H.1 8 4).toNat = H.1 6 (H.1 361 3).toNat ∧ H9.1 10 (H.1 8 4).toNat = b ∧ H9.1 11 (H.1 8 4).toNat = 0 ∧ H9.1 8 4 = H.1 8 4 + 1 ∧ H9.1 361 3 = H.1 361 3 + 1) ∨ (z = 0 ∧ fw [(361, 4), (361, 5)] H H9 ∧ H9.1 361 5 = H.1 5 (H.1 361 3).toNat ∧ ((H.1 4 (H.1 361 3).toNat ≠ a ∧ H9.1 361 4 = (if H.1 4 (H.1 361 3).toNat = 1 then 1 else 2)) ∨ (H.1 4 (H.1 361 3).toNat = a ∧ 0 ≤ fnd (H.1 9) (H.1 8 4) (H.1 6 (H.1 361 3).toNat) ∧ H9.1 361 4 = 3) ∨ (H.1 4 (H.1 361 3).toNat = a ∧ fnd (H.1 9) (H.1 8 4) (H.1 6 (H.1 361 3).toNat) < 0 ∧ 6 ≤ H.1 8 4 ∧ H9.1 361 4 = 5))))) := by
  refine k_run 0 (pc' := 0) (l' := [(0, .inr (.inr 361)), (1, .inr (.inr 8)), (2, .inl a), (3, .inl b)]) (st' := []) rfl ?_
  refine k_run 1 (pc' := 1) (l' := [(0, .inr (.inr 361)), (1, .inr (.inr 8)), (2, .inl a), (3, .inl b)]) (st' := [.inr (.inr 361)]) rfl ?_
  have g1 : -2147483648 ≤ (H.1 361 3) ∧ (H.1 361 3) ≤ 2147483647 := kn (x := kx_361) hI rfl 3
  have g2 : 0 ≤ (H.1 2 5) ∧ (H.1 2 5) ≤ 1001 := kn (x := kx_2) hI rfl 5
  refine h_cv (i := 72) (j := 83) (b := 361) (M' := mt_83) (xs := []) (rest := []) rfl rfl rfl rfl (zs_K (x := kx_361) rfl (by decide)) rfl (Nat.le_of_ble_eq_true rfl) (Nat.le_of_ble_eq_true rfl) (by omega) (q_Reader_token (by omega) hI (by omega)) ?_
  rintro _ _ ⟨z9, rfl, g3, hx8, rfl⟩
  refine k_run 0 (pc' := 4) (l' := [(0, .inr (.inr 361)), (1, .inr (.inr 8)), (2, .inl a), (3, .inl b)]) (st' := [.inl z9]) rfl ?_
  refine k_run 1 (pc' := 5) (l' := [(0, .inr (.inr 361)), (1, .inr (.inr 8)), (2, .inl a), (3, .inl b)]) (st' := [.inl a, .inl z9]) rfl ?_
  refine h_ieq (off := 8) (t := 13) rfl rfl (by omega) (by omega) (fun c10 => ?_) (fun c10 => ?_)
  · refine k_run 0 (pc' := 13) (l' := [(0, .inr (.inr 361)), (1, .inr (.inr 8)), (2, .inl a), (3, .inl b)]) (st' := []) rfl ?_
    refine k_run 2 (pc' := 15) (l' := [(0, .inr (.inr 361)), (1, .inr (.inr 8)), (2, .inl a), (3, .inl b)]) (st' := [.inr (.inr 361), .inr (.inr 8)]) rfl ?_
    refine h_cv (i := 120) (j := 84) (b := 361) (M' := mt_84) (xs := []) (rest := [.inr (.inr 8)]) rfl rfl rfl rfl (zs_K (x := kx_361) rfl (by decide)) rfl (Nat.le_of_ble_eq_true rfl) (Nat.le_of_ble_eq_true rfl) (by omega) (q_Reader_name (by omega) hI (by omega)) ?_
    rintro _ _ ⟨z17, rfl, g11, hx16, rfl⟩
    refine k_run 0 (pc' := 18) (l' := [(0, .inr (.inr 361)), (1, .inr (.inr 8)), (2, .inl a), (3, .inl b)]) (st' := [.inr (.inl z17), .inr (.inr 8)]) rfl ?_
    have g18 : 0 ≤ (H.1 8 4) ∧ (H.1 8 4) ≤ 6 := kn (x := kx_8) hI rfl 4
    refine h_cv (i := 124) (j := 41) (b := 8) (M' := mt_41) (xs := [.inr (.inl z17)]) (rest := []) rfl rfl rfl rfl (zs_K (x := kx_8) rfl (by decide)) rfl (Nat.le_of_ble_eq_true rfl) (Nat.le_of_ble_eq_true rfl) (by omega) (q_Symbols_find_8 (by omega) hI (by omega)) ?_
    rintro _ _ ⟨z25, rfl, g19, hx24, rfl⟩
    refine k_run 0 (pc' := 21) (l' := [(0, .inr (.inr 361)), (1, .inr (.inr 8)), (2, .inl a), (3, .inl b)]) (st' := [.inl z25]) rfl ?_
    refine h_zlt (off := 9) (t := 30) rfl rfl (by omega) (fun c26 => ?_) (fun c26 => ?_)
    · refine k_run 0 (pc' := 30) (l' := [(0, .inr (.inr 361)), (1, .inr (.inr 8)), (2, .inl a), (3, .inl b)]) (st' := []) rfl ?_
      refine k_run 1 (pc' := 31) (l' := [(0, .inr (.inr 361)), (1, .inr (.inr 8)), (2, .inl a), (3, .inl b)]) (st' := [.inr (.inr 8)]) rfl ?_
      refine h_cv (i := 225) (j := 42) (b := 8) (M' := mt_42) (xs := []) (rest := []) rfl rfl rfl rfl (zs_K (x := kx_8) rfl (by decide)) rfl (Nat.le_of_ble_eq_true rfl) (Nat.le_of_ble_eq_true rfl) (by omega) (q_Symbols_isFull_8 (by omega) hI ) ?_
      rintro _ _ ⟨z33, rfl, g27, hx32, rfl⟩
      refine k_run 0 (pc' := 34) (l' := [(0, .inr (.inr 361)), (1, .inr (.inr 8)), (2, .inl a), (3, .inl b)]) (st' := [.inl z33]) rfl ?_
      refine h_zeq (off := 9) (t := 43) rfl rfl (by omega) (fun c34 => ?_) (fun c34 => ?_)
      · refine k_run 0 (pc' := 43) (l' := [(0, .inr (.inr 361)), (1, .inr (.inr 8)), (2, .inl a), (3, .inl b)]) (st' := []) rfl ?_
        refine k_run 2 (pc' := 45) (l' := [(0, .inr (.inr 361)), (1, .inr (.inr 8)), (2, .inl a), (3, .inl b)]) (st' := [.inr (.inr 361), .inr (.inr 8)]) rfl ?_
        refine h_cv (i := 120) (j := 84) (b := 361) (M' := mt_84) (xs := []) (rest := [.inr (.inr 8)]) rfl rfl rfl rfl (zs_K (x := kx_361) rfl (by decide)) rfl (Nat.le_of_ble_eq_true rfl) (Nat.le_of_ble_eq_true rfl) (by omega) (q_Reader_name (by omega) hI (by omega)) ?_
        rintro _ _ ⟨z41, rfl, g35, hx40, rfl⟩
        refine k_run 0 (pc' := 48) (l' := [(0, .inr (.inr 361)), (1, .inr (.inr 8)), (2, .inl a), (3, .inl b)]) (st' := [.inr (.inl z41), .inr (.inr 8)]) rfl ?_
        refine k_run 1 (pc' := 49) (l' := [(0, .inr (.inr 361)), (1, .inr (.inr 8)), (2, .inl a), (3, .inl b)]) (st' := [.inl b, .inr (.inl z41), .inr (.inr 8)]) rfl ?_
        refine h_cv (i := 228) (j := 43) (b := 8) (M' := mt_43) (xs := [.inl b, .inr (.inl z41)]) (rest := []) rfl rfl rfl rfl (zs_K (x := kx_8) rfl (by decide)) rfl (Nat.le_of_ble_eq_true rfl) (Nat.le_of_ble_eq_true rfl) (by omega) (q_Symbols_add_8 (by omega) hI (by omega) (by omega) (by omega) (by omega)) ?_
        rintro _ H43 ⟨rfl, hI44, hq45, hp46, hx47⟩
        have hf48 : fq [(8, 4), (361, 3), (361, 4), (361, 5)] [9, 10, 11] false H H43 := fq_t (fq_rf _ _ _ _) hq45 rfl rfl rfl
        have hp49 : fw [(9, (H.1 8 4).toNat), (10, (H.1 8 4).toNat), (11, (H.1 8 4).toNat), (8, 4), (361, 3), (361, 4), (361, 5)] H H43 := fw_t (fw_rf _ _) hp46 (by first | (simp; done) | (simp; omega))
        refine k_run 0 (pc' := 52) (l' := [(0, .inr (.inr 361)), (1, .inr (.inr 8)), (2, .inl a), (3, .inl b)]) (st' := []) rfl ?_
        refine k_run 3 (pc' := 57) (l' := [(0, .inr (.inr 361)), (1, .inr (.inr 8)), (2, .inl a), (3, .inl b)]) (st' := [.inl (H43.1 361 3), .inr (.inr 361)]) rfl ?_
        have g50 : -2147483648 ≤ (H43.1 361 3) ∧ (H43.1 361 3) ≤ 2147483647 := kn (x := kx_361) hI44 rfl 3
        have e51 : (H43.1 361 3) = (H.1 361 3) := (hq45.1 361 3 rfl (by decide) (by decide)).1
        refine k_run 2 (pc' := 59) (l' := [(0, .inr (.inr 361)), (1, .inr (.inr 8)), (2, .inl a), (3, .inl b)]) (st' := [.inl ((H43.1 361 3) + 1), .inr (.inr 361)]) rfl ?_
        refine k_puti (z := ((H43.1 361 3) + 1)) (a := 361) (x := kx_361) rfl rfl rfl (by decide) (by decide) rfl rfl rfl rfl hI44 (by omega) (show -2147483648 ≤ ((H43.1 361 3) + 1) ∧ ((H43.1 361 3) + 1) ≤ 2147483647 by omega) (fun H52 hI53 hw54 hv55 => ?_)
        have hf56 : fq [(8, 4), (361, 3), (361, 4), (361, 5)] [9, 10, 11] false H H52 := fq_w hf48 hw54 (fpo (by decide) rfl)
        have hp57 : fw [(9, (H.1 8 4).toNat), (10, (H.1 8 4).toNat), (11, (H.1 8 4).toNat), (8, 4), (361, 3), (361, 4), (361, 5)] H H52 := fw_w hp49 hw54 (by first | (simp; done) | (simp; omega))
        refine k_run 0 (pc' := 62) (l' := [(0, .inr (.inr 361)), (1, .inr (.inr 8)), (2, .inl a), (3, .inl b)]) (st' := []) rfl ?_
        refine k_run 1 (pc' := 63) (l' := [(0, .inr (.inr 361)), (1, .inr (.inr 8)), (2, .inl a), (3, .inl b)]) (st' := [.inl 1]) rfl ?_
        refine h_retz (x := 1) rfl rfl (by decide) ?_
        exact ⟨_, rfl, (by omega), hI53, hf56, hp57, (Or.inl ⟨rfl, by omega, (by have h9 := hx24; rw [hx16] at h9; omega), by omega, ((hw54.2 _ _ (fun q => absurd q.1 (by decide))).trans hx47.1) |>.trans hx40, ((hw54.2 _ _ (fun q => absurd q.1 (by decide))).trans hx47.2.1), ((hw54.2 _ _ (fun q => absurd q.1 (by decide))).trans hx47.2.2.1), ((hw54.2 _ _ (fun q => absurd q.1 (by decide))).trans hx47.2.2.2), (by have h9 := hv55; have h8 := hp46.2 361 3 (by simp); omega)⟩)⟩
      · refine k_run 0 (pc' := 37) (l' := [(0, .inr (.inr 361)), (1, .inr (.inr 8)), (2, .inl a), (3, .inl b)]) (st' := []) rfl ?_
        refine k_run 2 (pc' := 39) (l' := [(0, .inr (.inr 361)), (1, .inr (.inr 8)), (2, .inl a), (3, .inl b)]) (st' := [.inl 5, .inr (.inr 361)]) rfl ?_
        refine h_cv (i := 128) (j := 86) (b := 361) (M' := mt_86) (xs := [.inl 5]) (rest := []) rfl rfl rfl rfl (zs_K (x := kx_361) rfl (by decide)) rfl (Nat.le_of_ble_eq_true rfl) (Nat.le_of_ble_eq_true rfl) (by omega) (q_Reader_fails (by omega) hI (by decide) (by omega)) ?_
        rintro _ H59 ⟨z64, rfl, g58, hI60, hq61, hp62, hx63⟩
        have hf65 : fq [(8, 4), (361, 3), (361, 4), (361, 5)] [9, 10, 11] false H H59 := fq_t (fq_rf _ _ _ _) hq61 rfl rfl rfl
        have hp66 : fw [(9, (H.1 8 4).toNat), (10, (H.1 8 4).toNat), (11, (H.1 8 4).toNat), (8, 4), (361, 3), (361, 4), (361, 5)] H H59 := fw_t (fw_rf _ _) hp62 (by first | (simp; done) | (simp; omega))
        refine k_run 0 (pc' := 42) (l' := [(0, .inr (.inr 361)), (1, .inr (.inr 8)), (2, .inl a), (3, .inl b)]) (st' := [.inl z64]) rfl ?_
        refine h_retz (x := z64) rfl rfl (by omega) ?_
        exact ⟨_, rfl, (by omega), hI60, hf65, hp66, (Or.inr ⟨by omega, hp62, hx63.2, Or.inr (Or.inr ⟨by omega, (by have h9 := hx24; rw [hx16] at h9; omega), by omega, hx63.1⟩)⟩)⟩
    · refine k_run 0 (pc' := 24) (l' := [(0, .inr (.inr 361)), (1, .inr (.inr 8)), (2, .inl a), (3, .inl b)]) (st' := []) rfl ?_
      refine k_run 2 (pc' := 26) (l' := [(0, .inr (.inr 361)), (1, .inr (.inr 8)), (2, .inl a), (3, .inl b)]) (st' := [.inl 3, .inr (.inr 361)]) rfl ?_
      refine h_cv (i := 128) (j := 86) (b := 361) (M' := mt_86) (xs := [.inl 3]) (rest := []) rfl rfl rfl rfl (zs_K (x := kx_361) rfl (by decide)) rfl (Nat.le_of_ble_eq_true rfl) (Nat.le_of_ble_eq_true rfl) (by omega) (q_Reader_fails (by omega) hI (by decide) (by omega)) ?_
      rintro _ H68 ⟨z73, rfl, g67, hI69, hq70, hp71, hx72⟩
      have hf74 : fq [(8, 4), (361, 3), (361, 4), (361, 5)] [9, 10, 11] false H H68 := fq_t (fq_rf _ _ _ _) hq70 rfl rfl rfl
      have hp75 : fw [(9, (H.1 8 4).toNat), (10, (H.1 8 4).toNat), (11, (H.1 8 4).toNat), (8, 4), (361, 3), (361, 4), (361, 5)] H H68 := fw_t (fw_rf _ _) hp71 (by first | (simp; done) | (simp; omega))
      refine k_run 0 (pc' := 29) (l' := [(0, .inr (.inr 361)), (1, .inr (.inr 8)), (2, .inl a), (3, .inl b)]) (st' := [.inl z73]) rfl ?_
      refine h_retz (x := z73) rfl rfl (by omega) ?_
      exact ⟨_, rfl, (by omega), hI69, hf74, hp75, (Or.inr ⟨by omega, hp71, hx72.2, Or.inr (Or.inl ⟨by omega, (by have h9 := hx24; rw [hx16] at h9; omega), hx72.1⟩)⟩)⟩
  · refine k_run 0 (pc' := 8) (l' := [(0, .inr (.inr 361)), (1, .inr (.inr 8)), (2, .inl a), (3, .inl b)]) (st' := []) rfl ?_
    refine k_run 1 (pc' := 9) (l' := [(0, .inr (.inr 361)), (1, .inr (.inr 8)), (2, .inl a), (3, .inl b)]) (st' := [.inr (.inr 361)]) rfl ?_
    refine h_cv (i := 89) (j := 85) (b := 361) (M' := mt_85) (xs := []) (rest := []) rfl rfl rfl rfl (zs_K (x := kx_361) rfl (by decide)) rfl (Nat.le_of_ble_eq_true rfl) (Nat.le_of_ble_eq_true rfl) (by omega) (q_Reader_misplaced (by omega) hI (by omega)) ?_
    rintro _ H77 ⟨z82, rfl, g76, hI78, hq79, hp80, hx81⟩
    have hf83 : fq [(8, 4), (361, 3), (361, 4), (361, 5)] [9, 10, 11] false H H77 := fq_t (fq_rf _ _ _ _) hq79 rfl rfl rfl
    have hp84 : fw [(9, (H.1 8 4).toNat), (10, (H.1 8 4).toNat), (11, (H.1 8 4).toNat), (8, 4), (361, 3), (361, 4), (361, 5)] H H77 := fw_t (fw_rf _ _) hp80 (by first | (simp; done) | (simp; omega))
    refine k_run 0 (pc' := 12) (l' := [(0, .inr (.inr 361)), (1, .inr (.inr 8)), (2, .inl a), (3, .inl b)]) (st' := [.inl z82]) rfl ?_
    refine h_retz (x := z82) rfl rfl (by omega) ?_
    exact ⟨_, rfl, (by omega), hI78, hf83, hp84, (Or.inr ⟨by omega, hp80, hx81.2, Or.inl ⟨by omega, hx81.1⟩⟩)⟩

/-! Reader.tellName -/
set_option maxRecDepth 100000 in
theorem q_Reader_tellName_13 {d : Nat} (hd : 3 ≤ d) {H : hp} (hI : Inv H) {a : Int} {b : Int} (ha : -2147483648 ≤ a ∧ a ≤ 2147483647) (hb : -2147483648 ≤ b ∧ b ≤ 2147483647) (hp0 : -2 ≤ b ∧ b ≤ 100) (hp1 : 0 ≤ H.1 361 3 ∧ H.1 361 3 < H.1 2 5) : hG (zs zK) d mt_78 0 (zargs 0 [.inr (.inr 361), .inr (.inr 13), .inl a, .inl b]) [] H (fun r9 H9 => ∃ z : Int, r9 = some (.inl z) ∧ ((0 ≤ z ∧ z ≤ 1)) ∧ Inv H9 ∧ fq [(13, 4), (361, 3), (361, 4), (361, 5)] [14, 15, 16] false H H9 ∧ fw [(14, (H.1 13 4).toNat), (15, (H.1 13 4).toNat), (16, (H.1 13 4).toNat), (13, 4), (361, 3), (361, 4), (361, 5)] H H9 ∧ ((z = 1 ∧ H.1 4 (H.1 361 3).toNat = a ∧ fnd (H.1 14) (H.1 13 4) (H.1 6 (H.1 361 3).toNat) < 0 ∧ H.1 13 4 < 16 ∧ H9.1 14 (H.1 13 4).toNat = H.1 6 (H.1 361 3).toNat ∧ H9.1 15 (H.1 13 4).toNat = b ∧ H9.1 16 (H.1 13 4).toNat = 0 ∧ H9.1 13 4 = H.1 13 4 + 1 ∧ H9.1 361 3 = H.1 361 3 + 1) ∨ (z = 0 ∧ fw [(361, 4), (361, 5)] H H9 ∧ H9.1 361 5 = H.1 5 (H.1 361 3).toNat ∧ ((H.1 4 (H.1 361 3).toNat ≠ a ∧ H9.1 361 4 = (if H.1 4 (H.1 361 3).toNat = 1 then 1 else 2)) ∨ (H.1 4 (H.1 361 3).toNat = a ∧ 0 ≤ fnd (H.1 14) (H.1 13 4) (H.1 6 (H.1 361 3).toNat) ∧ H9.1 361 4 = 3) ∨ (H.1 4 (H.1 361 3).toNat = a ∧ fnd (H.1 14) (H.1 13 4) (H.1 6 (H.1 361 3).toNat) < 0 ∧ 16 ≤ H.1 13 4 ∧ H9.1 361 4 = 5))))) := by
  refine k_run 0 (pc' := 0) (l' := [(0, .inr (.inr 361)), (1, .inr (.inr 13)), (2, .inl a), (3, .inl b)]) (st' := []) rfl ?_
  refine k_run 1 (pc' := 1) (l' := [(0, .inr (.inr 361)), (1, .inr (.inr 13)), (2, .inl a), (3, .inl b)]) (st' := [.inr (.inr 361)]) rfl ?_
  have g1 : -2147483648 ≤ (H.1 361 3) ∧ (H.1 361 3) ≤ 2147483647 := kn (x := kx_361) hI rfl 3
  have g2 : 0 ≤ (H.1 2 5) ∧ (H.1 2 5) ≤ 1001 := kn (x := kx_2) hI rfl 5
  refine h_cv (i := 72) (j := 83) (b := 361) (M' := mt_83) (xs := []) (rest := []) rfl rfl rfl rfl (zs_K (x := kx_361) rfl (by decide)) rfl (Nat.le_of_ble_eq_true rfl) (Nat.le_of_ble_eq_true rfl) (by omega) (q_Reader_token (by omega) hI (by omega)) ?_
  rintro _ _ ⟨z9, rfl, g3, hx8, rfl⟩
  refine k_run 0 (pc' := 4) (l' := [(0, .inr (.inr 361)), (1, .inr (.inr 13)), (2, .inl a), (3, .inl b)]) (st' := [.inl z9]) rfl ?_
  refine k_run 1 (pc' := 5) (l' := [(0, .inr (.inr 361)), (1, .inr (.inr 13)), (2, .inl a), (3, .inl b)]) (st' := [.inl a, .inl z9]) rfl ?_
  refine h_ieq (off := 8) (t := 13) rfl rfl (by omega) (by omega) (fun c10 => ?_) (fun c10 => ?_)
  · refine k_run 0 (pc' := 13) (l' := [(0, .inr (.inr 361)), (1, .inr (.inr 13)), (2, .inl a), (3, .inl b)]) (st' := []) rfl ?_
    refine k_run 2 (pc' := 15) (l' := [(0, .inr (.inr 361)), (1, .inr (.inr 13)), (2, .inl a), (3, .inl b)]) (st' := [.inr (.inr 361), .inr (.inr 13)]) rfl ?_
    refine h_cv (i := 120) (j := 84) (b := 361) (M' := mt_84) (xs := []) (rest := [.inr (.inr 13)]) rfl rfl rfl rfl (zs_K (x := kx_361) rfl (by decide)) rfl (Nat.le_of_ble_eq_true rfl) (Nat.le_of_ble_eq_true rfl) (by omega) (q_Reader_name (by omega) hI (by omega)) ?_
    rintro _ _ ⟨z17, rfl, g11, hx16, rfl⟩
    refine k_run 0 (pc' := 18) (l' := [(0, .inr (.inr 361)), (1, .inr (.inr 13)), (2, .inl a), (3, .inl b)]) (st' := [.inr (.inl z17), .inr (.inr 13)]) rfl ?_
    have g18 : 0 ≤ (H.1 13 4) ∧ (H.1 13 4) ≤ 16 := kn (x := kx_13) hI rfl 4
    refine h_cv (i := 124) (j := 41) (b := 13) (M' := mt_41) (xs := [.inr (.inl z17)]) (rest := []) rfl rfl rfl rfl (zs_K (x := kx_13) rfl (by decide)) rfl (Nat.le_of_ble_eq_true rfl) (Nat.le_of_ble_eq_true rfl) (by omega) (q_Symbols_find_13 (by omega) hI (by omega)) ?_
    rintro _ _ ⟨z25, rfl, g19, hx24, rfl⟩
    refine k_run 0 (pc' := 21) (l' := [(0, .inr (.inr 361)), (1, .inr (.inr 13)), (2, .inl a), (3, .inl b)]) (st' := [.inl z25]) rfl ?_
    refine h_zlt (off := 9) (t := 30) rfl rfl (by omega) (fun c26 => ?_) (fun c26 => ?_)
    · refine k_run 0 (pc' := 30) (l' := [(0, .inr (.inr 361)), (1, .inr (.inr 13)), (2, .inl a), (3, .inl b)]) (st' := []) rfl ?_
      refine k_run 1 (pc' := 31) (l' := [(0, .inr (.inr 361)), (1, .inr (.inr 13)), (2, .inl a), (3, .inl b)]) (st' := [.inr (.inr 13)]) rfl ?_
      refine h_cv (i := 225) (j := 42) (b := 13) (M' := mt_42) (xs := []) (rest := []) rfl rfl rfl rfl (zs_K (x := kx_13) rfl (by decide)) rfl (Nat.le_of_ble_eq_true rfl) (Nat.le_of_ble_eq_true rfl) (by omega) (q_Symbols_isFull_13 (by omega) hI ) ?_
      rintro _ _ ⟨z33, rfl, g27, hx32, rfl⟩
      refine k_run 0 (pc' := 34) (l' := [(0, .inr (.inr 361)), (1, .inr (.inr 13)), (2, .inl a), (3, .inl b)]) (st' := [.inl z33]) rfl ?_
      refine h_zeq (off := 9) (t := 43) rfl rfl (by omega) (fun c34 => ?_) (fun c34 => ?_)
      · refine k_run 0 (pc' := 43) (l' := [(0, .inr (.inr 361)), (1, .inr (.inr 13)), (2, .inl a), (3, .inl b)]) (st' := []) rfl ?_
        refine k_run 2 (pc' := 45) (l' := [(0, .inr (.inr 361)), (1, .inr (.inr 13)), (2, .inl a), (3, .inl b)]) (st' := [.inr (.inr 361), .inr (.inr 13)]) rfl ?_
        refine h_cv (i := 120) (j := 84) (b := 361) (M' := mt_84) (xs := []) (rest := [.inr (.inr 13)]) rfl rfl rfl rfl (zs_K (x := kx_361) rfl (by decide)) rfl (Nat.le_of_ble_eq_true rfl) (Nat.le_of_ble_eq_true rfl) (by omega) (q_Reader_name (by omega) hI (by omega)) ?_
        rintro _ _ ⟨z41, rfl, g35, hx40, rfl⟩
        refine k_run 0 (pc' := 48) (l' := [(0, .inr (.inr 361)), (1, .inr (.inr 13)), (2, .inl a), (3, .inl b)]) (st' := [.inr (.inl z41), .inr (.inr 13)]) rfl ?_
        refine k_run 1 (pc' := 49) (l' := [(0, .inr (.inr 361)), (1, .inr (.inr 13)), (2, .inl a), (3, .inl b)]) (st' := [.inl b, .inr (.inl z41), .inr (.inr 13)]) rfl ?_
        refine h_cv (i := 228) (j := 43) (b := 13) (M' := mt_43) (xs := [.inl b, .inr (.inl z41)]) (rest := []) rfl rfl rfl rfl (zs_K (x := kx_13) rfl (by decide)) rfl (Nat.le_of_ble_eq_true rfl) (Nat.le_of_ble_eq_true rfl) (by omega) (q_Symbols_add_13 (by omega) hI (by omega) (by omega) (by omega) (by omega)) ?_
        rintro _ H43 ⟨rfl, hI44, hq45, hp46, hx47⟩
        have hf48 : fq [(13, 4), (361, 3), (361, 4), (361, 5)] [14, 15, 16] false H H43 := fq_t (fq_rf _ _ _ _) hq45 rfl rfl rfl
        have hp49 : fw [(14, (H.1 13 4).toNat), (15, (H.1 13 4).toNat), (16, (H.1 13 4).toNat), (13, 4), (361, 3), (361, 4), (361, 5)] H H43 := fw_t (fw_rf _ _) hp46 (by first | (simp; done) | (simp; omega))
        refine k_run 0 (pc' := 52) (l' := [(0, .inr (.inr 361)), (1, .inr (.inr 13)), (2, .inl a), (3, .inl b)]) (st' := []) rfl ?_
        refine k_run 3 (pc' := 57) (l' := [(0, .inr (.inr 361)), (1, .inr (.inr 13)), (2, .inl a), (3, .inl b)]) (st' := [.inl (H43.1 361 3), .inr (.inr 361)]) rfl ?_
        have g50 : -2147483648 ≤ (H43.1 361 3) ∧ (H43.1 361 3) ≤ 2147483647 := kn (x := kx_361) hI44 rfl 3
        have e51 : (H43.1 361 3) = (H.1 361 3) := (hq45.1 361 3 rfl (by decide) (by decide)).1
        refine k_run 2 (pc' := 59) (l' := [(0, .inr (.inr 361)), (1, .inr (.inr 13)), (2, .inl a), (3, .inl b)]) (st' := [.inl ((H43.1 361 3) + 1), .inr (.inr 361)]) rfl ?_
        refine k_puti (z := ((H43.1 361 3) + 1)) (a := 361) (x := kx_361) rfl rfl rfl (by decide) (by decide) rfl rfl rfl rfl hI44 (by omega) (show -2147483648 ≤ ((H43.1 361 3) + 1) ∧ ((H43.1 361 3) + 1) ≤ 2147483647 by omega) (fun H52 hI53 hw54 hv55 => ?_)
        have hf56 : fq [(13, 4), (361, 3), (361, 4), (361, 5)] [14, 15, 16] false H H52 := fq_w hf48 hw54 (fpo (by decide) rfl)
        have hp57 : fw [(14, (H.1 13 4).toNat), (15, (H.1 13 4).toNat), (16, (H.1 13 4).toNat), (13, 4), (361, 3), (361, 4), (361, 5)] H H52 := fw_w hp49 hw54 (by first | (simp; done) | (simp; omega))
        refine k_run 0 (pc' := 62) (l' := [(0, .inr (.inr 361)), (1, .inr (.inr 13)), (2, .inl a), (3, .inl b)]) (st' := []) rfl ?_
        refine k_run 1 (pc' := 63) (l' := [(0, .inr (.inr 361)), (1, .inr (.inr 13)), (2, .inl a), (3, .inl b)]) (st' := [.inl 1]) rfl ?_
        refine h_retz (x := 1) rfl rfl (by decide) ?_
        exact ⟨_, rfl, (by omega), hI53, hf56, hp57, (Or.inl ⟨rfl, by omega, (by have h9 := hx24; rw [hx16] at h9; omega), by omega, ((hw54.2 _ _ (fun q => absurd q.1 (by decide))).trans hx47.1) |>.trans hx40, ((hw54.2 _ _ (fun q => absurd q.1 (by decide))).trans hx47.2.1), ((hw54.2 _ _ (fun q => absurd q.1 (by decide))).trans hx47.2.2.1), ((hw54.2 _ _ (fun q => absurd q.1 (by decide))).trans hx47.2.2.2), (by have h9 := hv55; have h8 := hp46.2 361 3 (by simp); omega)⟩)⟩
      · refine k_run 0 (pc' := 37) (l' := [(0, .inr (.inr 361)), (1, .inr (.inr 13)), (2, .inl a), (3, .inl b)]) (st' := []) rfl ?_
        refine k_run 2 (pc' := 39) (l' := [(0, .inr (.inr 361)), (1, .inr (.inr 13)), (2, .inl a), (3, .inl b)]) (st' := [.inl 5, .inr (.inr 361)]) rfl ?_
        refine h_cv (i := 128) (j := 86) (b := 361) (M' := mt_86) (xs := [.inl 5]) (rest := []) rfl rfl rfl rfl (zs_K (x := kx_361) rfl (by decide)) rfl (Nat.le_of_ble_eq_true rfl) (Nat.le_of_ble_eq_true rfl) (by omega) (q_Reader_fails (by omega) hI (by decide) (by omega)) ?_
        rintro _ H59 ⟨z64, rfl, g58, hI60, hq61, hp62, hx63⟩
        have hf65 : fq [(13, 4), (361, 3), (361, 4), (361, 5)] [14, 15, 16] false H H59 := fq_t (fq_rf _ _ _ _) hq61 rfl rfl rfl
        have hp66 : fw [(14, (H.1 13 4).toNat), (15, (H.1 13 4).toNat), (16, (H.1 13 4).toNat), (13, 4), (361, 3), (361, 4), (361, 5)] H H59 := fw_t (fw_rf _ _) hp62 (by first | (simp; done) | (simp; omega))
        refine k_run 0 (pc' := 42) (l' := [(0, .inr (.inr 361)), (1, .inr (.inr 13)), (2, .inl a), (3, .inl b)]) (st' := [.inl z64]) rfl ?_
        refine h_retz (x := z64) rfl rfl (by omega) ?_
        exact ⟨_, rfl, (by omega), hI60, hf65, hp66, (Or.inr ⟨by omega, hp62, hx63.2, Or.inr (Or.inr ⟨by omega, (by have h9 := hx24; rw [hx16] at h9; omega), by omega, hx63.1⟩)⟩)⟩
    · refine k_run 0 (pc' := 24) (l' := [(0, .inr (.inr 361)), (1, .inr (.inr 13)), (2, .inl a), (3, .inl b)]) (st' := []) rfl ?_
      refine k_run 2 (pc' := 26) (l' := [(0, .inr (.inr 361)), (1, .inr (.inr 13)), (2, .inl a), (3, .inl b)]) (st' := [.inl 3, .inr (.inr 361)]) rfl ?_
      refine h_cv (i := 128) (j := 86) (b := 361) (M' := mt_86) (xs := [.inl 3]) (rest := []) rfl rfl rfl rfl (zs_K (x := kx_361) rfl (by decide)) rfl (Nat.le_of_ble_eq_true rfl) (Nat.le_of_ble_eq_true rfl) (by omega) (q_Reader_fails (by omega) hI (by decide) (by omega)) ?_
      rintro _ H68 ⟨z73, rfl, g67, hI69, hq70, hp71, hx72⟩
      have hf74 : fq [(13, 4), (361, 3), (361, 4), (361, 5)] [14, 15, 16] false H H68 := fq_t (fq_rf _ _ _ _) hq70 rfl rfl rfl
      have hp75 : fw [(14, (H.1 13 4).toNat), (15, (H.1 13 4).toNat), (16, (H.1 13 4).toNat), (13, 4), (361, 3), (361, 4), (361, 5)] H H68 := fw_t (fw_rf _ _) hp71 (by first | (simp; done) | (simp; omega))
      refine k_run 0 (pc' := 29) (l' := [(0, .inr (.inr 361)), (1, .inr (.inr 13)), (2, .inl a), (3, .inl b)]) (st' := [.inl z73]) rfl ?_
      refine h_retz (x := z73) rfl rfl (by omega) ?_
      exact ⟨_, rfl, (by omega), hI69, hf74, hp75, (Or.inr ⟨by omega, hp71, hx72.2, Or.inr (Or.inl ⟨by omega, (by have h9 := hx24; rw [hx16] at h9; omega), hx72.1⟩)⟩)⟩
  · refine k_run 0 (pc' := 8) (l' := [(0, .inr (.inr 361)), (1, .inr (.inr 13)), (2, .inl a), (3, .inl b)]) (st' := []) rfl ?_
    refine k_run 1 (pc' := 9) (l' := [(0, .inr (.inr 361)), (1, .inr (.inr 13)), (2, .inl a), (3, .inl b)]) (st' := [.inr (.inr 361)]) rfl ?_
    refine h_cv (i := 89) (j := 85) (b := 361) (M' := mt_85) (xs := []) (rest := []) rfl rfl rfl rfl (zs_K (x := kx_361) rfl (by decide)) rfl (Nat.le_of_ble_eq_true rfl) (Nat.le_of_ble_eq_true rfl) (by omega) (q_Reader_misplaced (by omega) hI (by omega)) ?_
    rintro _ H77 ⟨z82, rfl, g76, hI78, hq79, hp80, hx81⟩
    have hf83 : fq [(13, 4), (361, 3), (361, 4), (361, 5)] [14, 15, 16] false H H77 := fq_t (fq_rf _ _ _ _) hq79 rfl rfl rfl
    have hp84 : fw [(14, (H.1 13 4).toNat), (15, (H.1 13 4).toNat), (16, (H.1 13 4).toNat), (13, 4), (361, 3), (361, 4), (361, 5)] H H77 := fw_t (fw_rf _ _) hp80 (by first | (simp; done) | (simp; omega))
    refine k_run 0 (pc' := 12) (l' := [(0, .inr (.inr 361)), (1, .inr (.inr 13)), (2, .inl a), (3, .inl b)]) (st' := [.inl z82]) rfl ?_
    refine h_retz (x := z82) rfl rfl (by omega) ?_
    exact ⟨_, rfl, (by omega), hI78, hf83, hp84, (Or.inr ⟨by omega, hp80, hx81.2, Or.inl ⟨by omega, hx81.1⟩⟩)⟩

/-! Reader.tellName -/
set_option maxRecDepth 100000 in
theorem q_Reader_tellName_18 {d : Nat} (hd : 3 ≤ d) {H : hp} (hI : Inv H) {a : Int} {b : Int} (ha : -2147483648 ≤ a ∧ a ≤ 2147483647) (hb : -2147483648 ≤ b ∧ b ≤ 2147483647) (hp0 : -2 ≤ b ∧ b ≤ 100) (hp1 : 0 ≤ H.1 361 3 ∧ H.1 361 3 < H.1 2 5) : hG (zs zK) d mt_78 0 (zargs 0 [.inr (.inr 361), .inr (.inr 18), .inl a, .inl b]) [] H (fun r9 H9 => ∃ z : Int, r9 = some (.inl z) ∧ ((0 ≤ z ∧ z ≤ 1)) ∧ Inv H9 ∧ fq [(18, 4), (361, 3), (361, 4), (361, 5)] [19, 20, 21] false H H9 ∧ fw [(19, (H.1 18 4).toNat), (20, (H.1 18 4).toNat), (21, (H.1 18 4).toNat), (18, 4), (361, 3), (361, 4), (361, 5)] H H9 ∧ ((z = 1 ∧ H.1 4 (H.1 361 3).toNat = a ∧ fnd (H.1 19) (H.1 18 4) (H.1 6 (H.1 361 3).toNat) < 0 ∧ H.1 18 4 < 16 ∧ H9.1 19 (H.1 18 4).toNat = H.1 6 (H.1 361 3).toNat ∧ H9.1 20 (H.1 18 4).toNat = b ∧ H9.1 21 (H.1 18 4).toNat = 0 ∧ H9.1 18 4 = H.1 18 4 + 1 ∧ H9.1 361 3 = H.1 361 3 + 1) ∨ (z = 0 ∧ fw [(361, 4), (361, 5)] H H9 ∧ H9.1 361 5 = H.1 5 (H.1 361 3).toNat ∧ ((H.1 4 (H.1 361 3).toNat ≠ a ∧ H9.1 361 4 = (if H.1 4 (H.1 361 3).toNat = 1 then 1 else 2)) ∨ (H.1 4 (H.1 361 3).toNat = a ∧ 0 ≤ fnd (H.1 19) (H.1 18 4) (H.1 6 (H.1 361 3).toNat) ∧ H9.1 361 4 = 3) ∨ (H.1 4 (H.1 361 3).toNat = a ∧ fnd (H.1 19) (H.1 18 4) (H.1 6 (H.1 361 3).toNat) < 0 ∧ 16 ≤ H.1 18 4 ∧ H9.1 361 4 = 5))))) := by
  refine k_run 0 (pc' := 0) (l' := [(0, .inr (.inr 361)), (1, .inr (.inr 18)), (2, .inl a), (3, .inl b)]) (st' := []) rfl ?_
  refine k_run 1 (pc' := 1) (l' := [(0, .inr (.inr 361)), (1, .inr (.inr 18)), (2, .inl a), (3, .inl b)]) (st' := [.inr (.inr 361)]) rfl ?_
  have g1 : -2147483648 ≤ (H.1 361 3) ∧ (H.1 361 3) ≤ 2147483647 := kn (x := kx_361) hI rfl 3
  have g2 : 0 ≤ (H.1 2 5) ∧ (H.1 2 5) ≤ 1001 := kn (x := kx_2) hI rfl 5
  refine h_cv (i := 72) (j := 83) (b := 361) (M' := mt_83) (xs := []) (rest := []) rfl rfl rfl rfl (zs_K (x := kx_361) rfl (by decide)) rfl (Nat.le_of_ble_eq_true rfl) (Nat.le_of_ble_eq_true rfl) (by omega) (q_Reader_token (by omega) hI (by omega)) ?_
  rintro _ _ ⟨z9, rfl, g3, hx8, rfl⟩
  refine k_run 0 (pc' := 4) (l' := [(0, .inr (.inr 361)), (1, .inr (.inr 18)), (2, .inl a), (3, .inl b)]) (st' := [.inl z9]) rfl ?_
  refine k_run 1 (pc' := 5) (l' := [(0, .inr (.inr 361)), (1, .inr (.inr 18)), (2, .inl a), (3, .inl b)]) (st' := [.inl a, .inl z9]) rfl ?_
  refine h_ieq (off := 8) (t := 13) rfl rfl (by omega) (by omega) (fun c10 => ?_) (fun c10 => ?_)
  · refine k_run 0 (pc' := 13) (l' := [(0, .inr (.inr 361)), (1, .inr (.inr 18)), (2, .inl a), (3, .inl b)]) (st' := []) rfl ?_
    refine k_run 2 (pc' := 15) (l' := [(0, .inr (.inr 361)), (1, .inr (.inr 18)), (2, .inl a), (3, .inl b)]) (st' := [.inr (.inr 361), .inr (.inr 18)]) rfl ?_
    refine h_cv (i := 120) (j := 84) (b := 361) (M' := mt_84) (xs := []) (rest := [.inr (.inr 18)]) rfl rfl rfl rfl (zs_K (x := kx_361) rfl (by decide)) rfl (Nat.le_of_ble_eq_true rfl) (Nat.le_of_ble_eq_true rfl) (by omega) (q_Reader_name (by omega) hI (by omega)) ?_
    rintro _ _ ⟨z17, rfl, g11, hx16, rfl⟩
    refine k_run 0 (pc' := 18) (l' := [(0, .inr (.inr 361)), (1, .inr (.inr 18)), (2, .inl a), (3, .inl b)]) (st' := [.inr (.inl z17), .inr (.inr 18)]) rfl ?_
    have g18 : 0 ≤ (H.1 18 4) ∧ (H.1 18 4) ≤ 16 := kn (x := kx_18) hI rfl 4
    refine h_cv (i := 124) (j := 41) (b := 18) (M' := mt_41) (xs := [.inr (.inl z17)]) (rest := []) rfl rfl rfl rfl (zs_K (x := kx_18) rfl (by decide)) rfl (Nat.le_of_ble_eq_true rfl) (Nat.le_of_ble_eq_true rfl) (by omega) (q_Symbols_find_18 (by omega) hI (by omega)) ?_
    rintro _ _ ⟨z25, rfl, g19, hx24, rfl⟩
    refine k_run 0 (pc' := 21) (l' := [(0, .inr (.inr 361)), (1, .inr (.inr 18)), (2, .inl a), (3, .inl b)]) (st' := [.inl z25]) rfl ?_
    refine h_zlt (off := 9) (t := 30) rfl rfl (by omega) (fun c26 => ?_) (fun c26 => ?_)
    · refine k_run 0 (pc' := 30) (l' := [(0, .inr (.inr 361)), (1, .inr (.inr 18)), (2, .inl a), (3, .inl b)]) (st' := []) rfl ?_
      refine k_run 1 (pc' := 31) (l' := [(0, .inr (.inr 361)), (1, .inr (.inr 18)), (2, .inl a), (3, .inl b)]) (st' := [.inr (.inr 18)]) rfl ?_
      refine h_cv (i := 225) (j := 42) (b := 18) (M' := mt_42) (xs := []) (rest := []) rfl rfl rfl rfl (zs_K (x := kx_18) rfl (by decide)) rfl (Nat.le_of_ble_eq_true rfl) (Nat.le_of_ble_eq_true rfl) (by omega) (q_Symbols_isFull_18 (by omega) hI ) ?_
      rintro _ _ ⟨z33, rfl, g27, hx32, rfl⟩
      refine k_run 0 (pc' := 34) (l' := [(0, .inr (.inr 361)), (1, .inr (.inr 18)), (2, .inl a), (3, .inl b)]) (st' := [.inl z33]) rfl ?_
      refine h_zeq (off := 9) (t := 43) rfl rfl (by omega) (fun c34 => ?_) (fun c34 => ?_)
      · refine k_run 0 (pc' := 43) (l' := [(0, .inr (.inr 361)), (1, .inr (.inr 18)), (2, .inl a), (3, .inl b)]) (st' := []) rfl ?_
        refine k_run 2 (pc' := 45) (l' := [(0, .inr (.inr 361)), (1, .inr (.inr 18)), (2, .inl a), (3, .inl b)]) (st' := [.inr (.inr 361), .inr (.inr 18)]) rfl ?_
        refine h_cv (i := 120) (j := 84) (b := 361) (M' := mt_84) (xs := []) (rest := [.inr (.inr 18)]) rfl rfl rfl rfl (zs_K (x := kx_361) rfl (by decide)) rfl (Nat.le_of_ble_eq_true rfl) (Nat.le_of_ble_eq_true rfl) (by omega) (q_Reader_name (by omega) hI (by omega)) ?_
        rintro _ _ ⟨z41, rfl, g35, hx40, rfl⟩
        refine k_run 0 (pc' := 48) (l' := [(0, .inr (.inr 361)), (1, .inr (.inr 18)), (2, .inl a), (3, .inl b)]) (st' := [.inr (.inl z41), .inr (.inr 18)]) rfl ?_
        refine k_run 1 (pc' := 49) (l' := [(0, .inr (.inr 361)), (1, .inr (.inr 18)), (2, .inl a), (3, .inl b)]) (st' := [.inl b, .inr (.inl z41), .inr (.inr 18)]) rfl ?_
        refine h_cv (i := 228) (j := 43) (b := 18) (M' := mt_43) (xs := [.inl b, .inr (.inl z41)]) (rest := []) rfl rfl rfl rfl (zs_K (x := kx_18) rfl (by decide)) rfl (Nat.le_of_ble_eq_true rfl) (Nat.le_of_ble_eq_true rfl) (by omega) (q_Symbols_add_18 (by omega) hI (by omega) (by omega) (by omega) (by omega)) ?_
        rintro _ H43 ⟨rfl, hI44, hq45, hp46, hx47⟩
        have hf48 : fq [(18, 4), (361, 3), (361, 4), (361, 5)] [19, 20, 21] false H H43 := fq_t (fq_rf _ _ _ _) hq45 rfl rfl rfl
        have hp49 : fw [(19, (H.1 18 4).toNat), (20, (H.1 18 4).toNat), (21, (H.1 18 4).toNat), (18, 4), (361, 3), (361, 4), (361, 5)] H H43 := fw_t (fw_rf _ _) hp46 (by first | (simp; done) | (simp; omega))
        refine k_run 0 (pc' := 52) (l' := [(0, .inr (.inr 361)), (1, .inr (.inr 18)), (2, .inl a), (3, .inl b)]) (st' := []) rfl ?_
        refine k_run 3 (pc' := 57) (l' := [(0, .inr (.inr 361)), (1, .inr (.inr 18)), (2, .inl a), (3, .inl b)]) (st' := [.inl (H43.1 361 3), .inr (.inr 361)]) rfl ?_
        have g50 : -2147483648 ≤ (H43.1 361 3) ∧ (H43.1 361 3) ≤ 2147483647 := kn (x := kx_361) hI44 rfl 3
        have e51 : (H43.1 361 3) = (H.1 361 3) := (hq45.1 361 3 rfl (by decide) (by decide)).1
        refine k_run 2 (pc' := 59) (l' := [(0, .inr (.inr 361)), (1, .inr (.inr 18)), (2, .inl a), (3, .inl b)]) (st' := [.inl ((H43.1 361 3) + 1), .inr (.inr 361)]) rfl ?_
        refine k_puti (z := ((H43.1 361 3) + 1)) (a := 361) (x := kx_361) rfl rfl rfl (by decide) (by decide) rfl rfl rfl rfl hI44 (by omega) (show -2147483648 ≤ ((H43.1 361 3) + 1) ∧ ((H43.1 361 3) + 1) ≤ 2147483647 by omega) (fun H52 hI53 hw54 hv55 => ?_)
        have hf56 : fq [(18, 4), (361, 3), (361, 4), (361, 5)] [19, 20, 21] false H H52 := fq_w hf48 hw54 (fpo (by decide) rfl)
        have hp57 : fw [(19, (H.1 18 4).toNat), (20, (H.1 18 4).toNat), (21, (H.1 18 4).toNat), (18, 4), (361, 3), (361, 4), (361, 5)] H H52 := fw_w hp49 hw54 (by first | (simp; done) | (simp; omega))
        refine k_run 0 (pc' := 62) (l' := [(0, .inr (.inr 361)), (1, .inr (.inr 18)), (2, .inl a), (3, .inl b)]) (st' := []) rfl ?_
        refine k_run 1 (pc' := 63) (l' := [(0, .inr (.inr 361)), (1, .inr (.inr 18)), (2, .inl a), (3, .inl b)]) (st' := [.inl 1]) rfl ?_
        refine h_retz (x := 1) rfl rfl (by decide) ?_
        exact ⟨_, rfl, (by omega), hI53, hf56, hp57, (Or.inl ⟨rfl, by omega, (by have h9 := hx24; rw [hx16] at h9; omega), by omega, ((hw54.2 _ _ (fun q => absurd q.1 (by decide))).trans hx47.1) |>.trans hx40, ((hw54.2 _ _ (fun q => absurd q.1 (by decide))).trans hx47.2.1), ((hw54.2 _ _ (fun q => absurd q.1 (by decide))).trans hx47.2.2.1), ((hw54.2 _ _ (fun q => absurd q.1 (by decide))).trans hx47.2.2.2), (by have h9 := hv55; have h8 := hp46.2 361 3 (by simp); omega)⟩)⟩
      · refine k_run 0 (pc' := 37) (l' := [(0, .inr (.inr 361)), (1, .inr (.inr 18)), (2, .inl a), (3, .inl b)]) (st' := []) rfl ?_
        refine k_run 2 (pc' := 39) (l' := [(0, .inr (.inr 361)), (1, .inr (.inr 18)), (2, .inl a), (3, .inl b)]) (st' := [.inl 5, .inr (.inr 361)]) rfl ?_
        refine h_cv (i := 128) (j := 86) (b := 361) (M' := mt_86) (xs := [.inl 5]) (rest := []) rfl rfl rfl rfl (zs_K (x := kx_361) rfl (by decide)) rfl (Nat.le_of_ble_eq_true rfl) (Nat.le_of_ble_eq_true rfl) (by omega) (q_Reader_fails (by omega) hI (by decide) (by omega)) ?_
        rintro _ H59 ⟨z64, rfl, g58, hI60, hq61, hp62, hx63⟩
        have hf65 : fq [(18, 4), (361, 3), (361, 4), (361, 5)] [19, 20, 21] false H H59 := fq_t (fq_rf _ _ _ _) hq61 rfl rfl rfl
        have hp66 : fw [(19, (H.1 18 4).toNat), (20, (H.1 18 4).toNat), (21, (H.1 18 4).toNat), (18, 4), (361, 3), (361, 4), (361, 5)] H H59 := fw_t (fw_rf _ _) hp62 (by first | (simp; done) | (simp; omega))
        refine k_run 0 (pc' := 42) (l' := [(0, .inr (.inr 361)), (1, .inr (.inr 18)), (2, .inl a), (3, .inl b)]) (st' := [.inl z64]) rfl ?_
        refine h_retz (x := z64) rfl rfl (by omega) ?_
        exact ⟨_, rfl, (by omega), hI60, hf65, hp66, (Or.inr ⟨by omega, hp62, hx63.2, Or.inr (Or.inr ⟨by omega, (by have h9 := hx24; rw [hx16] at h9; omega), by omega, hx63.1⟩)⟩)⟩
    · refine k_run 0 (pc' := 24) (l' := [(0, .inr (.inr 361)), (1, .inr (.inr 18)), (2, .inl a), (3, .inl b)]) (st' := []) rfl ?_
      refine k_run 2 (pc' := 26) (l' := [(0, .inr (.inr 361)), (1, .inr (.inr 18)), (2, .inl a), (3, .inl b)]) (st' := [.inl 3, .inr (.inr 361)]) rfl ?_
      refine h_cv (i := 128) (j := 86) (b := 361) (M' := mt_86) (xs := [.inl 3]) (rest := []) rfl rfl rfl rfl (zs_K (x := kx_361) rfl (by decide)) rfl (Nat.le_of_ble_eq_true rfl) (Nat.le_of_ble_eq_true rfl) (by omega) (q_Reader_fails (by omega) hI (by decide) (by omega)) ?_
      rintro _ H68 ⟨z73, rfl, g67, hI69, hq70, hp71, hx72⟩
      have hf74 : fq [(18, 4), (361, 3), (361, 4), (361, 5)] [19, 20, 21] false H H68 := fq_t (fq_rf _ _ _ _) hq70 rfl rfl rfl
      have hp75 : fw [(19, (H.1 18 4).toNat), (20, (H.1 18 4).toNat), (21, (H.1 18 4).toNat), (18, 4), (361, 3), (361, 4), (361, 5)] H H68 := fw_t (fw_rf _ _) hp71 (by first | (simp; done) | (simp; omega))
      refine k_run 0 (pc' := 29) (l' := [(0, .inr (.inr 361)), (1, .inr (.inr 18)), (2, .inl a), (3, .inl b)]) (st' := [.inl z73]) rfl ?_
      refine h_retz (x := z73) rfl rfl (by omega) ?_
      exact ⟨_, rfl, (by omega), hI69, hf74, hp75, (Or.inr ⟨by omega, hp71, hx72.2, Or.inr (Or.inl ⟨by omega, (by have h9 := hx24; rw [hx16] at h9; omega), hx72.1⟩)⟩)⟩
  · refine k_run 0 (pc' := 8) (l' := [(0, .inr (.inr 361)), (1, .inr (.inr 18)), (2, .inl a), (3, .inl b)]) (st' := []) rfl ?_
    refine k_run 1 (pc' := 9) (l' := [(0, .inr (.inr 361)), (1, .inr (.inr 18)), (2, .inl a), (3, .inl b)]) (st' := [.inr (.inr 361)]) rfl ?_
    refine h_cv (i := 89) (j := 85) (b := 361) (M' := mt_85) (xs := []) (rest := []) rfl rfl rfl rfl (zs_K (x := kx_361) rfl (by decide)) rfl (Nat.le_of_ble_eq_true rfl) (Nat.le_of_ble_eq_true rfl) (by omega) (q_Reader_misplaced (by omega) hI (by omega)) ?_
    rintro _ H77 ⟨z82, rfl, g76, hI78, hq79, hp80, hx81⟩
    have hf83 : fq [(18, 4), (361, 3), (361, 4), (361, 5)] [19, 20, 21] false H H77 := fq_t (fq_rf _ _ _ _) hq79 rfl rfl rfl
    have hp84 : fw [(19, (H.1 18 4).toNat), (20, (H.1 18 4).toNat), (21, (H.1 18 4).toNat), (18, 4), (361, 3), (361, 4), (361, 5)] H H77 := fw_t (fw_rf _ _) hp80 (by first | (simp; done) | (simp; omega))
    refine k_run 0 (pc' := 12) (l' := [(0, .inr (.inr 361)), (1, .inr (.inr 18)), (2, .inl a), (3, .inl b)]) (st' := [.inl z82]) rfl ?_
    refine h_retz (x := z82) rfl rfl (by omega) ?_
    exact ⟨_, rfl, (by omega), hI78, hf83, hp84, (Or.inr ⟨by omega, hp80, hx81.2, Or.inl ⟨by omega, hx81.1⟩⟩)⟩
