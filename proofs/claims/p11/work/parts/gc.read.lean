/-! the class's reader: types, constructors, functions, as the machine reads them -/
theorem tfd_b (Y : yx) (X : rx) : -1 ≤ tfd Y X ∧ (tfd Y X < 0 ∨ (0 ≤ tfd Y X ∧ tfd Y X < X 0 3)) := by
  have h := fnd_b (X 1) (X 0 3) (tn Y (xi X))
  exact ⟨h.1, h.2.imp id (fun q => ⟨q.1, q.2.1⟩)⟩
theorem AB_res {X : rx} {f9 ty : Int} (h : AB X) : AB (adv (xu X 7 f9.toNat ty)) := by
  have er : ∀ c, c ≠ 0 → c ≠ 7 → adv (xu X 7 f9.toNat ty) c = X c := fun c a b => (xu_ne _ _ _ a).trans (xu_ne _ _ _ b)
  have e0 : ∀ j, j ≠ 0 → adv (xu X 7 f9.toNat ty) 0 j = X 0 j := fun j a => (xu_0 _ _ (fun q => a q.2)).trans (xu_0 _ _ (fun q => by cases q.1))
  unfold AB at h ⊢
  rw [e0 4 (by decide), e0 5 (by decide), er 4 (by decide) (by decide), er 8 (by decide) (by decide)]
  exact h
theorem AB_adv {X : rx} (h : AB X) : AB (adv X) := by
  have er : ∀ c, c ≠ 0 → adv X c = X c := fun c a => xu_ne _ _ _ a
  have e0 : ∀ j, j ≠ 0 → adv X 0 j = X 0 j := fun j a => xu_0 _ _ (fun q => a q.2)
  unfold AB at h ⊢
  rw [e0 4 (by decide), e0 5 (by decide), er 4 (by decide), er 8 (by decide)]
  exact h
theorem AB_con {X : rx} {x ty : Int} (h : AB X) : AB (xcon X x ty) := by
  obtain ⟨x1, x2, x3, x4, x5⟩ := xcon_s X x ty
  obtain ⟨h1, h2⟩ := h
  refine ⟨fun k hk => ?_, fun k hk => ?_⟩
  · rw [x5]
    by_cases e : k = (X 0 4).toNat
    · rw [e, up_eq]
      decide
    · rw [up_ne _ _ e]
      exact h1 k (by omega)
  · rw [xcon_0 X x ty (by decide) (by decide)] at hk
    rw [xcon_r X x ty (by decide) (by decide) (by decide) (by decide)]
    exact h2 k hk
theorem AB_typ {X : rx} {x : Int} (h : AB X) : AB (xtyp X x) := by
  unfold AB at h ⊢
  rw [xtyp_0 X x (by decide) (by decide), xtyp_0 X x (by decide) (by decide), xtyp_r X x (by decide) (by decide), xtyp_r X x (by decide) (by decide)]
  exact h
theorem AB_fun {X : rx} {x : Int} (h : AB X) : AB (xfun X x) := by
  obtain ⟨x1, x2, x3, x4, x5⟩ := xfun_s X x
  obtain ⟨h1, h2⟩ := h
  refine ⟨fun k hk => ?_, fun k hk => ?_⟩
  · rw [xfun_0 X x (by decide) (by decide)] at hk
    rw [xfun_r X x (by decide) (by decide) (by decide) (by decide)]
    exact h1 k hk
  · rw [x5]
    by_cases e : k = (X 0 5).toNat
    · rw [e, up_eq]
      decide
    · rw [up_ne _ _ e]
      exact h2 k (by omega)
theorem AB_car {X : rx} {c9 ty : Int} (h : AB X) (h3 : X 4 c9.toNat ≤ 2) : AB (xcar X c9 ty) := by
  obtain ⟨x1, x2, x3⟩ := xcar_s X c9 ty
  obtain ⟨h1, h2⟩ := h
  refine ⟨fun k hk => ?_, fun k hk => ?_⟩
  · rw [xcar_0 X c9 ty (by decide)] at hk
    rw [x3]
    by_cases e : k = c9.toNat
    · rw [e, up_eq]
      omega
    · rw [up_ne _ _ e]
      exact h1 k hk
  · rw [xcar_0 X c9 ty (by decide)] at hk
    rw [xcar_r X c9 ty (by decide) (by decide) (by decide)]
    exact h2 k hk
theorem AB_far {X : rx} {f9 : Int} (h : AB X) (h3 : X 8 f9.toNat ≤ 3) : AB (xfar X f9) := by
  obtain ⟨x1, x2, x3⟩ := xfar_s X f9
  obtain ⟨h1, h2⟩ := h
  refine ⟨fun k hk => ?_, fun k hk => ?_⟩
  · rw [xfar_0 X f9 (by decide)] at hk
    rw [xfar_r X f9 (by decide) (by decide) (by decide)]
    exact h1 k hk
  · rw [xfar_0 X f9 (by decide)] at hk
    rw [x3]
    by_cases e : k = f9.toNat
    · rw [e, up_eq]
      omega
    · rw [up_ne _ _ e]
      exact h2 k hk

/-! Reader.readResult -/
set_option maxRecDepth 100000 in
theorem q_Reader_readResult {Y : yx} {q : Nat} {c0 : cf} {K : List tq} {X : rx} {d : Nat} (hd : 3 ≤ d) {H : hp} (hI : Inv H) {a : Int} (ha : -2147483648 ≤ a ∧ a ≤ 2147483647) (hp0 : 0 ≤ a ∧ a < 16) (hB : RB Y q H X) (hX : rch Y c0 ((10, a, 0, 0) :: K, X)) (hA : AB X) : hG (zs zK) d mt_67 0 (zargs 0 [.inr (.inr 361), .inl a]) [] H (fun r9 H9 => ∃ z : Int, r9 = some (.inl z) ∧ ((0 ≤ z ∧ z ≤ 1)) ∧ Inv H9 ∧ fq [(361, 3), (361, 4), (361, 5)] [20] false H H9 ∧ fw [(20, a.toNat), (361, 3), (361, 4), (361, 5)] H H9 ∧ (OB9 Y q c0 K AB z H9)) := by
  have hpa := RB_pa hB
  have htk := RB_tk hB
  have hty := tfd_b Y X
  have hct := hB.2.1.1.1
  obtain ⟨Q9, hQ9⟩ : ∃ Q9 : Option zv → hp → Prop, Q9 = (fun r9 H9 => ∃ z : Int, r9 = some (.inl z) ∧ ((0 ≤ z ∧ z ≤ 1)) ∧ Inv H9 ∧ fq [(361, 3), (361, 4), (361, 5)] [20] false H H9 ∧ fw [(20, a.toNat), (361, 3), (361, 4), (361, 5)] H H9 ∧ (OB9 Y q c0 K AB z H9)) := ⟨_, rfl⟩
  rw [← hQ9]
  refine k_run 0 (pc' := 0) (l' := [(0, .inr (.inr 361)), (1, .inl a)]) (st' := []) rfl ?_
  refine k_run 1 (pc' := 1) (l' := [(0, .inr (.inr 361)), (1, .inl a)]) (st' := [.inr (.inr 361)]) rfl ?_
  have g1 : -2147483648 ≤ (H.1 361 3) ∧ (H.1 361 3) ≤ 2147483647 := kn (x := kx_361) hI rfl 3
  have g2 : 0 ≤ (H.1 2 5) ∧ (H.1 2 5) ≤ 1001 := kn (x := kx_2) hI rfl 5
  refine h_cv (i := 72) (j := 83) (b := 361) (M' := mt_83) (xs := []) (rest := []) rfl rfl rfl rfl (zs_K (x := kx_361) rfl (by decide)) rfl (Nat.le_of_ble_eq_true rfl) (Nat.le_of_ble_eq_true rfl) (by omega) (q_Reader_token (by omega) hI (by omega)) ?_
  rintro _ _ ⟨z9, rfl, g3, hx8, rfl⟩
  refine k_run 0 (pc' := 4) (l' := [(0, .inr (.inr 361)), (1, .inl a)]) (st' := [.inl z9]) rfl ?_
  rw [htk] at hx8
  refine k_run 1 (pc' := 5) (l' := [(0, .inr (.inr 361)), (1, .inl a)]) (st' := [.inl 3, .inl z9]) rfl ?_
  refine h_ieq (off := 8) (t := 13) rfl rfl (by omega) (by decide) (fun c10 => ?_) (fun c10 => ?_)
  · refine k_run 0 (pc' := 13) (l' := [(0, .inr (.inr 361)), (1, .inl a)]) (st' := []) rfl ?_
    refine k_run 4 (pc' := 21) (l' := [(0, .inr (.inr 361)), (1, .inl a)]) (st' := [.inr (.inr 361), .inr (.inr 8)]) rfl ?_
    refine h_cv (i := 120) (j := 84) (b := 361) (M' := mt_84) (xs := []) (rest := [.inr (.inr 8)]) rfl rfl rfl rfl (zs_K (x := kx_361) rfl (by decide)) rfl (Nat.le_of_ble_eq_true rfl) (Nat.le_of_ble_eq_true rfl) (by omega) (q_Reader_name (by omega) hI (by omega)) ?_
    rintro _ _ ⟨z17, rfl, g11, hx16, rfl⟩
    refine k_run 0 (pc' := 24) (l' := [(0, .inr (.inr 361)), (1, .inl a)]) (st' := [.inr (.inl z17), .inr (.inr 8)]) rfl ?_
    have g18 : 0 ≤ (H.1 8 4) ∧ (H.1 8 4) ≤ 6 := kn (x := kx_8) hI rfl 4
    refine h_cv (i := 124) (j := 41) (b := 8) (M' := mt_41) (xs := [.inr (.inl z17)]) (rest := []) rfl rfl rfl rfl (zs_K (x := kx_8) rfl (by decide)) rfl (Nat.le_of_ble_eq_true rfl) (Nat.le_of_ble_eq_true rfl) (by omega) (q_Symbols_find_8 (by omega) hI (by omega)) ?_
    rintro _ _ ⟨z25, rfl, g19, hx24, rfl⟩
    refine k_run 0 (pc' := 27) (l' := [(0, .inr (.inr 361)), (1, .inl a)]) (st' := [.inl z25]) rfl ?_
    refine k_run 1 (pc' := 28) (l' := [(0, .inr (.inr 361)), (1, .inl a), (2, .inl z25)]) (st' := []) rfl ?_
    have htf : z25 = tfd Y X := by rw [hx24, hx16]; exact RB_tf hB (by omega) (by omega)
    refine k_run 1 (pc' := 29) (l' := [(0, .inr (.inr 361)), (1, .inl a), (2, .inl z25)]) (st' := [.inl z25]) rfl ?_
    refine h_zge (off := 9) (t := 38) rfl rfl (by omega) (fun c26 => ?_) (fun c26 => ?_)
    · refine k_run 0 (pc' := 38) (l' := [(0, .inr (.inr 361)), (1, .inl a), (2, .inl z25)]) (st' := []) rfl ?_
      refine k_run 6 (pc' := 50) (l' := [(0, .inr (.inr 361)), (1, .inl a), (2, .inl z25)]) (st' := [.inl z25, .inl a, .inr (.inr 20)]) rfl ?_
      refine k_ist (z := z25) (c := 20) (j := (a).toNat) (i := a) (x := kx_20) rfl rfl (by decide) (by decide) rfl (by decide) (by omega) (by omega) hI (by omega) (show -2 ≤ z25 ∧ z25 ≤ 100 by omega) (fun H27 hI28 hw29 hv30 => ?_)
      have hf31 : fq [(361, 3), (361, 4), (361, 5)] [20] false H H27 := fq_w (fq_rf _ _ _ _) hw29 (fpa (by decide) rfl)
      have hp32 : fw [(20, a.toNat), (361, 3), (361, 4), (361, 5)] H H27 := fw_w (fw_rf _ _) hw29 (by first | (simp; done) | (simp; omega))
      refine k_run 0 (pc' := 51) (l' := [(0, .inr (.inr 361)), (1, .inl a), (2, .inl z25)]) (st' := []) rfl ?_
      refine k_run 3 (pc' := 56) (l' := [(0, .inr (.inr 361)), (1, .inl a), (2, .inl z25)]) (st' := [.inl (H27.1 361 3), .inr (.inr 361)]) rfl ?_
      have g33 : -2147483648 ≤ (H27.1 361 3) ∧ (H27.1 361 3) ≤ 2147483647 := kn (x := kx_361) hI28 rfl 3
      have e34 : (H27.1 361 3) = (H.1 361 3) := hw29.2 _ _ (fun q => absurd q.1 (by decide))
      refine k_run 2 (pc' := 58) (l' := [(0, .inr (.inr 361)), (1, .inl a), (2, .inl z25)]) (st' := [.inl ((H27.1 361 3) + 1), .inr (.inr 361)]) rfl ?_
      refine k_puti (z := ((H27.1 361 3) + 1)) (a := 361) (x := kx_361) rfl rfl rfl (by decide) (by decide) rfl rfl rfl rfl hI28 (by omega) (show -2147483648 ≤ ((H27.1 361 3) + 1) ∧ ((H27.1 361 3) + 1) ≤ 2147483647 by omega) (fun H35 hI36 hw37 hv38 => ?_)
      have hf39 : fq [(361, 3), (361, 4), (361, 5)] [20] false H H35 := fq_w hf31 hw37 (fpo (by decide) rfl)
      have hp40 : fw [(20, a.toNat), (361, 3), (361, 4), (361, 5)] H H35 := fw_w hp32 hw37 (by first | (simp; done) | (simp; omega))
      refine k_run 0 (pc' := 61) (l' := [(0, .inr (.inr 361)), (1, .inl a), (2, .inl z25)]) (st' := []) rfl ?_
      refine k_run 1 (pc' := 62) (l' := [(0, .inr (.inr 361)), (1, .inl a), (2, .inl z25)]) (st' := [.inl 1]) rfl ?_
      refine h_retz (x := 1) rfl rfl (by decide) ?_
      rw [hQ9]
      exact ⟨_, rfl, (by omega), hI36, hf39, hp40, (by first | (exfalso; omega) | exact (Or.inl ⟨rfl, adv (xu X 7 a.toNat (tfd Y X)), (rch_st hX (by show (if tk Y (xi X) ≠ 3 then miss Y X else if tfd Y X < 0 then fl Y X 3 else (K, adv (xu X 7 a.toNat (tfd Y X)))) = _; (repeat (first | rw [if_pos (by omega)] | rw [if_neg (by omega)])); try rfl)), RB_res hB hp40 ((((hw37.2 _ _ (fun q => absurd q.1 (by first | decide | omega))).trans hv30)).trans htf) (by have h9 := hv38; omega) (RB_lt hB (by omega) (by omega)), AB_res hA⟩))⟩
    · refine k_run 0 (pc' := 32) (l' := [(0, .inr (.inr 361)), (1, .inl a), (2, .inl z25)]) (st' := []) rfl ?_
      refine k_run 2 (pc' := 34) (l' := [(0, .inr (.inr 361)), (1, .inl a), (2, .inl z25)]) (st' := [.inl 3, .inr (.inr 361)]) rfl ?_
      refine h_cv (i := 128) (j := 86) (b := 361) (M' := mt_86) (xs := [.inl 3]) (rest := []) rfl rfl rfl rfl (zs_K (x := kx_361) rfl (by decide)) rfl (Nat.le_of_ble_eq_true rfl) (Nat.le_of_ble_eq_true rfl) (by omega) (q_Reader_fails (by omega) hI (by decide) (by omega)) ?_
      rintro _ H42 ⟨z47, rfl, g41, hI43, hq44, hp45, hx46⟩
      have hf48 : fq [(361, 3), (361, 4), (361, 5)] [20] false H H42 := fq_t (fq_rf _ _ _ _) hq44 rfl rfl rfl
      have hp49 : fw [(20, a.toNat), (361, 3), (361, 4), (361, 5)] H H42 := fw_t (fw_rf _ _) hp45 (by first | (simp; done) | (simp; omega))
      refine k_run 0 (pc' := 37) (l' := [(0, .inr (.inr 361)), (1, .inl a), (2, .inl z25)]) (st' := [.inl z47]) rfl ?_
      refine h_retz (x := z47) rfl rfl (by omega) ?_
      rw [hQ9]
      exact ⟨_, rfl, (by omega), hI43, hf48, hp49, (by first | (exfalso; omega) | exact (Or.inr ⟨by omega, FB_mk hB hp45 nF45 (rch_st hX (by show (if tk Y (xi X) ≠ 3 then miss Y X else if tfd Y X < 0 then fl Y X 3 else (K, adv (xu X 7 a.toNat (tfd Y X)))) = _; (repeat (first | rw [if_pos (by omega)] | rw [if_neg (by omega)])); try rfl)) hx46.1 hx46.2⟩))⟩
  · refine k_run 0 (pc' := 8) (l' := [(0, .inr (.inr 361)), (1, .inl a)]) (st' := []) rfl ?_
    refine k_run 1 (pc' := 9) (l' := [(0, .inr (.inr 361)), (1, .inl a)]) (st' := [.inr (.inr 361)]) rfl ?_
    refine h_cv (i := 89) (j := 85) (b := 361) (M' := mt_85) (xs := []) (rest := []) rfl rfl rfl rfl (zs_K (x := kx_361) rfl (by decide)) rfl (Nat.le_of_ble_eq_true rfl) (Nat.le_of_ble_eq_true rfl) (by omega) (q_Reader_misplaced (by omega) hI (by omega)) ?_
    rintro _ H51 ⟨z56, rfl, g50, hI52, hq53, hp54, hx55⟩
    have hf57 : fq [(361, 3), (361, 4), (361, 5)] [20] false H H51 := fq_t (fq_rf _ _ _ _) hq53 rfl rfl rfl
    have hp58 : fw [(20, a.toNat), (361, 3), (361, 4), (361, 5)] H H51 := fw_t (fw_rf _ _) hp54 (by first | (simp; done) | (simp; omega))
    refine k_run 0 (pc' := 12) (l' := [(0, .inr (.inr 361)), (1, .inl a)]) (st' := [.inl z56]) rfl ?_
    refine h_retz (x := z56) rfl rfl (by omega) ?_
    rw [hQ9]
    exact ⟨_, rfl, (by omega), hI52, hf57, hp58, (by first | (exfalso; omega) | exact (Or.inr ⟨by omega, FB_mk (k := if tk Y (xi X) = 1 then 1 else 2) hB hp54 nF45 (rch_st hX (by show (if tk Y (xi X) ≠ 3 then miss Y X else if tfd Y X < 0 then fl Y X 3 else (K, adv (xu X 7 a.toNat (tfd Y X)))) = _; (repeat (first | rw [if_pos (by omega)] | rw [if_neg (by omega)])); try rfl)) (hx55.1.trans (by rw [htk])) hx55.2⟩))⟩

/-! Reader.readConstructor -/
set_option maxRecDepth 100000 in
theorem q_Reader_readConstructor_cut {Y : yx} {q : Nat} {c0 : cf} {K : List tq} {X : rx} {d : Nat} (hd : 4 ≤ d) {H : hp} (hI : Inv H) {a : Int} (ha : -2147483648 ≤ a ∧ a ≤ 2147483647) (hp0 : -2 ≤ a ∧ a ≤ 100) (hB : RB Y q H X) (hX : rch Y c0 ((7, a, 0, 0) :: K, X)) (hA : AB X) : ∀ w : Nat, (∀ (H1 : hp), Inv H1 → fq [(13, 4), (361, 3), (361, 4), (361, 5)] [14, 15, 16, 17] false H H1 → ∀ (x2 : Int) , (-2147483648 ≤ x2 ∧ x2 ≤ 2147483647) → (0 ≤ x2 ∧ x2 ≤ 3) → (∃ X1 : rx, rch Y c0 ((8, H.1 13 4, x2, 0) :: K, X1) ∧ RB Y q H1 X1 ∧ AB X1 ∧ X1 4 (H.1 13 4).toNat = x2 ∧ H1.1 13 4 = H.1 13 4 + 1 ∧ X1 0 4 = X 0 4 + 1) → (NE 0 H H1) → (((10 - x2).toNat) < w) → hG (zs zK) d mt_65 20 [(0, .inr (.inr 361)), (1, .inl a), (2, .inl x2)] [] H1 (fun r9 H9 => ∃ z : Int, r9 = some (.inl z) ∧ ((0 ≤ z ∧ z ≤ 1)) ∧ Inv H9 ∧ fq [(13, 4), (361, 3), (361, 4), (361, 5)] [14, 15, 16, 17] false H H9 ∧ ((OB9 Y q c0 K (fun X1 => AB X1 ∧ X1 0 4 = X 0 4 + 1) z H9) ∧ NE 0 H H9))) := by
  intro w
  induction w with
  | zero => exact fun _ _ _ _ _ _ _ _ h => absurd h (Nat.not_lt_zero _)
  | succ w ih =>
    intro H1 hI1 hf1 x2 hx2 hi0 hi1 hi2 hw
    obtain ⟨Q9, hQ9⟩ : ∃ Q9 : Option zv → hp → Prop, Q9 = (fun r9 H9 => ∃ z : Int, r9 = some (.inl z) ∧ ((0 ≤ z ∧ z ≤ 1)) ∧ Inv H9 ∧ fq [(13, 4), (361, 3), (361, 4), (361, 5)] [14, 15, 16, 17] false H H9 ∧ ((OB9 Y q c0 K (fun X1 => AB X1 ∧ X1 0 4 = X 0 4 + 1) z H9) ∧ NE 0 H H9)) := ⟨_, rfl⟩
    rw [← hQ9]
    obtain ⟨X1, k1, k2, k3, k4, k5, k6⟩ := hi1
    have hpa1 := RB_pa k2
    have htk1 := RB_tk k2
    have hcn1 := k2.2.1.1.2.1
    have hcb : 0 ≤ H1.1 13 4 ∧ H1.1 13 4 ≤ 16 := kn (x := kx_13) hI1 rfl 4
    have hc0 : 0 ≤ H.1 13 4 ∧ H.1 13 4 ≤ 16 := kn (x := kx_13) hI rfl 4
    have hcn := hB.2.1.1.2.1
    refine k_run 2 (pc' := 22) (l' := [(0, .inr (.inr 361)), (1, .inl a), (2, .inl x2)]) (st' := [.inl 3, .inl x2]) rfl ?_
    refine h_igt (off := 74) (t := 96) rfl rfl (by omega) (by decide) (fun c12 => ?_) (fun c12 => ?_)
    · refine k_run 0 (pc' := 96) (l' := [(0, .inr (.inr 361)), (1, .inl a), (2, .inl x2)]) (st' := []) rfl ?_
      refine k_run 1 (pc' := 97) (l' := [(0, .inr (.inr 361)), (1, .inl a), (2, .inl x2)]) (st' := [.inl 1]) rfl ?_
      refine h_retz (x := 1) rfl rfl (by decide) ?_
      rw [hQ9]
      exact ⟨_, rfl, (by omega), hI1, hf1, (by first | (exfalso; omega) | exact ⟨(by first | exact Or.inl ⟨rfl, X1, rch_st k1 (by show (if tk Y (xi X1) = 3 then _ else (K, X1)) = _; rw [if_neg (by omega)]), k2, k3, k6⟩ | (exfalso; omega)), hi2⟩)⟩
    · refine k_run 0 (pc' := 25) (l' := [(0, .inr (.inr 361)), (1, .inl a), (2, .inl x2)]) (st' := []) rfl ?_
      refine k_run 1 (pc' := 26) (l' := [(0, .inr (.inr 361)), (1, .inl a), (2, .inl x2)]) (st' := [.inr (.inr 361)]) rfl ?_
      have g13 : -2147483648 ≤ (H1.1 361 3) ∧ (H1.1 361 3) ≤ 2147483647 := kn (x := kx_361) hI1 rfl 3
      have g14 : 0 ≤ (H1.1 2 5) ∧ (H1.1 2 5) ≤ 1001 := kn (x := kx_2) hI1 rfl 5
      have e15 : (H1.1 2 5) = (H.1 2 5) := (hf1.1 2 5 rfl (by decide) (by decide)).1
      refine h_cv (i := 72) (j := 83) (b := 361) (M' := mt_83) (xs := []) (rest := []) rfl rfl rfl rfl (zs_K (x := kx_361) rfl (by decide)) rfl (Nat.le_of_ble_eq_true rfl) (Nat.le_of_ble_eq_true rfl) (by omega) (q_Reader_token (by omega) hI1 (by omega)) ?_
      rintro _ _ ⟨z22, rfl, g16, hx21, rfl⟩
      refine k_run 0 (pc' := 29) (l' := [(0, .inr (.inr 361)), (1, .inl a), (2, .inl x2)]) (st' := [.inl z22]) rfl ?_
      rw [htk1] at hx21
      refine k_run 1 (pc' := 30) (l' := [(0, .inr (.inr 361)), (1, .inl a), (2, .inl x2)]) (st' := [.inl 3, .inl z22]) rfl ?_
      refine h_ine (off := 66) (t := 96) rfl rfl (by omega) (by decide) (fun c23 => ?_) (fun c23 => ?_)
      · refine k_run 0 (pc' := 96) (l' := [(0, .inr (.inr 361)), (1, .inl a), (2, .inl x2)]) (st' := []) rfl ?_
        refine k_run 1 (pc' := 97) (l' := [(0, .inr (.inr 361)), (1, .inl a), (2, .inl x2)]) (st' := [.inl 1]) rfl ?_
        refine h_retz (x := 1) rfl rfl (by decide) ?_
        rw [hQ9]
        exact ⟨_, rfl, (by omega), hI1, hf1, (by first | (exfalso; omega) | exact ⟨(by first | exact Or.inl ⟨rfl, X1, rch_st k1 (by show (if tk Y (xi X1) = 3 then _ else (K, X1)) = _; rw [if_neg (by omega)]), k2, k3, k6⟩ | (exfalso; omega)), hi2⟩)⟩
      · refine k_run 0 (pc' := 33) (l' := [(0, .inr (.inr 361)), (1, .inl a), (2, .inl x2)]) (st' := []) rfl ?_
        refine k_run 4 (pc' := 41) (l' := [(0, .inr (.inr 361)), (1, .inl a), (2, .inl x2)]) (st' := [.inr (.inr 361), .inr (.inr 8)]) rfl ?_
        refine h_cv (i := 120) (j := 84) (b := 361) (M' := mt_84) (xs := []) (rest := [.inr (.inr 8)]) rfl rfl rfl rfl (zs_K (x := kx_361) rfl (by decide)) rfl (Nat.le_of_ble_eq_true rfl) (Nat.le_of_ble_eq_true rfl) (by omega) (q_Reader_name (by omega) hI1 (by omega)) ?_
        rintro _ _ ⟨z30, rfl, g24, hx29, rfl⟩
        refine k_run 0 (pc' := 44) (l' := [(0, .inr (.inr 361)), (1, .inl a), (2, .inl x2)]) (st' := [.inr (.inl z30), .inr (.inr 8)]) rfl ?_
        have g31 : 0 ≤ (H1.1 8 4) ∧ (H1.1 8 4) ≤ 6 := kn (x := kx_8) hI1 rfl 4
        have e32 : (H1.1 8 4) = (H.1 8 4) := (hf1.1 8 4 rfl (by decide) (by decide)).1
        refine h_cv (i := 124) (j := 41) (b := 8) (M' := mt_41) (xs := [.inr (.inl z30)]) (rest := []) rfl rfl rfl rfl (zs_K (x := kx_8) rfl (by decide)) rfl (Nat.le_of_ble_eq_true rfl) (Nat.le_of_ble_eq_true rfl) (by omega) (q_Symbols_find_8 (by omega) hI1 (by omega)) ?_
        rintro _ _ ⟨z39, rfl, g33, hx38, rfl⟩
        refine k_run 0 (pc' := 47) (l' := [(0, .inr (.inr 361)), (1, .inl a), (2, .inl x2)]) (st' := [.inl z39]) rfl ?_
        refine k_run 1 (pc' := 48) (l' := [(0, .inr (.inr 361)), (1, .inl a), (2, .inl x2), (3, .inl z39)]) (st' := []) rfl ?_
        have htf : z39 = tfd Y X1 := by rw [hx38, hx29]; exact RB_tf k2 (by omega) (by omega)
        refine k_run 1 (pc' := 49) (l' := [(0, .inr (.inr 361)), (1, .inl a), (2, .inl x2), (3, .inl z39)]) (st' := [.inl z39]) rfl ?_
        refine h_zge (off := 9) (t := 58) rfl rfl (by omega) (fun c40 => ?_) (fun c40 => ?_)
        · refine k_run 0 (pc' := 58) (l' := [(0, .inr (.inr 361)), (1, .inl a), (2, .inl x2), (3, .inl z39)]) (st' := []) rfl ?_
          refine k_run 2 (pc' := 60) (l' := [(0, .inr (.inr 361)), (1, .inl a), (2, .inl x2), (3, .inl z39)]) (st' := [.inl 3, .inl x2]) rfl ?_
          refine h_ine (off := 9) (t := 69) rfl rfl (by omega) (by decide) (fun c41 => ?_) (fun c41 => ?_)
          · refine k_run 0 (pc' := 69) (l' := [(0, .inr (.inr 361)), (1, .inl a), (2, .inl x2), (3, .inl z39)]) (st' := []) rfl ?_
            have e16 : H1.1 16 (H1.1 13 4 - 1).toNat = x2 := by rw [show (H1.1 13 4 - 1).toNat = (H.1 13 4).toNat by omega, (k2.2.1.2.2.1 (H.1 13 4).toNat (by omega)).2.2.1]; exact k4
            refine k_run 4 (pc' := 77) (l' := [(0, .inr (.inr 361)), (1, .inl a), (2, .inl x2), (3, .inl z39)]) (st' := [.inl z39, .inr (.inr 13)]) rfl ?_
            have g42 : 0 ≤ (H1.1 13 4) ∧ (H1.1 13 4) ≤ 16 := kn (x := kx_13) hI1 rfl 4
            refine h_cv (i := 131) (j := 44) (b := 13) (M' := mt_44) (xs := [.inl z39]) (rest := []) rfl rfl rfl rfl (zs_K (x := kx_13) rfl (by decide)) rfl (Nat.le_of_ble_eq_true rfl) (Nat.le_of_ble_eq_true rfl) (by omega) (q_Symbols_addArgument_13 (by omega) hI1 (by omega) (by omega) (by omega) (by omega)) ?_
            rintro _ H44 ⟨rfl, hI45, hq46, hp47, hx48⟩
            have hf49 : fq [(13, 4), (361, 3), (361, 4), (361, 5)] [14, 15, 16, 17] false H H44 := fq_t hf1 hq46 rfl rfl rfl
            refine k_run 0 (pc' := 80) (l' := [(0, .inr (.inr 361)), (1, .inl a), (2, .inl x2), (3, .inl z39)]) (st' := []) rfl ?_
            refine k_run 3 (pc' := 85) (l' := [(0, .inr (.inr 361)), (1, .inl a), (2, .inl x2), (3, .inl z39)]) (st' := [.inl (H44.1 361 3), .inr (.inr 361)]) rfl ?_
            have g50 : -2147483648 ≤ (H44.1 361 3) ∧ (H44.1 361 3) ≤ 2147483647 := kn (x := kx_361) hI45 rfl 3
            have e51 : (H44.1 361 3) = (H1.1 361 3) := (hq46.1 361 3 rfl (by decide) (by decide)).1
            refine k_run 2 (pc' := 87) (l' := [(0, .inr (.inr 361)), (1, .inl a), (2, .inl x2), (3, .inl z39)]) (st' := [.inl ((H44.1 361 3) + 1), .inr (.inr 361)]) rfl ?_
            refine k_puti (z := ((H44.1 361 3) + 1)) (a := 361) (x := kx_361) rfl rfl rfl (by decide) (by decide) rfl rfl rfl rfl hI45 (by omega) (show -2147483648 ≤ ((H44.1 361 3) + 1) ∧ ((H44.1 361 3) + 1) ≤ 2147483647 by omega) (fun H52 hI53 hw54 hv55 => ?_)
            have hf56 : fq [(13, 4), (361, 3), (361, 4), (361, 5)] [14, 15, 16, 17] false H H52 := fq_w hf49 hw54 (fpo (by decide) rfl)
            refine k_run 0 (pc' := 90) (l' := [(0, .inr (.inr 361)), (1, .inl a), (2, .inl x2), (3, .inl z39)]) (st' := []) rfl ?_
            refine k_run 2 (pc' := 20) (l' := [(0, .inr (.inr 361)), (1, .inl a), (2, .inl (x2 + 1)), (3, .inl z39)]) (st' := []) rfl ?_
            refine h_loc [0, 1, 2] rfl ?_
            have hR3 := RB_car2 k2 (by omega) (by omega) (fw_w (fw_t (fw_rf [(17, (4 * (H1.1 13 4 - 1) + H1.1 16 (H1.1 13 4 - 1).toNat).toNat), (16, (H1.1 13 4 - 1).toNat), (361, 3)] H1) hp47 (by simp)) hw54 (by simp)) (((hw54.2 _ _ (fun q => absurd q.1 (by decide))).trans hx48.1).trans htf) ((hw54.2 _ _ (fun q => absurd q.1 (by decide))).trans hx48.2) (by have h9 := hv55; have h8 := hp47.2 361 3 (by simp); omega) (RB_lt k2 (by omega) (by omega)) k3.1
            rw [show H1.1 13 4 - 1 = H.1 13 4 by omega] at hR3
            have hN9 := NE_tr (NE_tr hi2 (NE_fwo hp47 (by simp))) (NE_w (e := 0) hw54 (sc_no (by omega)))
            rw [hQ9]
            exact ih H52 hI53 hf56 (x2 + 1) (by omega) (by omega) (⟨xcar X1 (H.1 13 4) (tfd Y X1), (rch_st k1 (by show (if tk Y (xi X1) = 3 then (if tfd Y X1 < 0 then fl Y X1 3 else if x2 = 3 then fl Y X1 5 else ((8, H.1 13 4, x2 + 1, 0) :: K, xcar X1 (H.1 13 4) (tfd Y X1))) else (K, X1)) = _; (repeat (first | rw [if_pos (by omega)] | rw [if_neg (by omega)])); try rfl)), hR3, AB_car k3 (by omega), (by rw [(xcar_s X1 _ _).2.2, up_eq, k4]), ((hw54.2 _ _ (fun q => absurd q.1 (by decide))).trans ((hp47.2 13 4 (by simp)).trans k5)), (by rw [xcar_0 X1 _ _ (by decide)]; exact k6)⟩) hN9 (by omega)
          · refine k_run 0 (pc' := 63) (l' := [(0, .inr (.inr 361)), (1, .inl a), (2, .inl x2), (3, .inl z39)]) (st' := []) rfl ?_
            refine k_run 2 (pc' := 65) (l' := [(0, .inr (.inr 361)), (1, .inl a), (2, .inl x2), (3, .inl z39)]) (st' := [.inl 5, .inr (.inr 361)]) rfl ?_
            refine h_cv (i := 128) (j := 86) (b := 361) (M' := mt_86) (xs := [.inl 5]) (rest := []) rfl rfl rfl rfl (zs_K (x := kx_361) rfl (by decide)) rfl (Nat.le_of_ble_eq_true rfl) (Nat.le_of_ble_eq_true rfl) (by omega) (q_Reader_fails (by omega) hI1 (by decide) (by omega)) ?_
            rintro _ H58 ⟨z63, rfl, g57, hI59, hq60, hp61, hx62⟩
            have hf64 : fq [(13, 4), (361, 3), (361, 4), (361, 5)] [14, 15, 16, 17] false H H58 := fq_t hf1 hq60 rfl rfl rfl
            refine k_run 0 (pc' := 68) (l' := [(0, .inr (.inr 361)), (1, .inl a), (2, .inl x2), (3, .inl z39)]) (st' := [.inl z63]) rfl ?_
            refine h_retz (x := z63) rfl rfl (by omega) ?_
            rw [hQ9]
            exact ⟨_, rfl, (by omega), hI59, hf64, (by first | (exfalso; omega) | exact ⟨(Or.inr ⟨by omega, FB_mk k2 hp61 nF45 (rch_st k1 (by show (if tk Y (xi X1) = 3 then (if tfd Y X1 < 0 then fl Y X1 3 else if x2 = 3 then fl Y X1 5 else ((8, H.1 13 4, x2 + 1, 0) :: K, xcar X1 (H.1 13 4) (tfd Y X1))) else (K, X1)) = _; (repeat (first | rw [if_pos (by omega)] | rw [if_neg (by omega)])); try rfl)) hx62.1 hx62.2⟩), NE_tr hi2 (NE_fwo hp61 (by simp))⟩)⟩
        · refine k_run 0 (pc' := 52) (l' := [(0, .inr (.inr 361)), (1, .inl a), (2, .inl x2), (3, .inl z39)]) (st' := []) rfl ?_
          refine k_run 2 (pc' := 54) (l' := [(0, .inr (.inr 361)), (1, .inl a), (2, .inl x2), (3, .inl z39)]) (st' := [.inl 3, .inr (.inr 361)]) rfl ?_
          refine h_cv (i := 128) (j := 86) (b := 361) (M' := mt_86) (xs := [.inl 3]) (rest := []) rfl rfl rfl rfl (zs_K (x := kx_361) rfl (by decide)) rfl (Nat.le_of_ble_eq_true rfl) (Nat.le_of_ble_eq_true rfl) (by omega) (q_Reader_fails (by omega) hI1 (by decide) (by omega)) ?_
          rintro _ H66 ⟨z71, rfl, g65, hI67, hq68, hp69, hx70⟩
          have hf72 : fq [(13, 4), (361, 3), (361, 4), (361, 5)] [14, 15, 16, 17] false H H66 := fq_t hf1 hq68 rfl rfl rfl
          refine k_run 0 (pc' := 57) (l' := [(0, .inr (.inr 361)), (1, .inl a), (2, .inl x2), (3, .inl z39)]) (st' := [.inl z71]) rfl ?_
          refine h_retz (x := z71) rfl rfl (by omega) ?_
          rw [hQ9]
          exact ⟨_, rfl, (by omega), hI67, hf72, (by first | (exfalso; omega) | exact ⟨(Or.inr ⟨by omega, FB_mk k2 hp69 nF45 (rch_st k1 (by show (if tk Y (xi X1) = 3 then (if tfd Y X1 < 0 then fl Y X1 3 else if x2 = 3 then fl Y X1 5 else ((8, H.1 13 4, x2 + 1, 0) :: K, xcar X1 (H.1 13 4) (tfd Y X1))) else (K, X1)) = _; (repeat (first | rw [if_pos (by omega)] | rw [if_neg (by omega)])); try rfl)) hx70.1 hx70.2⟩), NE_tr hi2 (NE_fwo hp69 (by simp))⟩)⟩
set_option maxRecDepth 100000 in
theorem q_Reader_readConstructor {Y : yx} {q : Nat} {c0 : cf} {K : List tq} {X : rx} {d : Nat} (hd : 4 ≤ d) {H : hp} (hI : Inv H) {a : Int} (ha : -2147483648 ≤ a ∧ a ≤ 2147483647) (hp0 : -2 ≤ a ∧ a ≤ 100) (hB : RB Y q H X) (hX : rch Y c0 ((7, a, 0, 0) :: K, X)) (hA : AB X) : hG (zs zK) d mt_65 0 (zargs 0 [.inr (.inr 361), .inl a]) [] H (fun r9 H9 => ∃ z : Int, r9 = some (.inl z) ∧ ((0 ≤ z ∧ z ≤ 1)) ∧ Inv H9 ∧ fq [(13, 4), (361, 3), (361, 4), (361, 5)] [14, 15, 16, 17] false H H9 ∧ ((OB9 Y q c0 K (fun X1 => AB X1 ∧ X1 0 4 = X 0 4 + 1) z H9) ∧ NE 0 H H9)) := by
  have hpa := RB_pa hB
  have htk := RB_tk hB
  have hcn := hB.2.1.1.2.1
  have hc0 : 0 ≤ H.1 13 4 ∧ H.1 13 4 ≤ 16 := kn (x := kx_13) hI rfl 4
  obtain ⟨Q9, hQ9⟩ : ∃ Q9 : Option zv → hp → Prop, Q9 = (fun r9 H9 => ∃ z : Int, r9 = some (.inl z) ∧ ((0 ≤ z ∧ z ≤ 1)) ∧ Inv H9 ∧ fq [(13, 4), (361, 3), (361, 4), (361, 5)] [14, 15, 16, 17] false H H9 ∧ ((OB9 Y q c0 K (fun X1 => AB X1 ∧ X1 0 4 = X 0 4 + 1) z H9) ∧ NE 0 H H9)) := ⟨_, rfl⟩
  rw [← hQ9]
  refine k_run 0 (pc' := 0) (l' := [(0, .inr (.inr 361)), (1, .inl a)]) (st' := []) rfl ?_
  refine k_run 6 (pc' := 10) (l' := [(0, .inr (.inr 361)), (1, .inl a)]) (st' := [.inl a, .inl 3, .inr (.inr 13), .inr (.inr 361)]) rfl ?_
  have g1 : -2147483648 ≤ (H.1 361 3) ∧ (H.1 361 3) ≤ 2147483647 := kn (x := kx_361) hI rfl 3
  have g2 : 0 ≤ (H.1 2 5) ∧ (H.1 2 5) ≤ 1001 := kn (x := kx_2) hI rfl 5
  refine h_cv (i := 113) (j := 78) (b := 361) (M' := mt_78) (xs := [.inl a, .inl 3, .inr (.inr 13)]) (rest := []) rfl rfl rfl rfl (zs_K (x := kx_361) rfl (by decide)) rfl (Nat.le_of_ble_eq_true rfl) (Nat.le_of_ble_eq_true rfl) (by omega) (q_Reader_tellName_13 (by omega) hI (by decide) (by omega) (by omega) (by omega)) ?_
  rintro _ H4 ⟨z9, rfl, g3, hI5, hq6, hp7, hx8⟩
  have hf10 : fq [(13, 4), (361, 3), (361, 4), (361, 5)] [14, 15, 16, 17] false H H4 := fq_t (fq_rf _ _ _ _) hq6 rfl rfl rfl
  refine k_run 0 (pc' := 13) (l' := [(0, .inr (.inr 361)), (1, .inl a)]) (st' := [.inl z9]) rfl ?_
  refine h_zne (off := 5) (t := 18) rfl rfl (by omega) (fun c11 => ?_) (fun c11 => ?_)
  · refine k_run 0 (pc' := 18) (l' := [(0, .inr (.inr 361)), (1, .inl a)]) (st' := []) rfl ?_
    obtain ⟨t1, t2, t3, t4, t5, t6, t7, t8, t9⟩ := Or.resolve_right hx8 (fun q9 => by have := q9.1; omega)
    rw [htk] at t2
    have hnm := RB_tn hB (by omega) (by omega)
    have hcf := RB_cf hB (by omega) (by omega)
    rw [hcf] at t3
    have hR1 : RB Y q H4 (xcon X (tn Y (xi X)) a) := RB_con hB hp7 (t5.trans hnm) t6 t7 t8 t9 hc0.1 (RB_lt hB (by omega) (by omega))
    have hX1 : rch Y c0 ((8, X 0 4, 0, 0) :: K, xcon X (tn Y (xi X)) a) := rch_st hX (by show (if tk Y (xi X) ≠ 3 then miss Y X else if 0 ≤ cfd Y X then fl Y X 3 else if 16 ≤ X 0 4 then fl Y X 5 else ((8, X 0 4, 0, 0) :: K, xcon X (tn Y (xi X)) a)) = _; (repeat (first | rw [if_pos (by omega)] | rw [if_neg (by omega)])); try rfl)
    refine k_run 2 (pc' := 20) (l' := [(0, .inr (.inr 361)), (1, .inl a), (2, .inl 0)]) (st' := []) rfl ?_
    rw [hQ9]
    exact (q_Reader_readConstructor_cut hd hI ha hp0 hB hX hA _) H4 hI5 hf10 (0 : Int) (by decide) (by omega) (⟨_, (by rw [hcn]; exact hX1), hR1, AB_con hA, (by rw [hcn, (xcon_s X _ _).2.2.2.2, up_eq]), t8, (by rw [(xcon_s X _ _).2.1])⟩) (NE_fwo hp7 (by simp)) (Nat.lt_succ_self _)
  · refine k_run 0 (pc' := 16) (l' := [(0, .inr (.inr 361)), (1, .inl a)]) (st' := []) rfl ?_
    refine k_run 1 (pc' := 17) (l' := [(0, .inr (.inr 361)), (1, .inl a)]) (st' := [.inl 0]) rfl ?_
    refine h_retz (x := 0) rfl rfl (by decide) ?_
    rw [hQ9]
    exact ⟨_, rfl, (by omega), hI5, hf10, (by first | (exfalso; omega) | exact ⟨(Or.inr ⟨rfl, (Or.resolve_left hx8 (fun q9 => by have := q9.1; omega)).2.elim (fun e1 e2 => FB_tell hB (fun q9 => RB_cf hB (by omega) (by omega)) hcn (rch_st hX rfl) e1 e2.1 e2.2)⟩), NE_fwo hp7 (by simp)⟩)⟩
