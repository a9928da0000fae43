/-! the class's reader: a sign is put, a variable told -/
theorem TQ_all : (List.range 56).all (fun k => q_o (kK (25 + 6 * k + 1)) (kTo (25 + 6 * k + 1) 40) && q_o (kK (25 + 6 * k + 3)) (kTo (25 + 6 * k + 3) 40)) = true := by decide +kernel
theorem kTo_n {t n m : Nat} (h : some (kTo t n) = some (kTo t m)) : n = m := by
  have h1 := Option.some.inj h
  unfold kTo at h1
  simp at h1
  exact_mod_cast h1
theorem TQ_n {t n : Nat} (h : TQ t) (hT : isT t n) : 40 ≤ n := by
  have h1 := hT.1
  rcases h with h | ⟨k, hk, h⟩
  · have h2 : kK 1824 = some (kTo 1824 120) := rfl
    rw [h] at h1
    have h3 := kTo_n (h1.symm.trans h2)
    omega
  · have h2 := List.all_eq_true.mp TQ_all k (List.mem_range.mpr hk)
    rw [Bool.and_eq_true] at h2
    rcases h with h | h
    · rw [h] at h1
      have h3 := kTo_n (h1.symm.trans (q_o_ok h2.1))
      omega
    · rw [h] at h1
      have h3 := kTo_n (h1.symm.trans (q_o_ok h2.2))
      omega

/-! Reader.addName -/
set_option maxRecDepth 100000 in
theorem q_Reader_addName {d : Nat} (hd : 2 ≤ d) {H : hp} (hI : Inv H) {a : Int} (ha : -2147483648 ≤ a ∧ a ≤ 2147483647) (hp0 : 0 ≤ H.1 361 3 ∧ H.1 361 3 < H.1 2 5) (hTQ : TQ (H.2 361 8)) : hG (zs zK) d mt_77 0 (zargs 0 [.inr (.inr 361), .inl a]) [] H (fun r9 H9 => ∃ z : Int, r9 = some (.inl z) ∧ ((0 ≤ z ∧ z ≤ 1)) ∧ Inv H9 ∧ fq [(361, 3), (361, 4), (361, 5)] [] false H H9 ∧ fw [((H.2 361 8 + 1), (H.1 (H.2 361 8) 1).toNat), (H.2 361 8, 1), (361, 3), (361, 4), (361, 5)] H H9 ∧ ((z = 1 ∧ H.1 (H.2 361 8) 1 < 40 ∧ H9.1 (H.2 361 8 + 1) (H.1 (H.2 361 8) 1).toNat = a ∧ H9.1 (H.2 361 8) 1 = H.1 (H.2 361 8) 1 + 1 ∧ H9.1 361 3 = H.1 361 3 + 1) ∨ (z = 0 ∧ 40 ≤ H.1 (H.2 361 8) 1 ∧ fw [(361, 4), (361, 5)] H H9 ∧ H9.1 361 4 = 5 ∧ H9.1 361 5 = H.1 5 (H.1 361 3).toNat))) := by
  have hT5 : 0 ≤ H.1 2 5 ∧ H.1 2 5 ≤ 1001 := kn (x := kx_2) hI rfl 5
  obtain ⟨Q9, hQ9⟩ : ∃ Q9 : Option zv → hp → Prop, Q9 = (fun r9 H9 => ∃ z : Int, r9 = some (.inl z) ∧ ((0 ≤ z ∧ z ≤ 1)) ∧ Inv H9 ∧ fq [(361, 3), (361, 4), (361, 5)] [] false H H9 ∧ fw [((H.2 361 8 + 1), (H.1 (H.2 361 8) 1).toNat), (H.2 361 8, 1), (361, 3), (361, 4), (361, 5)] H H9 ∧ ((z = 1 ∧ H.1 (H.2 361 8) 1 < 40 ∧ H9.1 (H.2 361 8 + 1) (H.1 (H.2 361 8) 1).toNat = a ∧ H9.1 (H.2 361 8) 1 = H.1 (H.2 361 8) 1 + 1 ∧ H9.1 361 3 = H.1 361 3 + 1) ∨ (z = 0 ∧ 40 ≤ H.1 (H.2 361 8) 1 ∧ fw [(361, 4), (361, 5)] H H9 ∧ H9.1 361 4 = 5 ∧ H9.1 361 5 = H.1 5 (H.1 361 3).toNat))) := ⟨_, rfl⟩
  rw [← hQ9]
  refine k_run 0 (pc' := 0) (l' := [(0, .inr (.inr 361)), (1, .inl a)]) (st' := []) rfl ?_
  refine k_run 1 (pc' := 1) (l' := [(0, .inr (.inr 361)), (1, .inl a)]) (st' := [.inr (.inr 361)]) rfl ?_
  refine k_getr (a := 361) (x := kx_361) rfl rfl rfl (by decide) rfl rfl rfl hI (fun h1 => ?_)
  obtain ⟨t2, et4⟩ : ∃ t9, t9 = H.2 361 8 := ⟨_, rfl⟩
  rw [← et4] at h1 ⊢
  obtain ⟨n5, k3⟩ := (show ∃ n, isT t2 n from h1)
  have k3b := k3.2.2.2.2
  refine k_run 0 (pc' := 4) (l' := [(0, .inr (.inr 361)), (1, .inl a)]) (st' := [.inr (.inr t2)]) rfl ?_
  have hn9 := TQ_n hTQ (n := n5) (by rw [← et4]; exact k3)
  refine k_get (a := t2) (x := (kTo t2 n5)) (v := .inl (H.1 t2 1)) rfl rfl k3.1 (iT0 k3) rfl rfl rfl ?_
  have g6 : 0 ≤ (H.1 t2 1) ∧ (H.1 t2 1) ≤ n5 := kn hI k3.1 1
  refine k_run 0 (pc' := 7) (l' := [(0, .inr (.inr 361)), (1, .inl a)]) (st' := [.inl (H.1 t2 1)]) rfl ?_
  refine k_run 1 (pc' := 9) (l' := [(0, .inr (.inr 361)), (1, .inl a)]) (st' := [.inl 40, .inl (H.1 t2 1)]) rfl ?_
  refine h_ilt (off := 9) (t := 18) rfl rfl (by omega) (by decide) (fun c7 => ?_) (fun c7 => ?_)
  · refine k_run 0 (pc' := 18) (l' := [(0, .inr (.inr 361)), (1, .inl a)]) (st' := []) rfl ?_
    refine k_run 1 (pc' := 19) (l' := [(0, .inr (.inr 361)), (1, .inl a)]) (st' := [.inr (.inr 361)]) rfl ?_
    refine k_getr (a := 361) (x := kx_361) rfl rfl rfl (by decide) rfl rfl rfl hI (fun h8 => ?_)
    rw [← et4]
    refine k_run 0 (pc' := 22) (l' := [(0, .inr (.inr 361)), (1, .inl a)]) (st' := [.inr (.inr t2)]) rfl ?_
    refine k_run 1 (pc' := 23) (l' := [(0, .inr (.inr 361)), (1, .inl a)]) (st' := [.inl a, .inr (.inr t2)]) rfl ?_
    refine h_cv (i := 222) (j := 52) (b := t2) (M' := mt_52) (xs := [.inl a]) (rest := []) rfl rfl rfl rfl (by rw [zs_K k3.1 (iT0 k3)]; rfl) rfl (Nat.le_of_ble_eq_true rfl) (Nat.le_of_ble_eq_true rfl) (by omega) (q_Term_put (by omega) hI k3 (by omega) (by omega)) ?_
    rintro _ H10 ⟨rfl, hI11, hq12, hp13, hx14⟩
    have hf15 : fq [(361, 3), (361, 4), (361, 5)] [] false H H10 := fq_t (fq_rf _ _ _ _) hq12 rfl rfl rfl
    have hp16 : fw [((H.2 361 8 + 1), (H.1 (H.2 361 8) 1).toNat), (H.2 361 8, 1), (361, 3), (361, 4), (361, 5)] H H10 := fw_t (fw_rf _ _) hp13 (by first | (simp; done) | (simp; omega) | (subst et4; simp; done) | (subst et4; simp; omega))
    refine k_run 0 (pc' := 26) (l' := [(0, .inr (.inr 361)), (1, .inl a)]) (st' := []) rfl ?_
    refine k_run 3 (pc' := 31) (l' := [(0, .inr (.inr 361)), (1, .inl a)]) (st' := [.inl (H10.1 361 3), .inr (.inr 361)]) rfl ?_
    have g17 : -2147483648 ≤ (H10.1 361 3) ∧ (H10.1 361 3) ≤ 2147483647 := kn (x := kx_361) hI11 rfl 3
    have e18 : (H10.1 361 3) = (H.1 361 3) := (hq12.1 361 3 rfl (by decide) (by decide)).1
    refine k_run 2 (pc' := 33) (l' := [(0, .inr (.inr 361)), (1, .inl a)]) (st' := [.inl ((H10.1 361 3) + 1), .inr (.inr 361)]) rfl ?_
    refine k_puti (z := ((H10.1 361 3) + 1)) (a := 361) (x := kx_361) rfl rfl rfl (by decide) (by decide) rfl rfl rfl rfl hI11 (by omega) (show -2147483648 ≤ ((H10.1 361 3) + 1) ∧ ((H10.1 361 3) + 1) ≤ 2147483647 by omega) (fun H19 hI20 hw21 hv22 => ?_)
    have hf23 : fq [(361, 3), (361, 4), (361, 5)] [] false H H19 := fq_w hf15 hw21 (fpo (by decide) rfl)
    have hp24 : fw [((H.2 361 8 + 1), (H.1 (H.2 361 8) 1).toNat), (H.2 361 8, 1), (361, 3), (361, 4), (361, 5)] H H19 := fw_w hp16 hw21 (by first | (simp; done) | (simp; omega) | (subst et4; simp; done) | (subst et4; simp; omega))
    refine k_run 0 (pc' := 36) (l' := [(0, .inr (.inr 361)), (1, .inl a)]) (st' := []) rfl ?_
    refine k_run 1 (pc' := 37) (l' := [(0, .inr (.inr 361)), (1, .inl a)]) (st' := [.inl 1]) rfl ?_
    refine h_retz (x := 1) rfl rfl (by decide) ?_
    rw [hQ9]
    subst et4
    obtain ⟨-, -, n1, n2, -⟩ := TQ_nB hTQ 0
    exact ⟨_, rfl, (by omega), hI20, hf23, hp24, (by first | (exfalso; omega) | exact (Or.inl ⟨rfl, by omega, ((hw21.2 _ _ (fun q => absurd q.1 n2)).trans hx14.1), ((hw21.2 _ _ (fun q => absurd q.1 n1)).trans hx14.2), (by have h9 := hv22; have h8 := hp13.2 361 3 (by simp; omega); omega)⟩))⟩
  · refine k_run 0 (pc' := 12) (l' := [(0, .inr (.inr 361)), (1, .inl a)]) (st' := []) rfl ?_
    refine k_run 2 (pc' := 14) (l' := [(0, .inr (.inr 361)), (1, .inl a)]) (st' := [.inl 5, .inr (.inr 361)]) rfl ?_
    have g25 : -2147483648 ≤ (H.1 361 3) ∧ (H.1 361 3) ≤ 2147483647 := kn (x := kx_361) hI rfl 3
    have g26 : 0 ≤ (H.1 2 5) ∧ (H.1 2 5) ≤ 1001 := kn (x := kx_2) hI rfl 5
    refine h_cv (i := 128) (j := 86) (b := 361) (M' := mt_86) (xs := [.inl 5]) (rest := []) rfl rfl rfl rfl (zs_K (x := kx_361) rfl (by decide)) rfl (Nat.le_of_ble_eq_true rfl) (Nat.le_of_ble_eq_true rfl) (by omega) (q_Reader_fails (by omega) hI (by decide) (by omega)) ?_
    rintro _ H28 ⟨z33, rfl, g27, hI29, hq30, hp31, hx32⟩
    have hf34 : fq [(361, 3), (361, 4), (361, 5)] [] false H H28 := fq_t (fq_rf _ _ _ _) hq30 rfl rfl rfl
    have hp35 : fw [((H.2 361 8 + 1), (H.1 (H.2 361 8) 1).toNat), (H.2 361 8, 1), (361, 3), (361, 4), (361, 5)] H H28 := fw_t (fw_rf _ _) hp31 (by first | (simp; done) | (simp; omega) | (subst et4; simp; done) | (subst et4; simp; omega))
    refine k_run 0 (pc' := 17) (l' := [(0, .inr (.inr 361)), (1, .inl a)]) (st' := [.inl z33]) rfl ?_
    refine h_retz (x := z33) rfl rfl (by omega) ?_
    rw [hQ9]
    subst et4
    exact ⟨_, rfl, (by omega), hI29, hf34, hp35, (by first | (exfalso; omega) | exact (Or.inr ⟨by omega, by omega, hp31, hx32⟩))⟩

/-! Reader.tellVariable -/
set_option maxRecDepth 100000 in
theorem q_Reader_tellVariable {d : Nat} (hd : 2 ≤ d) {H : hp} (hI : Inv H) {a : Int} (ha : -2147483648 ≤ a ∧ a ≤ 2147483647) (hp0 : -2 ≤ a ∧ a ≤ 100) (hp1 : 0 ≤ H.1 361 3 ∧ H.1 361 3 < H.1 2 5) (hp2 : H.1 361 9 < 40) (hE9 : ∃ k : Nat, k < 56 ∧ H.2 361 7 = 25 + 6 * k) : hG (zs zK) d mt_76 0 (zargs 0 [.inr (.inr 361), .inl a]) [] H (fun r9 H9 => ∃ z : Int, r9 = some (.inl z) ∧ ((-2147483648 ≤ z ∧ z ≤ 2147483647)) ∧ Inv H9 ∧ fq [(361, 9)] [362] true H H9 ∧ fw [(362, (H.1 361 9).toNat), (H.2 361 7 + 5, (H.1 361 9).toNat), (361, 9)] H H9 ∧ (z = H.1 361 9 ∧ H9.1 362 (H.1 361 9).toNat = H.1 6 (H.1 361 3).toNat ∧ H9.1 (H.2 361 7 + 5) (H.1 361 9).toNat = a ∧ H9.1 361 9 = H.1 361 9 + 1)) := by
  obtain ⟨kE, hkE, hEE⟩ := hE9
  obtain ⟨Q9, hQ9⟩ : ∃ Q9 : Option zv → hp → Prop, Q9 = (fun r9 H9 => ∃ z : Int, r9 = some (.inl z) ∧ ((-2147483648 ≤ z ∧ z ≤ 2147483647)) ∧ Inv H9 ∧ fq [(361, 9)] [362] true H H9 ∧ fw [(362, (H.1 361 9).toNat), (H.2 361 7 + 5, (H.1 361 9).toNat), (361, 9)] H H9 ∧ (z = H.1 361 9 ∧ H9.1 362 (H.1 361 9).toNat = H.1 6 (H.1 361 3).toNat ∧ H9.1 (H.2 361 7 + 5) (H.1 361 9).toNat = a ∧ H9.1 361 9 = H.1 361 9 + 1)) := ⟨_, rfl⟩
  rw [← hQ9]
  refine k_run 0 (pc' := 0) (l' := [(0, .inr (.inr 361)), (1, .inl a)]) (st' := []) rfl ?_
  refine k_run 2 (pc' := 4) (l' := [(0, .inr (.inr 361)), (1, .inl a)]) (st' := [.inl (H.1 361 9)]) rfl ?_
  have g1 : 0 ≤ (H.1 361 9) ∧ (H.1 361 9) ≤ 40 := kn (x := kx_361) hI rfl 9
  refine k_run 4 (pc' := 10) (l' := [(0, .inr (.inr 361)), (1, .inl a), (2, .inl (H.1 361 9))]) (st' := [.inr (.inr 362), .inl (H.1 361 9)]) rfl ?_
  refine k_alen (c := 362) (x := kx_362) rfl rfl (by decide) rfl ?_
  refine k_run 0 (pc' := 11) (l' := [(0, .inr (.inr 361)), (1, .inl a), (2, .inl (H.1 361 9))]) (st' := [.inl 40, .inl (H.1 361 9)]) rfl ?_
  refine h_ige (off := 33) (t := 44) rfl rfl (by omega) (by decide) (fun c2 => ?_) (fun c2 => ?_)
  · refine k_run 0 (pc' := 44) (l' := [(0, .inr (.inr 361)), (1, .inl a), (2, .inl (H.1 361 9))]) (st' := []) rfl ?_
    refine k_run 1 (pc' := 45) (l' := [(0, .inr (.inr 361)), (1, .inl a), (2, .inl (H.1 361 9))]) (st' := [.inl (H.1 361 9)]) rfl ?_
    refine h_reti (x := (H.1 361 9)) rfl rfl ?_
    rw [hQ9]
    exact ⟨_, rfl, (by omega), hI, (fq_rf _ _ _ _), (fw_rf _ _), (by first | (exfalso; omega) | exact (by exfalso; omega))⟩
  · refine k_run 0 (pc' := 14) (l' := [(0, .inr (.inr 361)), (1, .inl a), (2, .inl (H.1 361 9))]) (st' := []) rfl ?_
    refine k_run 4 (pc' := 20) (l' := [(0, .inr (.inr 361)), (1, .inl a), (2, .inl (H.1 361 9))]) (st' := [.inr (.inr 361), .inl (H.1 361 9), .inr (.inr 362)]) rfl ?_
    have g3 : -2147483648 ≤ (H.1 361 3) ∧ (H.1 361 3) ≤ 2147483647 := kn (x := kx_361) hI rfl 3
    have g4 : 0 ≤ (H.1 2 5) ∧ (H.1 2 5) ≤ 1001 := kn (x := kx_2) hI rfl 5
    refine h_cv (i := 120) (j := 84) (b := 361) (M' := mt_84) (xs := []) (rest := [.inl (H.1 361 9), .inr (.inr 362)]) rfl rfl rfl rfl (zs_K (x := kx_361) rfl (by decide)) rfl (Nat.le_of_ble_eq_true rfl) (Nat.le_of_ble_eq_true rfl) (by omega) (q_Reader_name (by omega) hI (by omega)) ?_
    rintro _ _ ⟨z11, rfl, g5, hx10, rfl⟩
    refine k_run 0 (pc' := 23) (l' := [(0, .inr (.inr 361)), (1, .inl a), (2, .inl (H.1 361 9))]) (st' := [.inr (.inl z11), .inl (H.1 361 9), .inr (.inr 362)]) rfl ?_
    refine k_lstx (z := z11) (c := 362) (j := ((H.1 361 9)).toNat) (i := (H.1 361 9)) (x := kx_362) rfl rfl (by decide) (by decide) rfl (by decide) (by omega) (by omega) hI rfl (by omega) (fun H12 hI13 hw14 hv15 => ?_)
    have hf16 : fq [(361, 9)] [362] true H H12 := fq_w (fq_rf _ _ _ _) hw14 (fpa (by decide) rfl)
    have hp17 : fw [(362, (H.1 361 9).toNat), (H.2 361 7 + 5, (H.1 361 9).toNat), (361, 9)] H H12 := fw_w (fw_rf _ _) hw14 (by first | (simp; done) | (simp; omega))
    refine k_run 0 (pc' := 24) (l' := [(0, .inr (.inr 361)), (1, .inl a), (2, .inl (H.1 361 9))]) (st' := []) rfl ?_
    refine k_run 1 (pc' := 25) (l' := [(0, .inr (.inr 361)), (1, .inl a), (2, .inl (H.1 361 9))]) (st' := [.inr (.inr 361)]) rfl ?_
    refine k_getr (a := 361) (x := kx_361) rfl rfl rfl (by decide) rfl rfl rfl hI13 (fun h18 => ?_)
    obtain ⟨t19, et21⟩ : ∃ t9, t9 = H12.2 361 7 := ⟨_, rfl⟩
    rw [← et21] at h18 ⊢
    have k20 : isE t19 := h18
    refine k_run 0 (pc' := 28) (l' := [(0, .inr (.inr 361)), (1, .inl a), (2, .inl (H.1 361 9))]) (st' := [.inr (.inr t19)]) rfl ?_
    have ee9 : t19 = H.2 361 7 := et21.trans (congrFun (congrFun hw14.1 361) 7)
    refine k_get (a := t19) (x := (kEo t19)) (v := .inr (.inr (t19 + 5))) rfl rfl k20.1 (iE0 k20) rfl rfl rfl ?_
    refine k_run 0 (pc' := 31) (l' := [(0, .inr (.inr 361)), (1, .inl a), (2, .inl (H.1 361 9))]) (st' := [.inr (.inr (t19 + 5))]) rfl ?_
    refine k_run 2 (pc' := 33) (l' := [(0, .inr (.inr 361)), (1, .inl a), (2, .inl (H.1 361 9))]) (st' := [.inl a, .inl (H.1 361 9), .inr (.inr (t19 + 5))]) rfl ?_
    refine k_ist (z := a) (c := (t19 + 5)) (j := ((H.1 361 9)).toNat) (i := (H.1 361 9)) (x := kEt) rfl k20.2.1 (iE5 k20) (by omega) rfl (by decide) (by omega) (by omega) hI13 (by omega) (show -2 ≤ a ∧ a ≤ 100 by omega) (fun H22 hI23 hw24 hv25 => ?_)
    have hf26 : fq [(361, 9)] [362] true H H22 := fq_w hf16 hw24 (fpg (iEg k20))
    have hp27 : fw [(362, (H.1 361 9).toNat), (H.2 361 7 + 5, (H.1 361 9).toNat), (361, 9)] H H22 := fw_w hp17 hw24 (by first | (simp; done) | (simp; omega) | (subst et21; simp; done) | (subst et21; simp; omega))
    refine k_run 0 (pc' := 34) (l' := [(0, .inr (.inr 361)), (1, .inl a), (2, .inl (H.1 361 9))]) (st' := []) rfl ?_
    refine k_run 3 (pc' := 39) (l' := [(0, .inr (.inr 361)), (1, .inl a), (2, .inl (H.1 361 9))]) (st' := [.inl (H22.1 361 9), .inr (.inr 361)]) rfl ?_
    have g28 : 0 ≤ (H22.1 361 9) ∧ (H22.1 361 9) ≤ 40 := kn (x := kx_361) hI23 rfl 9
    have e29 : (H22.1 361 9) = (H12.1 361 9) := hw24.2 _ _ (fun q => by have h9 := (iEg k20); rw [← q.1] at h9; exact absurd h9 (by decide))
    have e30 : (H12.1 361 9) = (H.1 361 9) := hw14.2 _ _ (fun q => absurd q.1 (by decide))
    refine k_run 2 (pc' := 41) (l' := [(0, .inr (.inr 361)), (1, .inl a), (2, .inl (H.1 361 9))]) (st' := [.inl ((H22.1 361 9) + 1), .inr (.inr 361)]) rfl ?_
    refine k_puti (z := ((H22.1 361 9) + 1)) (a := 361) (x := kx_361) rfl rfl rfl (by decide) (by decide) rfl rfl rfl rfl hI23 (by omega) (show 0 ≤ ((H22.1 361 9) + 1) ∧ ((H22.1 361 9) + 1) ≤ 40 by omega) (fun H31 hI32 hw33 hv34 => ?_)
    have hf35 : fq [(361, 9)] [362] true H H31 := fq_w hf26 hw33 (fpo (by decide) rfl)
    have hp36 : fw [(362, (H.1 361 9).toNat), (H.2 361 7 + 5, (H.1 361 9).toNat), (361, 9)] H H31 := fw_w hp27 hw33 (by first | (simp; done) | (simp; omega) | (subst et21; simp; done) | (subst et21; simp; omega))
    refine k_run 0 (pc' := 44) (l' := [(0, .inr (.inr 361)), (1, .inl a), (2, .inl (H.1 361 9))]) (st' := []) rfl ?_
    refine k_run 1 (pc' := 45) (l' := [(0, .inr (.inr 361)), (1, .inl a), (2, .inl (H.1 361 9))]) (st' := [.inl (H.1 361 9)]) rfl ?_
    refine h_reti (x := (H.1 361 9)) rfl rfl ?_
    rw [hQ9]
    exact ⟨_, rfl, (by omega), hI32, hf35, hp36, (by first | (exfalso; omega) | exact ⟨by omega, (((hw33.2 _ _ (fun q => absurd q.1 (by first | decide | omega))).trans ((hw24.2 _ _ (fun q => absurd q.1 (by first | decide | omega))).trans hv15))).trans hx10, (by rw [← ee9]; exact ((hw33.2 _ _ (fun q => absurd q.1 (by first | decide | omega))).trans hv25)), (by have h9 := hv34; omega)⟩)⟩

theorem xvar_r (X : rx) (x ty : Int) {c : Nat} (h0 : c ≠ 0) (h1 : c ≠ 10) (h2 : c ≠ 11) : xvar X x ty c = X c := by
  unfold xvar
  rw [xu_ne _ _ _ h0, xu_ne _ _ _ h2, xu_ne _ _ _ h1]
theorem xvar_0 (X : rx) (x ty : Int) {j : Nat} (h : j ≠ 1) : xvar X x ty 0 j = X 0 j := by
  unfold xvar
  rw [xu_0 _ _ (fun q => h q.2), xu_0 _ _ (fun q => by cases q.1), xu_0 _ _ (fun q => by cases q.1)]
theorem xvar_s (X : rx) (x ty : Int) : xvar X x ty 0 1 = X 0 1 + 1 ∧ xvar X x ty 10 = up (X 10) (X 0 1).toNat x ∧ xvar X x ty 11 = up (X 11) (X 0 1).toNat ty := by
  unfold xvar
  refine ⟨xu_1 _ _ _ _, ?_, ?_⟩
  · rw [xu_ne _ _ _ (by decide), xu_ne _ _ _ (by decide), xu_eq]
  · rw [xu_ne _ _ _ (by decide), xu_eq]
    rfl
theorem RT_var {Y : yx} {q : Nat} {H H1 : hp} {X : rx} {x ty : Int} (h : RT Y q H X) (hm : X 0 8 ≠ 2) (f : fw [(362, (H.1 361 9).toNat), (H.2 361 7 + 5, (H.1 361 9).toNat), (361, 9)] H H1) (h1 : H1.1 362 (H.1 361 9).toNat = x) (h2 : H1.1 (H.2 361 7 + 5) (H.1 361 9).toNat = ty) (h3 : H1.1 361 9 = H.1 361 9 + 1) (hn : X 0 1 < 40) : RT Y q H1 (xvar X x ty) := by
  obtain ⟨hB, ⟨v1, ⟨k, hk, ek⟩, v3⟩, s1, s2, s3⟩ := h
  have e2 : H1.2 = H.2 := f.1
  obtain ⟨w1, w2⟩ := v3 hm
  obtain ⟨-, -, n1, n2, n3, n4, n5⟩ := TQ_nB s1 0
  have n6 := n5 k hk
  have hp : ∀ p ∈ [(362, (H.1 361 9).toNat), (H.2 361 7 + 5, (H.1 361 9).toNat), (361, 9)], nB p := by
    intro p hp
    simp only [List.mem_cons, List.not_mem_nil, or_false] at hp
    rcases hp with rfl | rfl | rfl
    · unfold nB nT; simp
    · unfold nB nT; simp only; omega
    · unfold nB nT; simp
  have hA := RB_fw hB f hp (f.2 361 3 (by simp; omega))
  obtain ⟨x1, x2, x3⟩ := xvar_s X x ty
  refine ⟨⟨hA.1, TC_sT hA.2.1 ⟨fun c c1 c2 => xvar_r X x ty (by omega) (by omega) (by omega), xvar_r X x ty (by decide) (by decide) (by decide), fun j j1 j2 => xvar_0 X x ty (by omega)⟩, by rw [xvar_0 X x ty (by decide)]; exact hA.2.2.1, hA.2.2.2⟩, ⟨?_, ?_, fun _ => ⟨?_, fun v hv => ?_⟩⟩, ?_, ?_, fun j hj => ?_⟩
  · rw [xvar_0 X x ty (by decide), f.2 361 6 (by simp; omega)]
    exact v1
  · rw [e2]
    exact ⟨k, hk, ek⟩
  · rw [x1, h3]
    omega
  · rw [x1] at hv
    rw [x2, x3, e2]
    by_cases e : v = (X 0 1).toNat
    · rw [e, up_eq, up_eq, ← w1.1]
      exact ⟨h1, h2⟩
    · rw [up_ne _ _ e, up_ne _ _ e, f.2 362 v (by simp; omega), f.2 _ v (by simp; omega)]
      exact w2 v (by omega)
  · rw [e2]
    exact s1
  · rw [e2, xvar_0 X x ty (by decide), f.2 _ 1 (by simp; omega)]
    exact s2
  · rw [xvar_0 X x ty (by decide)] at hj
    rw [e2, xvar_r X x ty (by decide) (by decide) (by decide), kcd_cg (X := X) (xvar_r X x ty (by decide) (by decide) (by decide)) (xvar_r X x ty (by decide) (by decide) (by decide)), f.2 _ j (by simp; omega)]
    exact s3 j hj
theorem RT_vf {Y : yx} {q : Nat} {H : hp} {X : rx} (h : RT Y q H X) (h1 : tk Y (xi X) ≠ 1) (h0 : tk Y (xi X) ≠ 0) (hm : X 0 8 ≠ 2) : fnd (H.1 362) (H.1 361 9) (H.1 6 (H.1 361 3).toNat) = fnd (X 10) (X 0 1) (tn Y (xi X)) := by
  obtain ⟨w1, w2⟩ := h.2.1.2.2 hm
  rw [RB_tn h.1 h1 h0, w1.1]
  exact fnd_cg (fun v hv => (w2 v hv).1)
theorem RT_vt {Y : yx} {q : Nat} {H : hp} {X : rx} (h : RT Y q H X) (hm : X 0 8 ≠ 2) {x : Int} (h0 : 0 ≤ fnd (X 10) (X 0 1) x) : H.1 (H.2 361 7 + 5) (fnd (X 10) (X 0 1) x).toNat = X 11 (fnd (X 10) (X 0 1) x).toNat := by
  obtain ⟨w1, w2⟩ := h.2.1.2.2 hm
  have hb := fnd_b (X 10) (X 0 1) x
  exact (w2 _ (by omega)).2
theorem kcd_v (X : rx) {v : Int} (h : 0 ≤ v) : kcd X (1000 + v) = kco 3 v 0 := by
  unfold kcd
  rw [if_neg (by omega), if_pos (by omega), show 1000 + v - 1000 = v by omega]
theorem kcd_f (X : rx) {v : Int} (h : 0 ≤ v ∧ v < 100) : kcd X (100 + v) = kco 2 v (X 8 v.toNat) := by
  unfold kcd
  rw [if_neg (by omega), if_neg (by omega), if_pos (by omega), show 100 + v - 100 = v by omega]
theorem kcd_c (X : rx) {v : Int} (h : 0 ≤ v ∧ v < 90) : kcd X (1 + v) = kco 1 v (X 4 v.toNat) := by
  unfold kcd
  rw [if_neg (by omega), if_neg (by omega), if_neg (by omega), show 1 + v - 1 = v by omega]
theorem nF45 : ∀ p ∈ [(361, 4), (361, 5)], nT p := by
  intro p hp
  simp only [List.mem_cons, List.not_mem_nil, or_false] at hp
  rcases hp with rfl | rfl <;> (unfold nT; simp)
/-- a task is done, or there is a fault -/
def OT (Y : yx) (q : Nat) (c0 : cf) (K : List tq) (P : rx → Prop) (z : Int) (H : hp) : Prop := (z = 1 ∧ ∃ X, rch Y c0 (K, X) ∧ RT Y q H X ∧ P X) ∨ (z = 0 ∧ FB Y c0 H)
/-- what is read stays; in patterns there are more names than variables -/
def PM (m : Int) (X : rx) : Prop := X 0 8 = m
def PP (s0 : Int) (X : rx) : Prop := X 0 8 = 0 ∧ X 0 1 < X 0 2 ∧ 0 ≤ X 0 1 ∧ X 13 0 = s0
theorem RT_TQ {Y : yx} {q : Nat} {H : hp} {X : rx} (h : RT Y q H X) : TQ (H.2 361 8) := h.2.2.1
theorem RB_var {Y : yx} {q : Nat} {H H1 : hp} {X : rx} (h : RT Y q H X) (f : fw [(362, (H.1 361 9).toNat), (H.2 361 7 + 5, (H.1 361 9).toNat), (361, 9)] H H1) : RB Y q H1 X := by
  obtain ⟨hB, ⟨v1, ⟨k, hk, ek⟩, v3⟩, s1, s2, s3⟩ := h
  have hp : ∀ p ∈ [(362, (H.1 361 9).toNat), (H.2 361 7 + 5, (H.1 361 9).toNat), (361, 9)], nB p := by
    intro p hp
    simp only [List.mem_cons, List.not_mem_nil, or_false] at hp
    rcases hp with rfl | rfl | rfl
    · unfold nB nT; simp
    · unfold nB nT; simp only; omega
    · unfold nB nT; simp
  exact RB_fw hB f hp (f.2 361 3 (by simp; omega))
