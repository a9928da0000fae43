/-! the class reads a term to be worked out, as the machine does -/
theorem isE_all : (List.range 1826).all (fun e => !(q_o (kK e) (kEo e)) || (Nat.ble 25 e && (Nat.blt e 361 && Nat.beq ((e - 25) % 6) 0))) = true := by decide +kernel
theorem q_sh_rf : ∀ x : zsh, q_sh x x = true
  | .inl (c, ds) => by
    show (Nat.beq c c && q_l q_ds ds ds) = true
    rw [Nat.beq_refl, Bool.true_and]
    induction ds with
    | nil => rfl
    | cons a l ih =>
      show (q_ds a a && q_l q_ds l l) = true
      rw [ih, Bool.and_true]
      cases a with
      | inl t => exact decide_eq_true rfl
      | inr n => exact Nat.beq_refl n
  | .inr (t, n) => by
    show (decide (t = t) && Nat.beq n n) = true
    rw [decide_eq_true rfl, Nat.beq_refl]
    rfl
theorem q_o_rf (x : kx) (h1 : q_l q_ii x.2.1 x.2.1 = true) (h2 : q_l Nat.beq x.2.2.1 x.2.2.1 = true) : q_o (some x) x = true := by
  show (q_sh x.1 x.1 && (q_l q_ii x.2.1 x.2.1 && (q_l Nat.beq x.2.2.1 x.2.2.1 && Nat.beq x.2.2.2 x.2.2.2))) = true
  rw [q_sh_rf, h1, h2, Nat.beq_refl]
  rfl
theorem isE_at {e : Nat} (h : isE e) : ∃ k : Nat, k < 56 ∧ e = 25 + 6 * k := by
  have h1 := List.all_eq_true.mp isE_all e (List.mem_range.mpr (by have := h.2.2.2.2.2; omega))
  rw [h.1, q_o_rf (kEo e) rfl rfl] at h1
  simp only [Bool.not_true, Bool.false_or, Bool.and_eq_true] at h1
  have h2 := Nat.le_of_ble_eq_true h1.1
  have h3 : e < 361 := Nat.le_of_ble_eq_true h1.2.1
  have h4 := Nat.eq_of_beq_eq_true h1.2.2
  exact ⟨(e - 25) / 6, by omega, by omega⟩
theorem Inv_eq {H : hp} (hI : Inv H) : ∃ k : Nat, k < 56 ∧ H.2 361 7 = 25 + 6 * k := isE_at (show isE (H.2 361 7) from kr (x := kx_361) hI rfl 7)
/-- a term alone is begun -/
theorem RT_work {Y : yx} {q : Nat} {H H1 H2 : hp} {X : rx} (h : RB Y q H X) (hI : Inv H2) (w : wr 361 6 H H1) (v : H1.1 361 6 = 2) (g : S9 1824 H1 H2) : RT Y q H2 (xu (xu X 0 2 0) 0 8 2) := by
  obtain ⟨g1, g2, g3, g4⟩ := g
  have hg : ∀ c j, c ≠ 361 → c ≠ 1824 → H2.1 c j = H.1 c j := fun c j a b => (g1 c j (fun q => b q.1)).trans (w.2 c j (fun q => a q.1))
  have er : ∀ c, c ≠ 0 → xu (xu X 0 2 0) 0 8 2 c = X c := fun c a => (xu_ne _ _ _ a).trans (xu_ne _ _ _ a)
  have e0 : ∀ j, j ≠ 2 → j ≠ 8 → xu (xu X 0 2 0) 0 8 2 0 j = X 0 j := fun j a b => (xu_0 _ _ (fun q => b q.2)).trans (xu_0 _ _ (fun q => a q.2))
  have e2 : xu (xu X 0 2 0) 0 8 2 0 2 = 0 := (xu_0 _ _ (fun q => by cases q.2)).trans (xu_1 _ _ _ _)
  have e8 : xu (xu X 0 2 0) 0 8 2 0 8 = 2 := xu_1 _ _ _ _
  refine ⟨⟨KC_cg h.1 (fun c j hc => hg c j (by omega) (by omega)), TC_sT (TC_cg h.2.1 (fun c j h1 h2 => hg c j (by omega) (by omega)) (fun l hl => hg _ 5 (by omega) (by omega))) ⟨fun c c1 c2 => er c (by omega), er 12 (by decide), fun j j1 j2 => e0 j (by omega) (by omega)⟩, ?_, ER_cg h.2.2.2 (fun c j hc => (g3 c j (fun q => hc q.1)).trans (by rw [w.1]))⟩, ⟨?_, Inv_eq hI, fun hm => absurd e8 hm⟩, ?_, ?_, fun j hj => ?_⟩
  · rw [e0 0 (by decide) (by decide), g1 361 3 (fun q => absurd q.1 (by decide)), w.2 361 3 (fun q => absurd q.2 (by decide))]
    exact h.2.2.1
  · rw [e8, g1 361 6 (fun q => absurd q.1 (by decide))]
    exact v
  · rw [g4]
    exact Or.inl rfl
  · rw [g4, g2, e2]
    omega
  · rw [e2] at hj
    exact absurd hj (by omega)
/-- what a term comes to: read, or a fault; nothing is told -/
def RW9 (Y : yx) (X : rx) (z : Int) (H : hp) : Prop := (∃ (q : Nat) (X1 : rx), z = 0 ∧ rch Y ([(2, -1, 0, 0), (1, 0, 0, 0)], xu (xu X 0 2 0) 0 8 2) ([(1, 0, 0, 0)], X1) ∧ tk Y (xi X1) = 0 ∧ TC H X1 ∧ RZ H X1 ∧ ER H) ∨ ∃ Xf k p X2 K2, rch Y ([(2, -1, 0, 0), (1, 0, 0, 0)], xu (xu X 0 2 0) 0 8 2) ([(0, k, p, 0)], Xf) ∧ z = -1000 - p ∧ (0 ≤ p ∧ p ≤ 1000) ∧ H.1 361 4 = k ∧ rch Y ([(2, -1, 0, 0), (1, 0, 0, 0)], xu (xu X 0 2 0) 0 8 2) (K2, X2) ∧ TC H X2 ∧ ER H

/-! Reader.readClosedTerm -/
set_option maxRecDepth 100000 in
set_option maxHeartbeats 4000000 in
theorem q_Reader_readClosedTerm {X : rx} {d : Nat} (hd : 41 ≤ d) {H : hp} (hI : Inv H) {t n : Nat} (ht : isT t n) (ht18 : t = 1824) (hT : TC H X) (hE : ER H) (hX0 : X 0 0 = 0) : hG (zs zK) d mt_63 0 (zargs 0 [.inr (.inr 361), .inr (.inr t)]) [] H (fun r9 H9 => ∃ z : Int, r9 = some (.inl z) ∧ ((-2147483648 ≤ z ∧ z ≤ 2147483647)) ∧ Inv H9 ∧ fq [(2, 5), (361, 3), (361, 4), (361, 5), (361, 6), (361, 8), (361, 9)] [4, 5, 6, 362] true H H9 ∧ ((RW9 (H.1 3, (H.1 2 1).toNat) X z H9) ∧ NE 0 H H9 ∧ H9.2 361 8 = t)) := by
  have htb := ht.2.2.2.2
  obtain ⟨Q9, hQ9⟩ : ∃ Q9 : Option zv → hp → Prop, Q9 = (fun r9 H9 => ∃ z : Int, r9 = some (.inl z) ∧ ((-2147483648 ≤ z ∧ z ≤ 2147483647)) ∧ Inv H9 ∧ fq [(2, 5), (361, 3), (361, 4), (361, 5), (361, 6), (361, 8), (361, 9)] [4, 5, 6, 362] true H H9 ∧ ((RW9 (H.1 3, (H.1 2 1).toNat) X z H9) ∧ NE 0 H H9 ∧ H9.2 361 8 = t)) := ⟨_, rfl⟩
  rw [← hQ9]
  refine k_run 0 (pc' := 0) (l' := [(0, .inr (.inr 361)), (1, .inr (.inr t))]) (st' := []) rfl ?_
  refine k_run 2 (pc' := 4) (l' := [(0, .inr (.inr 361)), (1, .inr (.inr t))]) (st' := [.inr (.inr 2)]) rfl ?_
  refine h_cv (i := 64) (j := 27) (b := 2) (M' := mt_27) (xs := []) (rest := []) rfl rfl rfl rfl (zs_K (x := kx_2) rfl (by decide)) rfl (Nat.le_of_ble_eq_true rfl) (Nat.le_of_ble_eq_true rfl) (by omega) (q_Tape_cut (by omega) hI ) ?_
  rintro _ H2 ⟨rfl, hI3, hq4, hx6⟩
  have hf7 : fq [(2, 5), (361, 3), (361, 4), (361, 5), (361, 6), (361, 8), (361, 9)] [4, 5, 6, 362] true H H2 := fq_t (fq_rf _ _ _ _) hq4 rfl rfl rfl
  refine k_run 0 (pc' := 7) (l' := [(0, .inr (.inr 361)), (1, .inr (.inr t))]) (st' := []) rfl ?_
  obtain ⟨⟨q, hq⟩, hN4⟩ := hx6
  have hT1 := TC_cut hT hq4
  have hE1 := ER_cut hE hq4
  refine k_run 2 (pc' := 9) (l' := [(0, .inr (.inr 361)), (1, .inr (.inr t))]) (st' := [.inl 0, .inr (.inr 361)]) rfl ?_
  refine k_puti (z := 0) (a := 361) (x := kx_361) rfl rfl rfl (by decide) (by decide) rfl rfl rfl rfl hI3 (by decide) (show -2147483648 ≤ (0 : Int) ∧ (0 : Int) ≤ 2147483647 by omega) (fun H8 hI9 hw10 hv11 => ?_)
  have hf12 : fq [(2, 5), (361, 3), (361, 4), (361, 5), (361, 6), (361, 8), (361, 9)] [4, 5, 6, 362] true H H8 := fq_w hf7 hw10 (fpo (by decide) rfl)
  refine k_run 0 (pc' := 12) (l' := [(0, .inr (.inr 361)), (1, .inr (.inr t))]) (st' := []) rfl ?_
  have hNa := NE_tr hN4 (NE_w hw10 (sc_no (by omega)))
  have hB0 : RB (H.1 3, (H.1 2 1).toNat) q H8 X := ⟨KC_fw hq (fw_w (fw_rf [(361, 3)] _) hw10 (by simp)) (by simp), TC_fw hT1 (fw_w (fw_rf [(361, 3)] _) hw10 (by simp)) (fun p m => (nB3 p m).1), by rw [hv11, hX0]; omega, ER_fw hE1 (fw_w (fw_rf [(361, 3)] _) hw10 (by simp))⟩
  refine k_run 2 (pc' := 14) (l' := [(0, .inr (.inr 361)), (1, .inr (.inr t))]) (st' := [.inl 2, .inr (.inr 361)]) rfl ?_
  refine k_puti (z := 2) (a := 361) (x := kx_361) rfl rfl rfl (by decide) (by decide) rfl rfl rfl rfl hI9 (by decide) (show -2147483648 ≤ (2 : Int) ∧ (2 : Int) ≤ 2147483647 by omega) (fun H13 hI14 hw15 hv16 => ?_)
  have hf17 : fq [(2, 5), (361, 3), (361, 4), (361, 5), (361, 6), (361, 8), (361, 9)] [4, 5, 6, 362] true H H13 := fq_w hf12 hw15 (fpo (by decide) rfl)
  refine k_run 0 (pc' := 17) (l' := [(0, .inr (.inr 361)), (1, .inr (.inr t))]) (st' := []) rfl ?_
  refine k_run 2 (pc' := 19) (l' := [(0, .inr (.inr 361)), (1, .inr (.inr t))]) (st' := [.inr (.inr t), .inr (.inr 361)]) rfl ?_
  refine h_cv (i := 105) (j := 81) (b := 361) (M' := mt_81) (xs := [.inr (.inr t)]) (rest := []) rfl rfl rfl rfl (zs_K (x := kx_361) rfl (by decide)) rfl (Nat.le_of_ble_eq_true rfl) (Nat.le_of_ble_eq_true rfl) (by omega) (q_Reader_startTerm (by omega) hI14 ht) ?_
  rintro _ H19 ⟨rfl, hI20, hq21, hx23⟩
  have hf24 : fq [(2, 5), (361, 3), (361, 4), (361, 5), (361, 6), (361, 8), (361, 9)] [4, 5, 6, 362] true H H19 := fq_t hf17 hq21 rfl rfl rfl
  refine k_run 0 (pc' := 22) (l' := [(0, .inr (.inr 361)), (1, .inr (.inr t))]) (st' := []) rfl ?_
  have h8w : H19.2 361 8 = t := hx23.2.2.2
  have hNb := NE_tr (NE_tr hNa (NE_w hw15 (sc_no (by omega)))) (fun c j h1 _ => hx23.1 c j (fun q9 => by have h9 := sc_lt h1; have h8 := q9.1; omega))
  have hR : RT (H.1 3, (H.1 2 1).toNat) q H19 (xu (xu X 0 2 0) 0 8 2) := RT_work hB0 hI20 hw15 hv16 (ht18 ▸ hx23)
  refine k_run 4 (pc' := 26) (l' := [(0, .inr (.inr 361)), (1, .inr (.inr t))]) (st' := [.inl 0, .inl 0, .inl (-1), .inr (.inr 361)]) rfl ?_
  refine h_cv (i := 109) (j := 73) (b := 361) (M' := mt_73) (xs := [.inl 0, .inl 0, .inl (-1)]) (rest := []) rfl rfl rfl rfl (zs_K (x := kx_361) rfl (by decide)) rfl (Nat.le_of_ble_eq_true rfl) (Nat.le_of_ble_eq_true rfl) (by omega) (q_Reader_readTerm (by omega) hI20 (by decide) (by decide) (by decide) (by omega) hR (show rch (H.1 3, (H.1 2 1).toNat) ([(2, -1, 0, 0), (1, 0, 0, 0)], xu (xu X 0 2 0) 0 8 2) ((2, -1, 0, 0) :: [(1, 0, 0, 0)], xu (xu X 0 2 0) 0 8 2) from rch_rf _ _)) ?_
  rintro _ H26 ⟨z31, rfl, g25, hI27, hq28, hx30⟩
  have hf32 : fq [(2, 5), (361, 3), (361, 4), (361, 5), (361, 6), (361, 8), (361, 9)] [4, 5, 6, 362] true H H26 := fq_t hf24 hq28 rfl rfl rfl
  refine k_run 0 (pc' := 29) (l' := [(0, .inr (.inr 361)), (1, .inr (.inr t))]) (st' := [.inl z31]) rfl ?_
  refine h_zeq (off := 15) (t := 44) rfl rfl (by omega) (fun c33 => ?_) (fun c33 => ?_)
  · refine k_run 0 (pc' := 44) (l' := [(0, .inr (.inr 361)), (1, .inr (.inr t))]) (st' := []) rfl ?_
    refine k_run 3 (pc' := 47) (l' := [(0, .inr (.inr 361)), (1, .inr (.inr t)), (2, .inl 0)]) (st' := [.inl 0]) rfl ?_
    refine h_zeq (off := 7) (t := 54) rfl rfl (by decide) (fun _ => ?_) (fun c => absurd c (by decide))
    refine k_run 0 (pc' := 54) (l' := [(0, .inr (.inr 361)), (1, .inr (.inr t)), (2, .inl 0)]) (st' := []) rfl ?_
    have hFB : FB (H.1 3, (H.1 2 1).toNat) ([(2, -1, 0, 0), (1, 0, 0, 0)], xu (xu X 0 2 0) 0 8 2) H26 := (Or.resolve_left hx30.1 (fun q9 => by have := q9.1; omega)).2
    obtain ⟨Xf, X9, K9, kk, pp, f1, f2, f3, f4, f5, f6, f7⟩ := hFB
    refine k_run 3 (pc' := 61) (l' := [(0, .inr (.inr 361)), (1, .inr (.inr t)), (2, .inl 0)]) (st' := [.inl (H26.1 361 5), .inl (-1000)]) rfl ?_
    have g34 : -2147483648 ≤ (H26.1 361 5) ∧ (H26.1 361 5) ≤ 2147483647 := kn (x := kx_361) hI27 rfl 5
    refine k_run 1 (pc' := 62) (l' := [(0, .inr (.inr 361)), (1, .inr (.inr t)), (2, .inl 0)]) (st' := [.inl ((-1000) - (H26.1 361 5))]) rfl ?_
    refine h_reti (x := ((-1000) - (H26.1 361 5))) rfl rfl ?_
    rw [hQ9]
    exact ⟨_, rfl, (by omega), hI27, hf32, (by first | (exfalso; omega) | exact ⟨(Or.inr ⟨Xf, kk, pp, X9, K9, f1, by omega, f7, f5, f2, f3, f4⟩), NE_tr hNb (fun c j h1 _ => hx30.2.2 c j h1 (by have h9 := sc_lt h1; omega) (by have h9 := sc_lt h1; omega) (Or.inr (hR.2.1.1.trans (xu_1 _ _ _ _)))), (hx30.2.1.1.trans h8w)⟩)⟩
  · refine k_run 0 (pc' := 32) (l' := [(0, .inr (.inr 361)), (1, .inr (.inr t))]) (st' := []) rfl ?_
    obtain ⟨X2, k1, k2, k3⟩ := (Or.resolve_right hx30.1 (fun q9 => by have := q9.1; omega)).2
    have hpa2 := RB_pa k2.1
    have htk2 := RB_tk k2.1
    refine k_run 2 (pc' := 34) (l' := [(0, .inr (.inr 361)), (1, .inr (.inr t))]) (st' := [.inl 0, .inr (.inr 361)]) rfl ?_
    have g35 : -2147483648 ≤ (H26.1 361 3) ∧ (H26.1 361 3) ≤ 2147483647 := kn (x := kx_361) hI27 rfl 3
    have g36 : 0 ≤ (H26.1 2 5) ∧ (H26.1 2 5) ≤ 1001 := kn (x := kx_2) hI27 rfl 5
    have e37 : (H26.1 2 5) = (H19.1 2 5) := (hq28.1 2 5 rfl (by decide) (by decide)).1
    have e38 : (H19.1 2 5) = (H13.1 2 5) := (hq21.1 2 5 rfl (by decide) (by decide)).1
    have e39 : (H13.1 2 5) = (H8.1 2 5) := hw15.2 _ _ (fun q => absurd q.1 (by decide))
    have e40 : (H8.1 2 5) = (H2.1 2 5) := hw10.2 _ _ (fun q => absurd q.1 (by decide))
    refine h_cv (i := 92) (j := 82) (b := 361) (M' := mt_82) (xs := [.inl 0]) (rest := []) rfl rfl rfl rfl (zs_K (x := kx_361) rfl (by decide)) rfl (Nat.le_of_ble_eq_true rfl) (Nat.le_of_ble_eq_true rfl) (by omega) (q_Reader_take (by omega) hI27 (by decide) (by omega)) ?_
    rintro _ H42 ⟨z47, rfl, g41, hI43, hq44, hp45, hx46⟩
    have hf48 : fq [(2, 5), (361, 3), (361, 4), (361, 5), (361, 6), (361, 8), (361, 9)] [4, 5, 6, 362] true H H42 := fq_t hf32 hq44 rfl rfl rfl
    refine k_run 0 (pc' := 37) (l' := [(0, .inr (.inr 361)), (1, .inr (.inr t))]) (st' := [.inl z47]) rfl ?_
    refine h_zeq (off := 7) (t := 44) rfl rfl (by omega) (fun c49 => ?_) (fun c49 => ?_)
    · refine k_run 0 (pc' := 44) (l' := [(0, .inr (.inr 361)), (1, .inr (.inr t))]) (st' := []) rfl ?_
      refine k_run 3 (pc' := 47) (l' := [(0, .inr (.inr 361)), (1, .inr (.inr t)), (2, .inl 0)]) (st' := [.inl 0]) rfl ?_
      refine h_zeq (off := 7) (t := 54) rfl rfl (by decide) (fun _ => ?_) (fun c => absurd c (by decide))
      refine k_run 0 (pc' := 54) (l' := [(0, .inr (.inr 361)), (1, .inr (.inr t)), (2, .inl 0)]) (st' := []) rfl ?_
      rw [htk2] at hx46
      have hFB : FB (H.1 3, (H.1 2 1).toNat) ([(2, -1, 0, 0), (1, 0, 0, 0)], xu (xu X 0 2 0) 0 8 2) H42 := Or.elim hx46 (fun e => absurd e.1 (by omega)) (fun e => FB_mk k2.1 hp45 nT345 (rch_st k1 (by show (if tk (H.1 3, (H.1 2 1).toNat) (xi X2) = 0 then _ else _) = _; rw [if_neg e.2.1]; rfl)) e.2.2.2.1 e.2.2.2.2)
      obtain ⟨Xf, X9, K9, kk, pp, f1, f2, f3, f4, f5, f6, f7⟩ := hFB
      refine k_run 3 (pc' := 61) (l' := [(0, .inr (.inr 361)), (1, .inr (.inr t)), (2, .inl 0)]) (st' := [.inl (H42.1 361 5), .inl (-1000)]) rfl ?_
      have g50 : -2147483648 ≤ (H42.1 361 5) ∧ (H42.1 361 5) ≤ 2147483647 := kn (x := kx_361) hI43 rfl 5
      refine k_run 1 (pc' := 62) (l' := [(0, .inr (.inr 361)), (1, .inr (.inr t)), (2, .inl 0)]) (st' := [.inl ((-1000) - (H42.1 361 5))]) rfl ?_
      refine h_reti (x := ((-1000) - (H42.1 361 5))) rfl rfl ?_
      rw [hQ9]
      exact ⟨_, rfl, (by omega), hI43, hf48, (by first | (exfalso; omega) | exact ⟨(Or.inr ⟨Xf, kk, pp, X9, K9, f1, by omega, f7, f5, f2, f3, f4⟩), NE_tr (NE_tr hNb (fun c j h1 _ => hx30.2.2 c j h1 (by have h9 := sc_lt h1; omega) (by have h9 := sc_lt h1; omega) (Or.inr (hR.2.1.1.trans (xu_1 _ _ _ _))))) (NE_fwo hp45 (by simp)), ((congrFun (congrFun hp45.1 361) 8).trans (hx30.2.1.1.trans h8w))⟩)⟩
    · refine k_run 0 (pc' := 40) (l' := [(0, .inr (.inr 361)), (1, .inr (.inr t))]) (st' := []) rfl ?_
      refine k_run 4 (pc' := 47) (l' := [(0, .inr (.inr 361)), (1, .inr (.inr t)), (2, .inl 1)]) (st' := [.inl 1]) rfl ?_
      refine h_zeq (off := 7) (t := 54) rfl rfl (by decide) (fun c => absurd c (by decide)) (fun _ => ?_)
      refine k_run 0 (pc' := 50) (l' := [(0, .inr (.inr 361)), (1, .inr (.inr t)), (2, .inl 1)]) (st' := []) rfl ?_
      refine k_run 2 (pc' := 62) (l' := [(0, .inr (.inr 361)), (1, .inr (.inr t)), (2, .inl 1)]) (st' := [.inl 0]) rfl ?_
      refine h_reti (x := 0) rfl rfl ?_
      rw [hQ9]
      rw [htk2] at hx46
      exact ⟨_, rfl, (by omega), hI43, hf48, (by first | (exfalso; omega) | exact ⟨(Or.inl ⟨q, X2, rfl, k1, (Or.resolve_right hx46 (fun q9 => by have := q9.1; omega)).2.1, TC_fw k2.1.2.1 hp45 nT345, (by obtain ⟨s1, s2, s3⟩ := k2.2.2; have e2 := hp45.1; obtain ⟨-, -, n1, n2, -⟩ := TQ_nB s1 0; unfold RZ; rw [e2]; exact ⟨s1, by rw [hp45.2 _ 1 (by first | (simp; done) | (simp; omega))]; exact s2, fun k hk => by rw [hp45.2 _ k (by first | (simp; done) | (simp; omega))]; exact s3 k hk⟩), ER_fw k2.1.2.2.2 hp45⟩), NE_tr (NE_tr hNb (fun c j h1 _ => hx30.2.2 c j h1 (by have h9 := sc_lt h1; omega) (by have h9 := sc_lt h1; omega) (Or.inr (hR.2.1.1.trans (xu_1 _ _ _ _))))) (NE_fwo hp45 (by simp)), ((congrFun (congrFun hp45.1 361) 8).trans (hx30.2.1.1.trans h8w))⟩)⟩
