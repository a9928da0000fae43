/-! two things told of one run: both hold -/
theorem i32_in {x y : Int} (hx : -2147483648 ≤ x ∧ x ≤ 2147483647) (hy : -2147483648 ≤ y ∧ y ≤ 2147483647) (h : Int32.ofInt x = Int32.ofInt y) : x = y := by
  have q := congrArg Int32.toInt h
  rw [Int32.toInt_ofInt_of_le (by omega) (by omega), Int32.toInt_ofInt_of_le (by omega) (by omega)] at q
  exact q
theorem zs_361 : ∃ ds : List zsd, zs zK 361 = some (.inl (6, ds)) ∧ ds[4]? = some (.inl .int) := ⟨_, rfl, rfl⟩
theorem h_fk {d : Nat} {M : am_M} {l : zl} {H : hp} {P : Int → hp → Prop} {R : hp → Prop} {C : Int → Prop} (h1 : hG (zs zK) d M 0 l [] H (fun r9 H9 => ∃ z : Int, r9 = some (.inl z) ∧ ((-2147483648 ≤ z ∧ z ≤ 2147483647)) ∧ P z H9)) (h2 : hG (zs zK) d M 0 l [] H (fun r9 H9 => ∃ z : Int, r9 = some (.inl z) ∧ ((-2147483648 ≤ z ∧ z ≤ 2147483647) ∧ (C z ∨ H9.1 361 4 = H.1 361 4)) ∧ R H9)) : hG (zs zK) d M 0 l [] H (fun r9 H9 => ∃ z : Int, r9 = some (.inl z) ∧ ((-2147483648 ≤ z ∧ z ≤ 2147483647)) ∧ P z H9 ∧ (C z ∨ H9.1 361 4 = H.1 361 4)) := by
  intro S lc hz hl
  obtain ⟨f1, r1, S1, c1, n1, e1, hc1, hn1, r1', K1, hr1, hz1, hk1, z, hz9, hr, hP⟩ := h1 S lc hz hl
  obtain ⟨f2, r2, S2, c2, n2, e2, hc2, hn2, r2', K2, hr2, hz2, hk2, z2, hz92, ⟨hrr, hC⟩, -⟩ := h2 S lc hz hl
  subst hz9 hz92
  have d1 := am_run_le e1 f2
  have d2 := am_run_le e2 f1
  rw [Nat.add_comm f2 f1, d1] at d2
  have d3 := Option.some.inj d2
  have dr : r1 = r2 := congrArg (fun q => q.1) d3
  have ds : S1 = S2 := congrArg (fun q => q.2.1) d3
  have ez : z = z2 := by
    rw [hr1, hr2] at dr
    have q : Value.int (Int32.ofInt z) = Value.int (Int32.ofInt z2) := Option.some.inj dr
    injection q with q
    exact i32_in hr hrr q
  subst ez
  subst ds
  refine ⟨f1, r1, S1, c1, n1, e1, hc1, hn1, _, K1, hr1, hz1, hk1, z, rfl, hr, hP, hC.imp id (fun q => ?_)⟩
  obtain ⟨dd, hs, hd⟩ := zs_361
  obtain ⟨⟨w1, fs1, a1, -, b1⟩, g1⟩ := hz1 _ _ hs
  obtain ⟨⟨w2, fs2, a2, -, b2⟩, g2⟩ := hz2 _ _ hs
  rw [a1] at a2
  cases a2
  have q1 := b1 4 _ hd
  rw [b2 4 _ hd] at q1
  have q2 : Value.int (Int32.ofInt (K2.1 361 4)) = Value.int (Int32.ofInt (K1.1 361 4)) := Option.some.inj q1
  injection q2 with q2
  have q3 := i32_in (g2 4 .int hd) (g1 4 .int hd) q2
  rw [← q3]
  exact q

theorem q_closed {X : rx} {d : Nat} (hd : 41 ≤ d) {H : hp} (hI : Inv H) {t n : Nat} (ht : isT t n) (ht18 : t = 1824) (hT : TC H X) (hE : ER H) (hX0 : X 0 0 = 0) : hG (zs zK) d mt_63 0 (zargs 0 [.inr (.inr 361), .inr (.inr t)]) [] H (fun r9 H9 => ∃ z : Int, r9 = some (.inl z) ∧ ((-2147483648 ≤ z ∧ z ≤ 2147483647)) ∧ Inv H9 ∧ fq [(2, 5), (361, 3), (361, 4), (361, 5), (361, 6), (361, 8), (361, 9)] [4, 5, 6, 362] true H H9 ∧ (RW9 (H.1 3, (H.1 2 1).toNat) X z H9 ∧ (z ≠ 0 ∨ H9.1 361 4 = H.1 361 4))) := by
  refine h_mono (h_fk (q_Reader_readClosedTerm hd hI ht ht18 hT hE hX0) (f_Reader_readClosedTerm hd hI ht)) (fun r K h => ?_)
  obtain ⟨z, h1, h2, ⟨h3, h4, h5⟩, h6⟩ := h
  exact ⟨z, h1, h2, h3, h4, h5, h6⟩
/-- work's reading: no fault, or the machine's -/
def RCW (Y : yx) (X : rx) (x : Int) (H K : hp) : Prop := ((x < 0 ∨ 2000 < x) ∧ K.1 361 4 = H.1 361 4) ∨ ((0 ≤ x ∧ x ≤ 2000) ∧ ((K.1 361 4 = H.1 361 4 ∧ ∃ X1 : rx, rch Y ([(2, -1, 0, 0), (1, 0, 0, 0)], xu (xu X 0 2 0) 0 8 2) ([(1, 0, 0, 0)], X1) ∧ tk Y (xi X1) = 0) ∨ ∃ (Xf : rx) (p : Int), rch Y ([(2, -1, 0, 0), (1, 0, 0, 0)], xu (xu X 0 2 0) 0 8 2) ([(0, K.1 361 4, p, 0)], Xf)))
theorem RCW_of {Y : yx} {X : rx} {x z : Int} {H H1 K : hp} (h : RW9 Y X z H1) (hz : z ≠ 0 ∨ H1.1 361 4 = H.1 361 4) (hx : 0 ≤ x ∧ x ≤ 2000) (hk : K.1 361 4 = H1.1 361 4) : RCW Y X x H K := by
  refine Or.inr ⟨hx, ?_⟩
  rcases h with ⟨q, X1, e, r, t, -⟩ | ⟨Xf, k, p, X2, K2, r, -, -, e, -⟩
  · exact Or.inl ⟨hk.trans (hz.resolve_left (fun q => q e)), X1, r, t⟩
  · exact Or.inr ⟨Xf, p, by rw [hk, e]; exact r⟩

/-! work -/
set_option maxRecDepth 100000 in
theorem q_work {X : rx} {d : Nat} (hd : 42 ≤ d) {H : hp} (hI : Inv H) {a : Int} (ha : -2147483648 ≤ a ∧ a ≤ 2147483647) (hT : TC H X) (hE : ER H) (hX0 : X 0 0 = 0) : hG (zs zK) d mt_7 0 (zargs 0 [.inr (.inr 1), .inl a]) [] H (fun r9 H9 => ∃ z : Int, r9 = some (.inl z) ∧ ((-2147483648 ≤ z ∧ z ≤ 2147483647)) ∧ Inv H9 ∧ fq [(1, 8), (2, 1), (2, 5), (361, 3), (361, 4), (361, 5), (361, 6), (361, 8), (361, 9), (363, 3), (366, 4), (366, 5), (366, 6)] [4, 5, 6, 362, 364, 365, 367] true H H9 ∧ (H9.1 2 1 = 0 ∧ RCW (H.1 3, (H.1 2 1).toNat) X a H H9)) := by
  refine k_run 0 (pc' := 0) (l' := [(0, .inr (.inr 1)), (1, .inl a)]) (st' := []) rfl ?_
  refine k_run 1 (pc' := 1) (l' := [(0, .inr (.inr 1)), (1, .inl a)]) (st' := [.inl a]) rfl ?_
  refine h_zlt (off := 10) (t := 11) rfl rfl (by omega) (fun c1 => ?_) (fun c1 => ?_)
  · refine k_run 0 (pc' := 11) (l' := [(0, .inr (.inr 1)), (1, .inl a)]) (st' := []) rfl ?_
    refine k_run 4 (pc' := 18) (l' := [(0, .inr (.inr 1)), (1, .inl a), (2, .inl 1)]) (st' := [.inl 1]) rfl ?_
    refine h_zeq (off := 8) (t := 26) rfl rfl (by decide) (fun c => absurd c (by decide)) (fun _ => ?_)
    refine k_run 0 (pc' := 21) (l' := [(0, .inr (.inr 1)), (1, .inl a), (2, .inl 1)]) (st' := []) rfl ?_
    refine k_run 6 (pc' := 43) (l' := [(0, .inr (.inr 1)), (1, .inl a), (2, .inl 1), (3, .inl (-102))]) (st' := [.inl 0, .inr (.inr 2)]) rfl ?_
    refine k_puti (z := 0) (a := 2) (x := kx_2) rfl rfl rfl (by decide) (by decide) rfl rfl rfl rfl hI (by decide) (show 0 ≤ (0 : Int) ∧ (0 : Int) ≤ 1000 by omega) (fun H2 hI3 hw4 hv5 => ?_)
    have hf6 : fq [(1, 8), (2, 1), (2, 5), (361, 3), (361, 4), (361, 5), (361, 6), (361, 8), (361, 9), (363, 3), (366, 4), (366, 5), (366, 6)] [4, 5, 6, 362, 364, 365, 367] true H H2 := fq_w (fq_rf _ _ _ _) hw4 (fpo (by decide) rfl)
    refine k_run 0 (pc' := 46) (l' := [(0, .inr (.inr 1)), (1, .inl a), (2, .inl 1), (3, .inl (-102))]) (st' := []) rfl ?_
    refine k_run 1 (pc' := 47) (l' := [(0, .inr (.inr 1)), (1, .inl a), (2, .inl 1), (3, .inl (-102))]) (st' := [.inl (-102)]) rfl ?_
    refine h_zge (off := 5) (t := 52) rfl rfl (by decide) (fun c => absurd c (by decide)) (fun _ => ?_)
    refine k_run 0 (pc' := 50) (l' := [(0, .inr (.inr 1)), (1, .inl a), (2, .inl 1), (3, .inl (-102))]) (st' := []) rfl ?_
    refine k_run 1 (pc' := 51) (l' := [(0, .inr (.inr 1)), (1, .inl a), (2, .inl 1), (3, .inl (-102))]) (st' := [.inl (-102)]) rfl ?_
    refine h_reti (x := (-102)) rfl rfl ?_
    have g7 : 0 ≤ (H2.1 2 1) ∧ (H2.1 2 1) ≤ 1000 := kn (x := kx_2) hI3 rfl 1
    have g8 : -2147483648 ≤ (H2.1 361 4) ∧ (H2.1 361 4) ≤ 2147483647 := kn (x := kx_361) hI3 rfl 4
    have e9 : (H2.1 361 4) = (H.1 361 4) := hw4.2 _ _ (fun q => absurd q.1 (by decide))
    exact ⟨_, rfl, (by omega), hI3, hf6, ⟨by omega, Or.inl ⟨by omega, by omega⟩⟩⟩
  · refine k_run 0 (pc' := 4) (l' := [(0, .inr (.inr 1)), (1, .inl a)]) (st' := []) rfl ?_
    refine k_run 2 (pc' := 8) (l' := [(0, .inr (.inr 1)), (1, .inl a)]) (st' := [.inl 2000, .inl a]) rfl ?_
    refine h_ile (off := 7) (t := 15) rfl rfl (by omega) (by decide) (fun c10 => ?_) (fun c10 => ?_)
    · refine k_run 0 (pc' := 15) (l' := [(0, .inr (.inr 1)), (1, .inl a)]) (st' := []) rfl ?_
      refine k_run 3 (pc' := 18) (l' := [(0, .inr (.inr 1)), (1, .inl a), (2, .inl 0)]) (st' := [.inl 0]) rfl ?_
      refine h_zeq (off := 8) (t := 26) rfl rfl (by decide) (fun _ => ?_) (fun c => absurd c (by decide))
      refine k_run 0 (pc' := 26) (l' := [(0, .inr (.inr 1)), (1, .inl a), (2, .inl 0)]) (st' := []) rfl ?_
      refine k_run 4 (pc' := 34) (l' := [(0, .inr (.inr 1)), (1, .inl a), (2, .inl 0)]) (st' := [.inr (.inr 1824), .inr (.inr 361)]) rfl ?_
      refine h_cv (i := 169) (j := 63) (b := 361) (M' := mt_63) (xs := [.inr (.inr 1824)]) (rest := []) rfl rfl rfl rfl (zs_K (x := kx_361) rfl (by decide)) rfl (Nat.le_of_ble_eq_true rfl) (Nat.le_of_ble_eq_true rfl) (by omega) (q_closed (by omega) hI iT_1824 rfl hT hE hX0) ?_
      rintro _ H12 ⟨z17, rfl, g11, hI13, hq14, hx16⟩
      have hf18 : fq [(1, 8), (2, 1), (2, 5), (361, 3), (361, 4), (361, 5), (361, 6), (361, 8), (361, 9), (363, 3), (366, 4), (366, 5), (366, 6)] [4, 5, 6, 362, 364, 365, 367] true H H12 := fq_t (fq_rf _ _ _ _) hq14 rfl rfl rfl
      refine k_run 0 (pc' := 37) (l' := [(0, .inr (.inr 1)), (1, .inl a), (2, .inl 0)]) (st' := [.inl z17]) rfl ?_
      refine k_run 4 (pc' := 43) (l' := [(0, .inr (.inr 1)), (1, .inl a), (2, .inl 0), (3, .inl z17)]) (st' := [.inl 0, .inr (.inr 2)]) rfl ?_
      refine k_puti (z := 0) (a := 2) (x := kx_2) rfl rfl rfl (by decide) (by decide) rfl rfl rfl rfl hI13 (by decide) (show 0 ≤ (0 : Int) ∧ (0 : Int) ≤ 1000 by omega) (fun H19 hI20 hw21 hv22 => ?_)
      have hf23 : fq [(1, 8), (2, 1), (2, 5), (361, 3), (361, 4), (361, 5), (361, 6), (361, 8), (361, 9), (363, 3), (366, 4), (366, 5), (366, 6)] [4, 5, 6, 362, 364, 365, 367] true H H19 := fq_w hf18 hw21 (fpo (by decide) rfl)
      refine k_run 0 (pc' := 46) (l' := [(0, .inr (.inr 1)), (1, .inl a), (2, .inl 0), (3, .inl z17)]) (st' := []) rfl ?_
      refine k_run 1 (pc' := 47) (l' := [(0, .inr (.inr 1)), (1, .inl a), (2, .inl 0), (3, .inl z17)]) (st' := [.inl z17]) rfl ?_
      refine h_zge (off := 5) (t := 52) rfl rfl (by omega) (fun c24 => ?_) (fun c24 => ?_)
      · refine k_run 0 (pc' := 52) (l' := [(0, .inr (.inr 1)), (1, .inl a), (2, .inl 0), (3, .inl z17)]) (st' := []) rfl ?_
        refine k_run 5 (pc' := 61) (l' := [(0, .inr (.inr 1)), (1, .inl a), (2, .inl 0), (3, .inl z17)]) (st' := [.inl a, .inr (.inr 1824), .inr (.inr 366)]) rfl ?_
        refine h_cv (i := 173) (j := 99) (b := 366) (M' := mt_99) (xs := [.inl a, .inr (.inr 1824)]) (rest := []) rfl rfl rfl rfl (zs_K (x := kx_366) rfl (by decide)) rfl (Nat.le_of_ble_eq_true rfl) (Nat.le_of_ble_eq_true rfl) (by omega) (k_Rewriter_workOut (by omega) hI20 iT_1824 (by omega) (by omega)) ?_
        rintro _ H26 ⟨z31, rfl, g25, hI27, hq28⟩
        have hf32 : fq [(1, 8), (2, 1), (2, 5), (361, 3), (361, 4), (361, 5), (361, 6), (361, 8), (361, 9), (363, 3), (366, 4), (366, 5), (366, 6)] [4, 5, 6, 362, 364, 365, 367] true H H26 := fq_t hf23 hq28 rfl rfl rfl
        refine k_run 0 (pc' := 64) (l' := [(0, .inr (.inr 1)), (1, .inl a), (2, .inl 0), (3, .inl z17)]) (st' := [.inl z31]) rfl ?_
        refine k_run 5 (pc' := 74) (l' := [(0, .inr (.inr 1)), (1, .inl a), (2, .inl 0), (3, .inl z17), (4, .inl z31)]) (st' := [.inl (H26.1 366 6), .inr (.inr 1)]) rfl ?_
        have g33 : 0 ≤ (H26.1 366 6) ∧ (H26.1 366 6) ≤ 2000 := kn (x := kx_366) hI27 rfl 6
        refine k_puti (z := (H26.1 366 6)) (a := 1) (x := kx_1) rfl rfl rfl (by decide) (by decide) rfl rfl rfl rfl hI27 (by omega) (show -2147483648 ≤ (H26.1 366 6) ∧ (H26.1 366 6) ≤ 2147483647 by omega) (fun H34 hI35 hw36 hv37 => ?_)
        have hf38 : fq [(1, 8), (2, 1), (2, 5), (361, 3), (361, 4), (361, 5), (361, 6), (361, 8), (361, 9), (363, 3), (366, 4), (366, 5), (366, 6)] [4, 5, 6, 362, 364, 365, 367] true H H34 := fq_w hf32 hw36 (fpo (by decide) rfl)
        refine k_run 0 (pc' := 77) (l' := [(0, .inr (.inr 1)), (1, .inl a), (2, .inl 0), (3, .inl z17), (4, .inl z31)]) (st' := []) rfl ?_
        refine k_run 5 (pc' := 86) (l' := [(0, .inr (.inr 1)), (1, .inl a), (2, .inl 0), (3, .inl z17), (4, .inl z31)]) (st' := [.inr (.inl 0), .inr (.inr 1824), .inr (.inr 363)]) rfl ?_
        refine h_cv (i := 183) (j := 88) (b := 363) (M' := mt_88) (xs := [.inr (.inl 0), .inr (.inr 1824)]) (rest := []) rfl rfl rfl rfl (zs_K (x := kx_363) rfl (by decide)) rfl (Nat.le_of_ble_eq_true rfl) (Nat.le_of_ble_eq_true rfl) (by omega) (k_Printer_print (by omega) hI35 iT_1824) ?_
        rintro _ H40 ⟨z45, rfl, g39, hI41, hq42⟩
        have hf46 : fq [(1, 8), (2, 1), (2, 5), (361, 3), (361, 4), (361, 5), (361, 6), (361, 8), (361, 9), (363, 3), (366, 4), (366, 5), (366, 6)] [4, 5, 6, 362, 364, 365, 367] true H H40 := fq_t hf38 hq42 rfl rfl rfl
        refine k_run 0 (pc' := 89) (l' := [(0, .inr (.inr 1)), (1, .inl a), (2, .inl 0), (3, .inl z17), (4, .inl z31)]) (st' := [.inl z45]) rfl ?_
        refine k_run 2 (pc' := 92) (l' := [(0, .inr (.inr 1)), (1, .inl a), (2, .inl 0), (3, .inl z17), (4, .inl z31)]) (st' := [.inl z31]) rfl ?_
        refine h_reti (x := z31) rfl rfl ?_
        have g47 : 0 ≤ (H40.1 2 1) ∧ (H40.1 2 1) ≤ 1000 := kn (x := kx_2) hI41 rfl 1
        have e48 : (H40.1 2 1) = (H34.1 2 1) := (hq42.1 2 1 rfl (by decide) (by decide)).1
        have e49 : (H34.1 2 1) = (H26.1 2 1) := hw36.2 _ _ (fun q => absurd q.1 (by decide))
        have e50 : (H26.1 2 1) = (H19.1 2 1) := (hq28.1 2 1 rfl (by decide) (by decide)).1
        have g51 : -2147483648 ≤ (H40.1 361 4) ∧ (H40.1 361 4) ≤ 2147483647 := kn (x := kx_361) hI41 rfl 4
        have e52 : (H40.1 361 4) = (H34.1 361 4) := (hq42.1 361 4 rfl (by decide) (by decide)).1
        have e53 : (H34.1 361 4) = (H26.1 361 4) := hw36.2 _ _ (fun q => absurd q.1 (by decide))
        have e54 : (H26.1 361 4) = (H19.1 361 4) := (hq28.1 361 4 rfl (by decide) (by decide)).1
        have e55 : (H19.1 361 4) = (H12.1 361 4) := hw21.2 _ _ (fun q => absurd q.1 (by decide))
        exact ⟨_, rfl, (by omega), hI41, hf46, ⟨by omega, RCW_of hx16.1 hx16.2 (by omega) (by omega)⟩⟩
      · refine k_run 0 (pc' := 50) (l' := [(0, .inr (.inr 1)), (1, .inl a), (2, .inl 0), (3, .inl z17)]) (st' := []) rfl ?_
        refine k_run 1 (pc' := 51) (l' := [(0, .inr (.inr 1)), (1, .inl a), (2, .inl 0), (3, .inl z17)]) (st' := [.inl z17]) rfl ?_
        refine h_reti (x := z17) rfl rfl ?_
        have g56 : 0 ≤ (H19.1 2 1) ∧ (H19.1 2 1) ≤ 1000 := kn (x := kx_2) hI20 rfl 1
        have g57 : -2147483648 ≤ (H19.1 361 4) ∧ (H19.1 361 4) ≤ 2147483647 := kn (x := kx_361) hI20 rfl 4
        have e58 : (H19.1 361 4) = (H12.1 361 4) := hw21.2 _ _ (fun q => absurd q.1 (by decide))
        exact ⟨_, rfl, (by omega), hI20, hf23, ⟨by omega, RCW_of hx16.1 hx16.2 (by omega) (by omega)⟩⟩
    · refine k_run 0 (pc' := 11) (l' := [(0, .inr (.inr 1)), (1, .inl a)]) (st' := []) rfl ?_
      refine k_run 4 (pc' := 18) (l' := [(0, .inr (.inr 1)), (1, .inl a), (2, .inl 1)]) (st' := [.inl 1]) rfl ?_
      refine h_zeq (off := 8) (t := 26) rfl rfl (by decide) (fun c => absurd c (by decide)) (fun _ => ?_)
      refine k_run 0 (pc' := 21) (l' := [(0, .inr (.inr 1)), (1, .inl a), (2, .inl 1)]) (st' := []) rfl ?_
      refine k_run 6 (pc' := 43) (l' := [(0, .inr (.inr 1)), (1, .inl a), (2, .inl 1), (3, .inl (-102))]) (st' := [.inl 0, .inr (.inr 2)]) rfl ?_
      refine k_puti (z := 0) (a := 2) (x := kx_2) rfl rfl rfl (by decide) (by decide) rfl rfl rfl rfl hI (by decide) (show 0 ≤ (0 : Int) ∧ (0 : Int) ≤ 1000 by omega) (fun H59 hI60 hw61 hv62 => ?_)
      have hf63 : fq [(1, 8), (2, 1), (2, 5), (361, 3), (361, 4), (361, 5), (361, 6), (361, 8), (361, 9), (363, 3), (366, 4), (366, 5), (366, 6)] [4, 5, 6, 362, 364, 365, 367] true H H59 := fq_w (fq_rf _ _ _ _) hw61 (fpo (by decide) rfl)
      refine k_run 0 (pc' := 46) (l' := [(0, .inr (.inr 1)), (1, .inl a), (2, .inl 1), (3, .inl (-102))]) (st' := []) rfl ?_
      refine k_run 1 (pc' := 47) (l' := [(0, .inr (.inr 1)), (1, .inl a), (2, .inl 1), (3, .inl (-102))]) (st' := [.inl (-102)]) rfl ?_
      refine h_zge (off := 5) (t := 52) rfl rfl (by decide) (fun c => absurd c (by decide)) (fun _ => ?_)
      refine k_run 0 (pc' := 50) (l' := [(0, .inr (.inr 1)), (1, .inl a), (2, .inl 1), (3, .inl (-102))]) (st' := []) rfl ?_
      refine k_run 1 (pc' := 51) (l' := [(0, .inr (.inr 1)), (1, .inl a), (2, .inl 1), (3, .inl (-102))]) (st' := [.inl (-102)]) rfl ?_
      refine h_reti (x := (-102)) rfl rfl ?_
      have g64 : 0 ≤ (H59.1 2 1) ∧ (H59.1 2 1) ≤ 1000 := kn (x := kx_2) hI60 rfl 1
      have g65 : -2147483648 ≤ (H59.1 361 4) ∧ (H59.1 361 4) ≤ 2147483647 := kn (x := kx_361) hI60 rfl 4
      have e66 : (H59.1 361 4) = (H.1 361 4) := hw61.2 _ _ (fun q => absurd q.1 (by decide))
      exact ⟨_, rfl, (by omega), hI60, hf63, ⟨by omega, Or.inl ⟨by omega, by omega⟩⟩⟩
