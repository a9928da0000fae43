/-! the class's work, told exactly -/
/-- what is read closed is a term -/
def WT9 (Y : yx) (X : rx) (ar : Int → Int) (cn fn : Int) : Prop := ∀ X1 : rx, rch Y ([(2, -1, 0, 0), (1, 0, 0, 0)], xu (xu X 0 2 0) 0 8 2) ([(1, 0, 0, 0)], X1) → tk Y (xi X1) = 0 → (∃ k : Nat, X1 0 2 = ((k : Nat) : Int) ∧ k ≤ 40 ∧ tm ar (m_sg cn fn 0) (ga (rowX X1)) k 0 1) ∧ X1 4 = X 4 ∧ X1 8 = X 8 ∧ X1 0 6 = X 0 6
/-- work: outside, worked out, or a fault -/
def RCV (Y : yx) (X : rx) (ar : Int → Int) (x : Int) (H K : hp) (z : Int) : Prop := ((x < 0 ∨ 2000 < x) ∧ z = -102 ∧ K.1 1 8 = H.1 1 8) ∨ ((0 ≤ x ∧ x ≤ 2000) ∧ ((∃ (X1 : rx) (l2 : List Int), rch Y ([(2, -1, 0, 0), (1, 0, 0, 0)], xu (xu X 0 2 0) 0 8 2) ([(1, 0, 0, 0)], X1) ∧ tk Y (xi X1) = 0 ∧ evF ar X x.toNat (rowX X1) 0 = (z, K.1 1 8, l2)) ∨ ∃ (Xf : rx) (k p : Int), rch Y ([(2, -1, 0, 0), (1, 0, 0, 0)], xu (xu X 0 2 0) 0 8 2) ([(0, k, p, 0)], Xf) ∧ z = -1000 - p ∧ K.1 1 8 = H.1 1 8))
theorem SKp_WF {H H1 : hp} (h : WF 1824 H H1) : SKp H H1 := ⟨fun k hk o ho => ⟨h.2 _ _ (by simp; omega) (by omega) (by omega), fun j _ => h.2 _ _ (by simp; omega) (by omega) (by omega)⟩, ⟨h.2 _ _ (by simp) (by decide) (by decide), h.2 _ _ (by simp) (by decide) (by decide)⟩, fun l hl v _ => h.2 _ _ (by simp; omega) (by omega) (by omega)⟩
theorem CR_NE {H H1 H2 : hp} {X : rx} {R k : Nat} (h : CR H X R) (g : NE 0 H H1) (e : ER H1) (w : wr 2 k H1 H2) (h7 : H1.1 7 5 = H.1 7 5) : CR H2 X R := by
  obtain ⟨⟨h1, h2⟩, -, h5⟩ := h
  have ew : ∀ c j, c ≠ 2 → H2.1 c j = H1.1 c j := fun c j hc => w.2 c j (fun q => hc q.1)
  refine ⟨⟨by rw [ew _ _ (by decide), h7]; exact h1, h2⟩, ⟨fun r hr => by rw [w.1]; exact e.1 r hr, fun r hr => by rw [w.1]; exact e.2 r hr⟩, fun r hr => ?_⟩
  obtain ⟨⟨⟨a1, a2⟩, b1, b2⟩, c1⟩ := h5 r hr
  have es : ∀ c j, c = 25 + 6 * r + 1 ∨ c = 25 + 6 * r + 2 ∨ c = 25 + 6 * r + 3 ∨ c = 25 + 6 * r + 4 → H2.1 c j = H.1 c j := fun c j hc => (ew c j (by omega)).trans (g c j (sc_side (k := r) (by omega) hc) (by omega))
  refine ⟨⟨⟨(es _ _ (by omega)).trans a1, fun j hj => (es _ _ (by omega)).trans (a2 j hj)⟩, (es _ _ (by omega)).trans b1, fun j hj => (es _ _ (by omega)).trans (b2 j hj)⟩, ?_⟩
  rw [ew _ _ (by omega), g _ _ (sc_ow (k := r) (by omega)) (by omega)]
  exact c1
theorem row_len {X : rx} {k : Nat} (h : X 0 2 = ((k : Nat) : Int)) : (rowX X).length = k := by
  unfold rowX
  rw [sl_len]
  omega
/-- what was read, as a row -/
theorem CM_RZ {H : hp} {X X1 : rx} {k : Nat} (h : RZ H X1) (h8 : H.2 361 8 = 1824) (hk : X1 0 2 = ((k : Nat) : Int)) (e4 : X1 4 = X 4) (e8 : X1 8 = X 8) : CM H 1824 X (rowX X1).length (ga (rowX X1)) := by
  obtain ⟨-, h2, h3⟩ := h
  rw [h8] at h2 h3
  rw [row_len hk]
  refine ⟨h2.1.trans hk, fun x hx => ?_⟩
  rw [h3 x (by omega), kcd_cg e4 e8, row_at hk hx]

/-! work -/
set_option maxRecDepth 100000 in
theorem q_workx {X : rx} {ar : Int → Int} {cn fn : Int} {R : Nat} {d : Nat} (hd : 42 ≤ d) {H : hp} (hI : Inv H) {a : Int} (ha : -2147483648 ≤ a ∧ a ≤ 2147483647) (hT : TC H X) (hE : ER H) (hX0 : X 0 0 = 0) (hC : CR H X R) (hud : H.1 368 1 = 1 ∧ H.1 369 0 = 0) (hX6 : X 0 6 = (R : Int)) (hR9 : ∀ r : Nat, r < R → RW9r ar cn fn X r) (hK : ∀ s, m_sg cn fn 40 s → KF9 X s ∧ aC (kcd X s) = ar s) (hfn : fn ≤ 16 ∧ cn ≤ 16) (har : ∀ s, 1000 ≤ s → ar s = 0) (har0 : ar 0 = 0) (hW : 0 ≤ a ∧ a ≤ 2000 → WT9 (H.1 3, (H.1 2 1).toNat) X ar cn fn) : hG (zs zK) d mt_7 0 (zargs 0 [.inr (.inr 1), .inl a]) [] H (fun r9 H9 => ∃ z : Int, r9 = some (.inl z) ∧ ((-2147483648 ≤ z ∧ z ≤ 2147483647)) ∧ Inv H9 ∧ fq [(1, 8), (2, 1), (2, 5), (361, 3), (361, 4), (361, 5), (361, 6), (361, 8), (361, 9), (363, 3), (366, 4), (366, 5), (366, 6)] [4, 5, 6, 362, 364, 365, 367] true H H9 ∧ (H9.1 2 1 = 0 ∧ RCV (H.1 3, (H.1 2 1).toNat) X ar a H H9 z ∧ SKp H H9)) := by
  refine k_run 0 (pc' := 0) (l' := [(0, .inr (.inr 1)), (1, .inl a)]) (st' := []) rfl ?_
  refine k_run 1 (pc' := 1) (l' := [(0, .inr (.inr 1)), (1, .inl a)]) (st' := [.inl a]) rfl ?_
  refine h_zlt (off := 10) (t := 11) rfl rfl (by omega) (fun c1 => ?_) (fun c1 => ?_)
  · refine k_run 0 (pc' := 11) (l' := [(0, .inr (.inr 1)), (1, .inl a)]) (st' := []) rfl ?_
    refine k_run 4 (pc' := 18) (l' := [(0, .inr (.inr 1)), (1, .inl a), (2, .inl 1)]) (st' := [.inl 1]) rfl ?_
    refine h_zeq (off := 8) (t := 26) rfl rfl (by decide) (fun c => absurd c (by decide)) (fun _ => ?_)
    refine k_run 0 (pc' := 21) (l' := [(0, .inr (.inr 1)), (1, .inl a), (2, .inl 1)]) (st' := []) rfl ?_
    refine k_run 2 (pc' := 37) (l' := [(0, .inr (.inr 1)), (1, .inl a), (2, .inl 1)]) (st' := [.inl (-102)]) rfl ?_
    skip
    refine k_run 4 (pc' := 43) (l' := [(0, .inr (.inr 1)), (1, .inl a), (2, .inl 1), (3, .inl (-102))]) (st' := [.inl 0, .inr (.inr 2)]) rfl ?_
    refine k_puti (z := 0) (a := 2) (x := kx_2) rfl rfl rfl (by decide) (by decide) rfl rfl rfl rfl hI (by decide) (show 0 ≤ (0 : Int) ∧ (0 : Int) ≤ 1000 by omega) (fun H2 hI3 hw4 hv5 => ?_)
    have hf6 : fq [(1, 8), (2, 1), (2, 5), (361, 3), (361, 4), (361, 5), (361, 6), (361, 8), (361, 9), (363, 3), (366, 4), (366, 5), (366, 6)] [4, 5, 6, 362, 364, 365, 367] true H H2 := fq_w (fq_rf _ _ _ _) hw4 (fpo (by decide) rfl)
    refine k_run 0 (pc' := 46) (l' := [(0, .inr (.inr 1)), (1, .inl a), (2, .inl 1), (3, .inl (-102))]) (st' := []) rfl ?_
    refine k_run 1 (pc' := 47) (l' := [(0, .inr (.inr 1)), (1, .inl a), (2, .inl 1), (3, .inl (-102))]) (st' := [.inl (-102)]) rfl ?_
    refine h_zge (off := 5) (t := 52) rfl rfl (by decide) (fun c => absurd c (by decide)) (fun _ => ?_)
    refine k_run 0 (pc' := 50) (l' := [(0, .inr (.inr 1)), (1, .inl a), (2, .inl 1), (3, .inl (-102))]) (st' := []) rfl ?_
    refine k_run 1 (pc' := 51) (l' := [(0, .inr (.inr 1)), (1, .inl a), (2, .inl 1), (3, .inl (-102))]) (st' := [.inl (-102)]) rfl ?_
    refine h_reti (x := (-102)) rfl rfl ?_
    have g7 : 0 ≤ (H2.1 2 1) ∧ (H2.1 2 1) ≤ 1000 := kn (x := kx_2) hI3 rfl 1
    have g8 : -2147483648 ≤ (H2.1 1 8) ∧ (H2.1 1 8) ≤ 2147483647 := kn (x := kx_1) hI3 rfl 8
    have e9 : (H2.1 1 8) = (H.1 1 8) := hw4.2 _ _ (fun q => absurd q.1 (by decide))
    exact ⟨_, rfl, (by omega), hI3, hf6, ⟨by omega, (Or.inl ⟨by omega, by omega, by omega⟩), (SKp_w hw4 (by omega))⟩⟩
  · refine k_run 0 (pc' := 4) (l' := [(0, .inr (.inr 1)), (1, .inl a)]) (st' := []) rfl ?_
    refine k_run 2 (pc' := 8) (l' := [(0, .inr (.inr 1)), (1, .inl a)]) (st' := [.inl 2000, .inl a]) rfl ?_
    refine h_ile (off := 7) (t := 15) rfl rfl (by omega) (by decide) (fun c10 => ?_) (fun c10 => ?_)
    · refine k_run 0 (pc' := 15) (l' := [(0, .inr (.inr 1)), (1, .inl a)]) (st' := []) rfl ?_
      refine k_run 3 (pc' := 18) (l' := [(0, .inr (.inr 1)), (1, .inl a), (2, .inl 0)]) (st' := [.inl 0]) rfl ?_
      refine h_zeq (off := 8) (t := 26) rfl rfl (by decide) (fun _ => ?_) (fun c => absurd c (by decide))
      refine k_run 0 (pc' := 26) (l' := [(0, .inr (.inr 1)), (1, .inl a), (2, .inl 0)]) (st' := []) rfl ?_
      refine k_run 4 (pc' := 34) (l' := [(0, .inr (.inr 1)), (1, .inl a), (2, .inl 0)]) (st' := [.inr (.inr 1824), .inr (.inr 361)]) rfl ?_
      refine h_cv (i := 169) (j := 63) (b := 361) (M' := mt_63) (xs := [.inr (.inr 1824)]) (rest := []) rfl rfl rfl rfl (zs_K (x := kx_361) rfl (by decide)) rfl (Nat.le_of_ble_eq_true rfl) (Nat.le_of_ble_eq_true rfl) (by omega) (q_Reader_readClosedTerm (by omega) hI iT_1824 rfl hT hE hX0) ?_
      rintro _ H12 ⟨z17, rfl, g11, hI13, hq14, hx16⟩
      have hf18 : fq [(1, 8), (2, 1), (2, 5), (361, 3), (361, 4), (361, 5), (361, 6), (361, 8), (361, 9), (363, 3), (366, 4), (366, 5), (366, 6)] [4, 5, 6, 362, 364, 365, 367] true H H12 := fq_t (fq_rf _ _ _ _) hq14 rfl rfl rfl
      refine k_run 0 (pc' := 37) (l' := [(0, .inr (.inr 1)), (1, .inl a), (2, .inl 0)]) (st' := [.inl z17]) rfl ?_
      obtain ⟨hRW, hNE, h8t⟩ := hx16
      refine k_run 4 (pc' := 43) (l' := [(0, .inr (.inr 1)), (1, .inl a), (2, .inl 0), (3, .inl z17)]) (st' := [.inl 0, .inr (.inr 2)]) rfl ?_
      refine k_puti (z := 0) (a := 2) (x := kx_2) rfl rfl rfl (by decide) (by decide) rfl rfl rfl rfl hI13 (by decide) (show 0 ≤ (0 : Int) ∧ (0 : Int) ≤ 1000 by omega) (fun H19 hI20 hw21 hv22 => ?_)
      have hf23 : fq [(1, 8), (2, 1), (2, 5), (361, 3), (361, 4), (361, 5), (361, 6), (361, 8), (361, 9), (363, 3), (366, 4), (366, 5), (366, 6)] [4, 5, 6, 362, 364, 365, 367] true H H19 := fq_w hf18 hw21 (fpo (by decide) rfl)
      refine k_run 0 (pc' := 46) (l' := [(0, .inr (.inr 1)), (1, .inl a), (2, .inl 0), (3, .inl z17)]) (st' := []) rfl ?_
      refine k_run 1 (pc' := 47) (l' := [(0, .inr (.inr 1)), (1, .inl a), (2, .inl 0), (3, .inl z17)]) (st' := [.inl z17]) rfl ?_
      refine h_zge (off := 5) (t := 52) rfl rfl (by omega) (fun c24 => ?_) (fun c24 => ?_)
      · refine k_run 0 (pc' := 52) (l' := [(0, .inr (.inr 1)), (1, .inl a), (2, .inl 0), (3, .inl z17)]) (st' := []) rfl ?_
        obtain ⟨q9, X1, hz0, hr1, ht1, hT1, hZ1, hE1⟩ := hRW.resolve_right (by rintro ⟨Xf, k, p, X2, K2, h1, h2, h3, -⟩; omega)
        have hW9 := hW (by omega) X1 hr1 ht1
        obtain ⟨⟨k, hk1, hk2, hk3⟩, e4, e8, e6⟩ := hW (by omega) X1 hr1 ht1
        have hM2 : CM H19 1824 X (rowX X1).length (ga (rowX X1)) := by have q8 := CM_RZ hZ1 h8t hk1 e4 e8; exact ⟨(hw21.2 _ _ (fun q7 => by have := q7.1; omega)).trans q8.1, fun x hx => (hw21.2 _ _ (fun q7 => by have := q7.1; omega)).trans (q8.2 x hx)⟩
        have hC2 : CR H19 X R := CR_NE hC hNE hE1 hw21 (by have q7 := hT.1.2.2.2.1; have q8 := hT1.1.2.2.2.1; have q6 := e6; omega)
        have hud2 : H19.1 368 1 = 1 ∧ H19.1 369 0 = 0 := ⟨(hw21.2 _ _ (fun q7 => by have := q7.1; omega)).trans ((hNE 368 1 (sc_ud (Or.inl rfl)) (by omega)).trans hud.1), (hw21.2 _ _ (fun q7 => by have := q7.1; omega)).trans ((hNE 369 0 (sc_ud (Or.inr rfl)) (by omega)).trans hud.2)⟩
        have hln := row_len hk1
        refine k_run 5 (pc' := 61) (l' := [(0, .inr (.inr 1)), (1, .inl a), (2, .inl 0), (3, .inl z17)]) (st' := [.inl a, .inr (.inr 1824), .inr (.inr 366)]) rfl ?_
        refine h_cv (i := 173) (j := 99) (b := 366) (M' := mt_99) (xs := [.inl a, .inr (.inr 1824)]) (rest := []) rfl rfl rfl rfl (zs_K (x := kx_366) rfl (by decide)) rfl (Nat.le_of_ble_eq_true rfl) (Nat.le_of_ble_eq_true rfl) (by omega) (qb_workOut (by omega) hI20 iT_1824 (by omega) (by omega) (by decide) (by decide) hM2 (by rw [hln]; exact ⟨by omega, hk3⟩) hK hC2 hR9 hX6 hfn har har0 hud2) ?_
        rintro _ H26 ⟨z31, rfl, g25, hI27, hq28, hx30⟩
        have hf32 : fq [(1, 8), (2, 1), (2, 5), (361, 3), (361, 4), (361, 5), (361, 6), (361, 8), (361, 9), (363, 3), (366, 4), (366, 5), (366, 6)] [4, 5, 6, 362, 364, 365, 367] true H H26 := fq_t hf23 hq28 rfl rfl rfl
        refine k_run 0 (pc' := 64) (l' := [(0, .inr (.inr 1)), (1, .inl a), (2, .inl 0), (3, .inl z17)]) (st' := [.inl z31]) rfl ?_
        refine k_run 5 (pc' := 74) (l' := [(0, .inr (.inr 1)), (1, .inl a), (2, .inl 0), (3, .inl z17), (4, .inl z31)]) (st' := [.inl (H26.1 366 6), .inr (.inr 1)]) rfl ?_
        have g33 : 0 ≤ (H26.1 366 6) ∧ (H26.1 366 6) ≤ 2000 := kn (x := kx_366) hI27 rfl 6
        refine k_puti (z := (H26.1 366 6)) (a := 1) (x := kx_1) rfl rfl rfl (by decide) (by decide) rfl rfl rfl rfl hI27 (by omega) (show -2147483648 ≤ (H26.1 366 6) ∧ (H26.1 366 6) ≤ 2147483647 by omega) (fun H34 hI35 hw36 hv37 => ?_)
        have hf38 : fq [(1, 8), (2, 1), (2, 5), (361, 3), (361, 4), (361, 5), (361, 6), (361, 8), (361, 9), (363, 3), (366, 4), (366, 5), (366, 6)] [4, 5, 6, 362, 364, 365, 367] true H H34 := fq_w hf32 hw36 (fpo (by decide) rfl)
        refine k_run 0 (pc' := 77) (l' := [(0, .inr (.inr 1)), (1, .inl a), (2, .inl 0), (3, .inl z17), (4, .inl z31)]) (st' := []) rfl ?_
        have htk : H34.1 1 8 = H26.1 366 6 := hv37
        refine k_run 5 (pc' := 86) (l' := [(0, .inr (.inr 1)), (1, .inl a), (2, .inl 0), (3, .inl z17), (4, .inl z31)]) (st' := [.inr (.inl 0), .inr (.inr 1824), .inr (.inr 363)]) rfl ?_
        refine h_cvE (i := 183) (j := 88) (b := 363) (M' := mt_88) (xs := [.inr (.inl 0), .inr (.inr 1824)]) (rest := []) rfl rfl rfl rfl (zs_K (x := kx_363) rfl (by decide)) rfl (Nat.le_of_ble_eq_true rfl) (Nat.le_of_ble_eq_true rfl) (by omega) (ke_print (by omega) hI35 iT_1824 cl_1824) ?_
        rintro _ H40 ⟨z45, rfl, g39, hI41, hq42, hx44⟩
        have hf46 : fq [(1, 8), (2, 1), (2, 5), (361, 3), (361, 4), (361, 5), (361, 6), (361, 8), (361, 9), (363, 3), (366, 4), (366, 5), (366, 6)] [4, 5, 6, 362, 364, 365, 367] true H H40 := fq_t hf38 hq42 rfl rfl rfl
        refine k_run 0 (pc' := 89) (l' := [(0, .inr (.inr 1)), (1, .inl a), (2, .inl 0), (3, .inl z17), (4, .inl z31)]) (st' := [.inl z45]) rfl ?_
        refine k_run 2 (pc' := 92) (l' := [(0, .inr (.inr 1)), (1, .inl a), (2, .inl 0), (3, .inl z17), (4, .inl z31)]) (st' := [.inl z31]) rfl ?_
        refine h_reti (x := z31) rfl rfl ?_
        have g47 : 0 ≤ (H40.1 2 1) ∧ (H40.1 2 1) ≤ 1000 := kn (x := kx_2) hI41 rfl 1
        have e48 : (H40.1 2 1) = (H34.1 2 1) := (hq42.1 2 1 rfl (by decide) (by decide)).1
        have e49 : (H34.1 2 1) = (H26.1 2 1) := hw36.2 _ _ (fun q => absurd q.1 (by decide))
        have e50 : (H26.1 2 1) = (H19.1 2 1) := (hq28.1 2 1 rfl (by decide) (by decide)).1
        have g51 : -2147483648 ≤ (H40.1 1 8) ∧ (H40.1 1 8) ≤ 2147483647 := kn (x := kx_1) hI41 rfl 8
        have e52 : (H40.1 1 8) = (H34.1 1 8) := (hq42.1 1 8 rfl (by decide) (by decide)).1
        exact ⟨_, rfl, (by omega), hI41, hf46, ⟨by omega, (by obtain ⟨l2, q1, -⟩ := hx30; exact Or.inr ⟨by omega, Or.inl ⟨X1, l2, hr1, ht1, q1.trans (by rw [show H40.1 1 8 = _ from (by omega : H40.1 1 8 = H26.1 366 6)])⟩⟩), (SKp_tr (SKp_tr (SKp_tr (SKp_tr (SKp_NE hNE) (SKp_w hw21 (by omega))) (SKp_WF (by obtain ⟨l2, -, -, -, q9⟩ := hx30; exact q9))) (SKp_w hw36 (by omega))) hx44)⟩⟩
      · refine k_run 0 (pc' := 50) (l' := [(0, .inr (.inr 1)), (1, .inl a), (2, .inl 0), (3, .inl z17)]) (st' := []) rfl ?_
        refine k_run 1 (pc' := 51) (l' := [(0, .inr (.inr 1)), (1, .inl a), (2, .inl 0), (3, .inl z17)]) (st' := [.inl z17]) rfl ?_
        refine h_reti (x := z17) rfl rfl ?_
        have g53 : 0 ≤ (H19.1 2 1) ∧ (H19.1 2 1) ≤ 1000 := kn (x := kx_2) hI20 rfl 1
        have g54 : -2147483648 ≤ (H19.1 1 8) ∧ (H19.1 1 8) ≤ 2147483647 := kn (x := kx_1) hI20 rfl 8
        have e55 : (H19.1 1 8) = (H12.1 1 8) := hw21.2 _ _ (fun q => absurd q.1 (by decide))
        have e56 : (H12.1 1 8) = (H.1 1 8) := (hq14.1 1 8 rfl (by decide) (by decide)).1
        exact ⟨_, rfl, (by omega), hI20, hf23, ⟨by omega, (Or.inr ⟨by omega, Or.inr (by rcases hRW with ⟨q9, X1, h1, -⟩ | ⟨Xf, k, p, X2, K2, h1, h2, -⟩; { omega }; { exact ⟨Xf, k, p, h1, h2, by omega⟩ })⟩), (SKp_tr (SKp_NE hNE) (SKp_w hw21 (by omega)))⟩⟩
    · refine k_run 0 (pc' := 11) (l' := [(0, .inr (.inr 1)), (1, .inl a)]) (st' := []) rfl ?_
      refine k_run 4 (pc' := 18) (l' := [(0, .inr (.inr 1)), (1, .inl a), (2, .inl 1)]) (st' := [.inl 1]) rfl ?_
      refine h_zeq (off := 8) (t := 26) rfl rfl (by decide) (fun c => absurd c (by decide)) (fun _ => ?_)
      refine k_run 0 (pc' := 21) (l' := [(0, .inr (.inr 1)), (1, .inl a), (2, .inl 1)]) (st' := []) rfl ?_
      refine k_run 2 (pc' := 37) (l' := [(0, .inr (.inr 1)), (1, .inl a), (2, .inl 1)]) (st' := [.inl (-102)]) rfl ?_
      skip
      refine k_run 4 (pc' := 43) (l' := [(0, .inr (.inr 1)), (1, .inl a), (2, .inl 1), (3, .inl (-102))]) (st' := [.inl 0, .inr (.inr 2)]) rfl ?_
      refine k_puti (z := 0) (a := 2) (x := kx_2) rfl rfl rfl (by decide) (by decide) rfl rfl rfl rfl hI (by decide) (show 0 ≤ (0 : Int) ∧ (0 : Int) ≤ 1000 by omega) (fun H57 hI58 hw59 hv60 => ?_)
      have hf61 : fq [(1, 8), (2, 1), (2, 5), (361, 3), (361, 4), (361, 5), (361, 6), (361, 8), (361, 9), (363, 3), (366, 4), (366, 5), (366, 6)] [4, 5, 6, 362, 364, 365, 367] true H H57 := fq_w (fq_rf _ _ _ _) hw59 (fpo (by decide) rfl)
      refine k_run 0 (pc' := 46) (l' := [(0, .inr (.inr 1)), (1, .inl a), (2, .inl 1), (3, .inl (-102))]) (st' := []) rfl ?_
      refine k_run 1 (pc' := 47) (l' := [(0, .inr (.inr 1)), (1, .inl a), (2, .inl 1), (3, .inl (-102))]) (st' := [.inl (-102)]) rfl ?_
      refine h_zge (off := 5) (t := 52) rfl rfl (by decide) (fun c => absurd c (by decide)) (fun _ => ?_)
      refine k_run 0 (pc' := 50) (l' := [(0, .inr (.inr 1)), (1, .inl a), (2, .inl 1), (3, .inl (-102))]) (st' := []) rfl ?_
      refine k_run 1 (pc' := 51) (l' := [(0, .inr (.inr 1)), (1, .inl a), (2, .inl 1), (3, .inl (-102))]) (st' := [.inl (-102)]) rfl ?_
      refine h_reti (x := (-102)) rfl rfl ?_
      have g62 : 0 ≤ (H57.1 2 1) ∧ (H57.1 2 1) ≤ 1000 := kn (x := kx_2) hI58 rfl 1
      have g63 : -2147483648 ≤ (H57.1 1 8) ∧ (H57.1 1 8) ≤ 2147483647 := kn (x := kx_1) hI58 rfl 8
      have e64 : (H57.1 1 8) = (H.1 1 8) := hw59.2 _ _ (fun q => absurd q.1 (by decide))
      exact ⟨_, rfl, (by omega), hI58, hf61, ⟨by omega, (Or.inl ⟨by omega, by omega, by omega⟩), (SKp_w hw59 (by omega))⟩⟩
