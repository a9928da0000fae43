/-! the class reads a text, as the machine does -/
def FP (H H1 : hp) : Prop := (∀ c j, ¬ (265 ≤ c ∧ c ≤ 360 ∧ c % 6 = 1 ∧ j = 6) → H1.1 c j = H.1 c j) ∧ H1.2 = H.2
theorem FP_rf (H : hp) : FP H H := ⟨fun _ _ _ => rfl, rfl⟩
theorem FP_w {H H1 H2 : hp} {t : Nat} (h : FP H H1) (ht : 265 ≤ t ∧ t ≤ 360 ∧ t % 6 = 1) (w : wr t 6 H1 H2) : FP H H2 := ⟨fun c j hc => (w.2 c j (fun q => hc ⟨by omega, by omega, by omega, q.2⟩)).trans (h.1 c j hc), w.1.trans h.2⟩
theorem TC_FP {H H1 : hp} {X : rx} (h : TC H X) (f : FP H H1) : TC H1 X := TC_cg h (fun c j a b => f.1 c j (by omega)) (fun l hl => f.1 _ _ (by omega))
theorem NE_FP {H H1 : hp} (f : FP H H1) : NE 0 H H1 := fun c j a _ => f.1 c j (fun q => by rcases a with a | a; { have h4 := a.2.2.2; omega }; { omega })
theorem ER_FP {H H1 : hp} (h : ER H) (f : FP H H1) : ER H1 := by
  unfold ER at h ⊢
  rw [f.2]
  exact h
theorem fx_22 : ∀ c : Nat, c < 25 → 7 ≤ c → fx c = true := by decide
theorem tg_l : ∀ l : Nat, l < 16 → tg (265 + 6 * l) = true := by decide
theorem TC_cut {H H1 : hp} {X : rx} (h : TC H X) (f : fq [(2, 5)] [4, 5, 6] false H H1) : TC H1 X := TC_cg h (fun c j a b => (f.1 c j (fx_22 c (by omega) a) (by simp; omega) (by simp; omega)).1) (fun l hl => (f.2 rfl _ 5 (tg_l l hl)).1)
theorem ER_cut {H H1 : hp} (h : ER H) (f : fq [(2, 5)] [4, 5, 6] false H H1) : ER H1 := ⟨fun r hr => ((f.1 23 r rfl (by decide) (by simp)).2).trans (h.1 r hr), fun l hl => ((f.1 24 l rfl (by decide) (by simp)).2).trans (h.2 l hl)⟩
/-- the law that was read is counted -/
theorem RB_law {Y : yx} {q : Nat} {H H1 : hp} {X : rx} (h : RB Y q H X) (w : wr 7 6 H H1) (v : H1.1 7 6 = H.1 7 6 + 1) (hn : H.1 (265 + 6 * (X 0 7).toNat) 5 = X 12 (X 0 7).toNat) (h7 : 0 ≤ X 0 7) : RB Y q H1 (xu X 0 7 (X 0 7 + 1)) := by
  have er : ∀ c, c ≠ 0 → xu X 0 7 (X 0 7 + 1) c = X c := fun c a => xu_ne _ _ _ a
  have e0 : ∀ i, i ≠ 7 → xu X 0 7 (X 0 7 + 1) 0 i = X 0 i := fun i a => xu_0 _ _ (fun q => a q.2)
  have e7 : xu X 0 7 (X 0 7 + 1) 0 7 = X 0 7 + 1 := xu_1 _ _ _ _
  have f : fw [(7, 6)] H H1 := fw_w (fw_rf _ _) w (by simp)
  have hc := h.2.1.1.2.2.2
  refine ⟨KC_fw h.1 f (by simp), TC_in (T1_fw (TC_1 h.2.1) f (by simp) (e0 _ (by decide)) (er _ (by decide))) (T2_fw (TC_2 h.2.1) f (by simp) (e0 _ (by decide)) (er _ (by decide)) (er _ (by decide)) (er _ (by decide)) (er _ (by decide))) (T3_fw (TC_3 h.2.1) f (by simp) (e0 _ (by decide)) (er _ (by decide)) (er _ (by decide)) (er _ (by decide)) (er _ (by decide))) ⟨⟨?_, by rw [v, e7, hc.2]⟩, fun l l1 hl => ?_⟩, ?_, ER_fw h.2.2.2 f⟩
  · rw [e0 6 (by decide), f.2 7 5 (by simp)]
    exact hc.1
  · rw [e7] at hl
    rw [er 12 (by decide), f.2 _ _ (by first | (simp; done) | (simp; omega))]
    by_cases e : (l : Int) = X 0 7
    · have el : l = (X 0 7).toNat := by omega
      rw [el]
      exact hn
    · exact h.2.1.2.2.2.2 l l1 (by omega)
  · rw [e0 0 (by decide), f.2 361 3 (by simp)]
    exact h.2.2.1
theorem TC_l0 {H H1 : hp} {X : rx} (h : TC H X) (w : wr 7 6 H H1) (v : H1.1 7 6 = H.1 7 6) : TC H1 X := TC_cg h (fun c j a b => by
  by_cases e : c = 7 ∧ j = 6
  · rw [e.1, e.2]
    exact v
  · exact w.2 c j e) (fun l hl => w.2 _ _ (fun q => by have := q.1; omega))
theorem RB_l0 {Y : yx} {q : Nat} {H H1 : hp} {X : rx} (h : RB Y q H X) (w : wr 7 6 H H1) (v : H1.1 7 6 = H.1 7 6) : RB Y q H1 X := ⟨KC_cg h.1 (fun c j hc => w.2 c j (fun q => by have := q.1; omega)), TC_l0 h.2.1 w v, by rw [w.2 361 3 (fun q => absurd q.1 (by decide))]; exact h.2.2.1, ER_cg h.2.2.2 (fun c j _ => by rw [w.1])⟩
theorem FB_l0 {Y : yx} {c0 : cf} {H H1 : hp} (h : FB Y c0 H) (w : wr 7 6 H H1) (v : H1.1 7 6 = H.1 7 6) : FB Y c0 H1 := by
  obtain ⟨X, X2, K2, k, p, f1, f2, f3, f4, f5, f6⟩ := h
  exact ⟨X, X2, K2, k, p, f1, f2, TC_l0 f3 w v, ER_cg f4 (fun c j _ => by rw [w.1]), (w.2 361 4 (fun q => absurd q.1 (by decide))).trans f5, (w.2 361 5 (fun q => absurd q.1 (by decide))).trans f6.1, f6.2⟩
theorem xu_adv (X : rx) (z : Int) : xu (adv X) 0 7 z = adv (xu X 0 7 z) := by
  funext c
  by_cases h0 : c = 0
  · subst h0
    funext j
    unfold adv
    by_cases j0 : j = 0
    · subst j0
      rw [xu_0 _ _ (fun q => by cases q.2), xu_1, xu_1, xu_0 _ _ (fun q => by cases q.2)]
    · rw [xu_0 (xu X 0 7 z) _ (fun q => j0 q.2)]
      by_cases j7 : j = 7
      · subst j7
        rw [xu_1, xu_1]
      · rw [xu_0 _ _ (fun q => j7 q.2), xu_0 _ _ (fun q => j0 q.2), xu_0 _ _ (fun q => j7 q.2)]
  · unfold adv
    rw [xu_ne _ _ _ h0, xu_ne _ _ _ h0, xu_ne _ _ _ h0, xu_ne _ _ _ h0]
/-- the old counts again -/
theorem TC_back {H H1 : hp} {X X2 : rx} (h : TC H X2) (j : JB X X2) (hA : AB X) (f : fw [(8, 4), (13, 4), (18, 4), (7, 5), (7, 6)] H H1) (v1 : H1.1 8 4 = X 0 3) (v2 : H1.1 13 4 = X 0 4) (v3 : H1.1 18 4 = X 0 5) (v4 : H1.1 7 5 = X 0 6) (v5 : H1.1 7 6 = X 0 7) : TC H1 X := by
  obtain ⟨-, b1, b2, b3, b4⟩ := h
  obtain ⟨⟨a1, a2, a3, a4, a5⟩, j1, j2, j3, j4⟩ := j
  refine ⟨⟨v1, v2, v3, v4, v5⟩, fun k hk => ?_, fun k hk => ?_, fun k hk => ?_, fun l l1 hl => ?_⟩
  · rw [f.2 9 k (by simp), b1 k (by omega)]
    exact j1 k hk
  · obtain ⟨g1, g2, g3, g4⟩ := b2 k (by omega)
    obtain ⟨i1, i2, i3, i4⟩ := j2 k hk
    have ha := hA.1 k hk
    rw [f.2 14 k (by simp), f.2 15 k (by simp), f.2 16 k (by simp)]
    exact ⟨g1.trans i1, g2.trans i2, g3.trans i3, fun a h9 => by rw [f.2 17 _ (by simp)]; exact (g4 a (by omega)).trans (i4 a (by omega))⟩
  · obtain ⟨g1, g2, g3, g4⟩ := b3 k (by omega)
    obtain ⟨i1, i2, i3, i4⟩ := j3 k hk
    have ha := hA.2 k hk
    rw [f.2 19 k (by simp), f.2 20 k (by simp), f.2 21 k (by simp)]
    exact ⟨g1.trans i1, g2.trans i2, g3.trans i3, fun a h9 => by rw [f.2 22 _ (by simp)]; exact (g4 a (by omega)).trans (i4 a (by omega))⟩
  · rw [f.2 _ _ (by simp; omega), b4 l l1 (by omega)]
    exact j4 l hl
/-- what a text comes to: told, or a fault and nothing told -/
def RX (Y : yx) (X : rx) (z : Int) (H : hp) : Prop := (∃ X1, rch Y ([(6, 0, 0, 0)], X) ([], xu X1 0 9 z) ∧ 0 ≤ z ∧ TC H X1 ∧ AB X1 ∧ ER H ∧ SC H X1) ∨ ∃ Xf k p, rch Y ([(6, 0, 0, 0)], X) ([(0, k, p, 0)], Xf) ∧ z = -1000 - p ∧ H.1 361 4 = k ∧ TC H X ∧ ER H ∧ SC H X

/-! Program.forgetProofs -/
set_option maxRecDepth 100000 in
theorem q_Program_forgetProofs_cut {d : Nat} (hd : 1 ≤ d) {H : hp} (hI : Inv H)   (hE : ER H) : ∀ w : Nat, (∀ (H1 : hp), Inv H1 → fq [] [] true H H1 → ∀ (x1 : Int) , (-2147483648 ≤ x1 ∧ x1 ≤ 2147483647) → (0 ≤ x1) → (FP H H1) → (((100 - x1).toNat) < w) → hG (zs zK) d mt_39 2 [(0, .inr (.inr 7)), (1, .inl x1)] [] H1 (fun r9 H9 => r9 = none ∧ Inv H9 ∧ fq [] [] true H H9 ∧ (FP H H9))) := by
  intro w
  induction w with
  | zero => exact fun _ _ _ _ _ _ _ h => absurd h (Nat.not_lt_zero _)
  | succ w ih =>
    intro H1 hI1 hf1 x1 hx1 hi0 hi1 hw
    obtain ⟨Q9, hQ9⟩ : ∃ Q9 : Option zv → hp → Prop, Q9 = (fun r9 H9 => r9 = none ∧ Inv H9 ∧ fq [] [] true H H9 ∧ (FP H H9)) := ⟨_, rfl⟩
    rw [← hQ9]
    have g2 : 0 ≤ (H1.1 7 6) ∧ (H1.1 7 6) ≤ 16 := kn (x := kx_7) hI1 rfl 6
    have e3 : (H1.1 7 6) = (H.1 7 6) := (hf1.1 7 6 rfl (by decide) (by decide)).1
    refine k_run 3 (pc' := 7) (l' := [(0, .inr (.inr 7)), (1, .inl x1)]) (st' := [.inl (H1.1 7 6), .inl x1]) rfl ?_
    refine h_ige (off := 19) (t := 26) rfl rfl (by omega) (by omega) (fun c4 => ?_) (fun c4 => ?_)
    · refine k_run 0 (pc' := 26) (l' := [(0, .inr (.inr 7)), (1, .inl x1)]) (st' := []) rfl ?_
      refine h_ret rfl rfl ?_
      rw [hQ9]
      exact ⟨rfl, hI1, hf1, (by first | (exfalso; omega) | exact hi1)⟩
    · refine k_run 0 (pc' := 10) (l' := [(0, .inr (.inr 7)), (1, .inl x1)]) (st' := []) rfl ?_
      refine k_run 3 (pc' := 15) (l' := [(0, .inr (.inr 7)), (1, .inl x1)]) (st' := [.inl x1, .inr (.inr 24)]) rfl ?_
      refine k_ald (c := 24) (j := (x1).toNat) (i := x1) (x := kx_24) rfl rfl (by decide) rfl (by decide) (by omega) (by omega) hI1 (fun h5 => ?_)
      obtain ⟨t6, et8⟩ : ∃ t9, t9 = H1.2 24 (x1).toNat := ⟨_, rfl⟩
      rw [← et8] at h5 ⊢
      have k7 : isE t6 := h5
      refine k_run 0 (pc' := 16) (l' := [(0, .inr (.inr 7)), (1, .inl x1)]) (st' := [.inr (.inr t6)]) rfl ?_
      refine k_run 1 (pc' := 17) (l' := [(0, .inr (.inr 7)), (1, .inl x1)]) (st' := [.inl 0, .inr (.inr t6)]) rfl ?_
      refine k_puti (z := 0) (a := t6) (x := (kEo t6)) rfl rfl k7.1 (iE0 k7) k7.2.2.2.2.1 rfl rfl rfl rfl hI1 (by decide) (show -2147483648 ≤ (0 : Int) ∧ (0 : Int) ≤ 2147483647 by omega) (fun H9 hI10 hw11 hv12 => ?_)
      have hf13 : fq [] [] true H H9 := fq_w hf1 hw11 (fpg (iEf k7))
      refine k_run 0 (pc' := 20) (l' := [(0, .inr (.inr 7)), (1, .inl x1)]) (st' := []) rfl ?_
      refine k_run 2 (pc' := 2) (l' := [(0, .inr (.inr 7)), (1, .inl (x1 + 1))]) (st' := []) rfl ?_
      have g14 : 0 ≤ (H9.1 7 6) ∧ (H9.1 7 6) ≤ 16 := kn (x := kx_7) hI10 rfl 6
      have e15 : (H9.1 7 6) = (H1.1 7 6) := hw11.2 _ _ (fun q => by have h9 := (iEf k7); rw [← q.1] at h9; exact absurd h9 (by decide))
      rw [hQ9]
      exact ih H9 hI10 hf13 (x1 + 1) (by omega) (by omega) (FP_w hi1 (by have q9 := et8.trans ((congrFun (congrFun hi1.2 24) _).trans (hE.2 x1.toNat (by omega))); omega) hw11) (by omega)
set_option maxRecDepth 100000 in
theorem q_Program_forgetProofs {d : Nat} (hd : 1 ≤ d) {H : hp} (hI : Inv H)   (hE : ER H) : hG (zs zK) d mt_39 0 (zargs 0 [.inr (.inr 7)]) [] H (fun r9 H9 => r9 = none ∧ Inv H9 ∧ fq [] [] true H H9 ∧ (FP H H9)) := by
  obtain ⟨Q9, hQ9⟩ : ∃ Q9 : Option zv → hp → Prop, Q9 = (fun r9 H9 => r9 = none ∧ Inv H9 ∧ fq [] [] true H H9 ∧ (FP H H9)) := ⟨_, rfl⟩
  rw [← hQ9]
  refine k_run 0 (pc' := 0) (l' := [(0, .inr (.inr 7))]) (st' := []) rfl ?_
  refine k_run 2 (pc' := 2) (l' := [(0, .inr (.inr 7)), (1, .inl 0)]) (st' := []) rfl ?_
  have g1 : 0 ≤ (H.1 7 6) ∧ (H.1 7 6) ≤ 16 := kn (x := kx_7) hI rfl 6
  rw [hQ9]
  exact (q_Program_forgetProofs_cut hd hI  hE _) H hI (fq_rf _ _ _ _) (0 : Int) (by decide) (by omega) (FP_rf H) (Nat.lt_succ_self _)
