/-! the class's test -/
theorem isT_w : ∀ v : Nat, v < 6 → isT (384 + 4 * v) 6
  | 0, _ => ⟨rfl, rfl, by decide, by decide, by decide⟩
  | 1, _ => ⟨rfl, rfl, by decide, by decide, by decide⟩
  | 2, _ => ⟨rfl, rfl, by decide, by decide, by decide⟩
  | 3, _ => ⟨rfl, rfl, by decide, by decide, by decide⟩
  | 4, _ => ⟨rfl, rfl, by decide, by decide, by decide⟩
  | 5, _ => ⟨rfl, rfl, by decide, by decide, by decide⟩
  | n + 6, h => absurd h (by omega)
def VQ9 (H : hp) : Prop := ∀ v : Nat, v < 6 → H.2 377 v = 384 + 4 * v
/-- what telling a row writes -/
def LF9 (H H1 : hp) : Prop := H1.2 = H.2 ∧ ∀ c j, ¬ (c = 372 ∧ j = 10) → (∀ v : Nat, v < 6 → c ≠ 384 + 4 * v ∧ c ≠ 385 + 4 * v) → H1.1 c j = H.1 c j
theorem LF_w {H H1 : hp} (w : wr 372 10 H H1) : LF9 H H1 := ⟨w.1, fun c j h _ => w.2 c j h⟩
theorem LF_a {H H1 H2 : hp} {t v : Nat} (h : LF9 H H1) (g : AF t H1 H2) (ht : t = 384 + 4 * v) (hv : v < 6) : LF9 H H2 := ⟨g.1.trans h.1, fun c j h1 hc => (g.2 c j (by have := hc v hv; omega) (by have := hc v hv; omega)).trans (h.2 c j h1 hc)⟩
/-- what trying a law writes, but for telling -/
def ZF9 (H H1 : hp) : Prop := (∀ c j, ¬ (c = 366 ∧ j = 4) → H1.2 c j = H.2 c j) ∧ ∀ c j, c ∉ [366, 367, 370, 371, 373, 374, 375, 378, 379, 380, 381] → ¬ (c = 372 ∧ j = 9) → (∀ v : Nat, v < 6 → c ≠ 382 + 4 * v ∧ c ≠ 383 + 4 * v) → H1.1 c j = H.1 c j
theorem ZF_tr {H H1 H2 : hp} (h : ZF9 H H1) (g : ZF9 H1 H2) : ZF9 H H2 := ⟨fun c j q => (g.1 c j q).trans (h.1 c j q), fun c j q q2 q3 => (g.2 c j q q2 q3).trans (h.2 c j q q2 q3)⟩
theorem ZF_w {H H1 : hp} (w : wr 372 9 H H1) : ZF9 H H1 := ⟨fun c j _ => by rw [w.1], fun c j _ q _ => w.2 c j q⟩
theorem ZF_C {H H1 : hp} (h : CF9 H H1) : ZF9 H H1 := ⟨fun c j _ => by rw [h.1], fun c j q _ _ => h.2 c j (by simp at q; omega) (by simp at q; omega)⟩
theorem ZF_T {H H1 : hp} (h : TF9 H H1) : ZF9 H H1 := ⟨fun c j _ => by rw [h.1], fun c j q _ _ => h.2 c j (by simp at q; omega)⟩
theorem ZF_Q {H H1 : hp} (h : QF9 H H1) : ZF9 H H1 := ⟨h.1, fun c j q _ q3 => h.2 c j (by simp at q ⊢; omega) q3⟩
/-- nothing that other calls keep -/
def ZG9 (H H1 : hp) : Prop := (∀ c j, ¬ (c = 366 ∧ j = 4) → H1.2 c j = H.2 c j) ∧ ∀ c j, c < 366 ∨ c = 368 ∨ c = 369 ∨ 406 ≤ c → H1.1 c j = H.1 c j
theorem ZG_Z {H H1 : hp} (h : ZF9 H H1) : ZG9 H H1 := ⟨h.1, fun c j q => h.2 c j (by simp; omega) (by omega) (fun v hv => by omega)⟩
theorem ZG_L {H H1 H2 : hp} (h : ZF9 H H1) (g : LF9 H1 H2) : ZG9 H H2 := ⟨fun c j q => by rw [g.1]; exact h.1 c j q, fun c j q => (g.2 c j (by omega) (fun v hv => by omega)).trans ((ZG_Z h).2 c j q)⟩
/-- the row that was told last -/
def TD9 (H : hp) (X : rx) (nv : Nat) (vs : Nat → List Int) : Prop := H.1 372 10 = (nv : Int) ∧ ∀ w : Nat, w < nv → CM H (384 + 4 * w) X (vs w).length (ga (vs w))
def TE9 (H H1 : hp) : Prop := H1.1 372 10 = H.1 372 10 ∧ ∀ v j : Nat, v < 6 → H1.1 (384 + 4 * v) j = H.1 (384 + 4 * v) j ∧ H1.1 (385 + 4 * v) j = H.1 (385 + 4 * v) j
theorem TE_Z {H H1 : hp} (h : ZF9 H H1) : TE9 H H1 := ⟨h.2 _ _ (by decide) (by omega) (fun v hv => by omega), fun v j hv => ⟨h.2 _ _ (by simp; omega) (by omega) (fun w hw => by omega), h.2 _ _ (by simp; omega) (by omega) (fun w hw => by omega)⟩⟩

/-! Trial.tellRow -/
set_option maxRecDepth 100000 in
theorem qv_tellRow_cut {X : rx} {nv : Nat} {ty : Nat → Int} {vs : Nat → List Int} {d : Nat} (hd : 2 ≤ d) {H : hp} (hI : Inv H) {e : Nat} (he : isE e) (he9 : e + 5 < 366) (hL : LV9 H X e nv ty) (hvr : VR9 H) (hvq : VQ9 H) (hcv : ∀ w : Nat, w < nv → CM H (382 + 4 * w) X (vs w).length (ga (vs w))) (hvl6 : ∀ v, (vs v).length ≤ 6) : ∀ w : Nat, (∀ (H1 : hp), Inv H1 → fq [(372, 10)] [] false H H1 → ∀ (x2 : Int) , (-2147483648 ≤ x2 ∧ x2 ≤ 2147483647) → (0 ≤ x2 ∧ x2 ≤ nv) → (H1.1 372 10 = (nv : Int)) → (∀ w : Nat, (w : Int) < x2 → CM H1 (384 + 4 * w) X (vs w).length (ga (vs w))) → (LF9 H H1) → (((1000 - x2).toNat) < w) → hG (zs zK) d mt_104 15 [(0, .inr (.inr 372)), (1, .inr (.inr e)), (2, .inl x2)] [] H1 (fun r9 H9 => r9 = none ∧ Inv H9 ∧ fq [(372, 10)] [] false H H9 ∧ (TD9 H9 X nv vs ∧ LF9 H H9))) := by
  intro w
  induction w with
  | zero => exact fun _ _ _ _ _ _ _ _ _ h => absurd h (Nat.not_lt_zero _)
  | succ w ih =>
    intro H1 hI1 hf1 x2 hx2 hi0 hi1 hi2 hi3 hw
    obtain ⟨Q9, hQ9⟩ : ∃ Q9 : Option zv → hp → Prop, Q9 = (fun r9 H9 => r9 = none ∧ Inv H9 ∧ fq [(372, 10)] [] false H H9 ∧ (TD9 H9 X nv vs ∧ LF9 H H9)) := ⟨_, rfl⟩
    rw [← hQ9]
    have hL1 := hL.1
    have htd := hi1
    have hlf := hi3
    have hcv1 : ∀ w : Nat, w < nv → CM H1 (382 + 4 * w) X (vs w).length (ga (vs w)) := fun w hw => CM_cg (hcv w hw) (hlf.2 _ _ (by omega) (fun v hv => by omega)) (fun x => hlf.2 _ _ (by omega) (fun v hv => by omega))
    have hvr1 : VR9 H1 := fun v hv => by rw [hlf.1]; exact hvr v hv
    have hvq1 : VQ9 H1 := fun v hv => by rw [hlf.1]; exact hvq v hv
    have g9 : -1 ≤ (H1.1 372 10) ∧ (H1.1 372 10) ≤ 6 := kn (x := kx_372) hI1 rfl 10
    refine k_run 3 (pc' := 20) (l' := [(0, .inr (.inr 372)), (1, .inr (.inr e)), (2, .inl x2)]) (st' := [.inl (H1.1 372 10), .inl x2]) rfl ?_
    refine h_ige (off := 24) (t := 44) rfl rfl (by omega) (by omega) (fun c10 => ?_) (fun c10 => ?_)
    · refine k_run 0 (pc' := 44) (l' := [(0, .inr (.inr 372)), (1, .inr (.inr e)), (2, .inl x2)]) (st' := []) rfl ?_
      refine h_ret rfl rfl ?_
      rw [hQ9]
      exact ⟨rfl, hI1, hf1, (by first | (exfalso; omega) | exact ⟨⟨htd, fun w9 h9 => hi2 w9 (by omega)⟩, hlf⟩)⟩
    · refine k_run 0 (pc' := 23) (l' := [(0, .inr (.inr 372)), (1, .inr (.inr e)), (2, .inl x2)]) (st' := []) rfl ?_
      refine k_run 3 (pc' := 28) (l' := [(0, .inr (.inr 372)), (1, .inr (.inr e)), (2, .inl x2)]) (st' := [.inl x2, .inr (.inr 377)]) rfl ?_
      refine k_ald (c := 377) (j := (x2).toNat) (i := x2) (x := kx_377) rfl rfl (by decide) rfl (by decide) (by omega) (by omega) hI1 (fun h11 => ?_)
      obtain ⟨t12, et14⟩ : ∃ t9, t9 = H1.2 377 (x2).toNat := ⟨_, rfl⟩
      rw [← et14] at h11 ⊢
      obtain ⟨n15, k13⟩ := (show (∃ n, isT t12 n) ∧ 369 < t12 from h11).1
      have k13b := k13.2.2.2.2
      refine k_run 0 (pc' := 29) (l' := [(0, .inr (.inr 372)), (1, .inr (.inr e)), (2, .inl x2)]) (st' := [.inr (.inr t12)]) rfl ?_
      refine k_run 3 (pc' := 34) (l' := [(0, .inr (.inr 372)), (1, .inr (.inr e)), (2, .inl x2)]) (st' := [.inl x2, .inr (.inr 376), .inr (.inr t12)]) rfl ?_
      refine k_ald (c := 376) (j := (x2).toNat) (i := x2) (x := kx_376) rfl rfl (by decide) rfl (by decide) (by omega) (by omega) hI1 (fun h16 => ?_)
      obtain ⟨t17, et19⟩ : ∃ t9, t9 = H1.2 376 (x2).toNat := ⟨_, rfl⟩
      rw [← et19] at h16 ⊢
      obtain ⟨n20, k18⟩ := (show (∃ n, isT t17 n) ∧ 369 < t17 from h16).1
      have k18b := k18.2.2.2.2
      refine k_run 0 (pc' := 35) (l' := [(0, .inr (.inr 372)), (1, .inr (.inr e)), (2, .inl x2)]) (st' := [.inr (.inr t17), .inr (.inr t12)]) rfl ?_
      have ha9 : t12 = 384 + 4 * x2.toNat := by rw [et14]; exact hvq1 x2.toNat (by omega)
      have hb9 : n15 = 6 := isT_un k13 (by rw [ha9]; exact isT_w x2.toNat (by omega))
      have ha8 : t17 = 382 + 4 * x2.toNat := by rw [et19]; exact hvr1 x2.toNat (by omega)
      have hMv : CM H1 t17 X (vs x2.toNat).length (ga (vs x2.toNat)) := by rw [ha8]; exact hcv1 x2.toNat (by omega)
      have hMv1 := hMv.1
      have hvl := hvl6 x2.toNat
      refine h_cv (i := 104) (j := 55) (b := t12) (M' := mt_55) (xs := [.inr (.inr t17)]) (rest := []) rfl rfl rfl rfl (by rw [zs_K k13.1 (iT0 k13)]; rfl) rfl (Nat.le_of_ble_eq_true rfl) (Nat.le_of_ble_eq_true rfl) (by omega) (qb_copy (by omega) hI1 k13 k18 (by omega)) ?_
      rintro _ H22 ⟨rfl, hI23, hq24, hx26⟩
      have hf27 : fq [(372, 10)] [] false H H22 := fq_t hf1 hq24 rfl rfl rfl
      refine k_run 0 (pc' := 38) (l' := [(0, .inr (.inr 372)), (1, .inr (.inr e)), (2, .inl x2)]) (st' := []) rfl ?_
      refine k_run 2 (pc' := 15) (l' := [(0, .inr (.inr 372)), (1, .inr (.inr e)), (2, .inl (x2 + 1))]) (st' := []) rfl ?_
      have g28 : -1 ≤ (H22.1 372 10) ∧ (H22.1 372 10) ≤ 6 := kn (x := kx_372) hI23 rfl 10
      have e29 : (H22.1 372 10) = (H1.1 372 10) := (hq24.1 372 10 rfl (by decide) (by decide)).1
      rw [hQ9]
      exact ih H22 hI23 hf27 (x2 + 1) (by omega) (by omega) (by omega) (fun w9 h9 => by obtain ⟨c1, c2, c3⟩ := hx26; by_cases q9 : w9 = x2.toNat; { subst q9; rw [← ha9]; exact ⟨c1.trans hMv.1, fun x hx => (c2 x (by omega)).trans (hMv.2 x hx)⟩ }; { exact CM_cg (hi2 w9 (by omega)) (c3.2 _ _ (by omega) (by omega)) (fun x => c3.2 _ _ (by omega) (by omega)) }) (LF_a hlf hx26.2.2 ha9 (by omega)) (by omega)
set_option maxRecDepth 100000 in
theorem qv_tellRow {X : rx} {nv : Nat} {ty : Nat → Int} {vs : Nat → List Int} {d : Nat} (hd : 2 ≤ d) {H : hp} (hI : Inv H) {e : Nat} (he : isE e) (he9 : e + 5 < 366) (hL : LV9 H X e nv ty) (hvr : VR9 H) (hvq : VQ9 H) (hcv : ∀ w : Nat, w < nv → CM H (382 + 4 * w) X (vs w).length (ga (vs w))) (hvl6 : ∀ v, (vs v).length ≤ 6) : hG (zs zK) d mt_104 0 (zargs 0 [.inr (.inr 372), .inr (.inr e)]) [] H (fun r9 H9 => r9 = none ∧ Inv H9 ∧ fq [(372, 10)] [] false H H9 ∧ (TD9 H9 X nv vs ∧ LF9 H H9)) := by
  have hL1 := hL.1
  obtain ⟨Q9, hQ9⟩ : ∃ Q9 : Option zv → hp → Prop, Q9 = (fun r9 H9 => r9 = none ∧ Inv H9 ∧ fq [(372, 10)] [] false H H9 ∧ (TD9 H9 X nv vs ∧ LF9 H H9)) := ⟨_, rfl⟩
  rw [← hQ9]
  refine k_run 0 (pc' := 0) (l' := [(0, .inr (.inr 372)), (1, .inr (.inr e))]) (st' := []) rfl ?_
  refine k_run 2 (pc' := 2) (l' := [(0, .inr (.inr 372)), (1, .inr (.inr e))]) (st' := [.inr (.inr e), .inr (.inr 372)]) rfl ?_
  refine k_get (a := e) (x := (kEo e)) (v := .inl (H.1 e 3)) rfl rfl he.1 (iE0 he) rfl rfl rfl ?_
  have g1 : 0 ≤ (H.1 e 3) ∧ (H.1 e 3) ≤ 40 := kn hI he.1 3
  refine k_run 0 (pc' := 5) (l' := [(0, .inr (.inr 372)), (1, .inr (.inr e))]) (st' := [.inl (H.1 e 3), .inr (.inr 372)]) rfl ?_
  refine k_run 1 (pc' := 7) (l' := [(0, .inr (.inr 372)), (1, .inr (.inr e))]) (st' := [.inl 6, .inl (H.1 e 3), .inr (.inr 372)]) rfl ?_
  refine k_min (i := 101) (x := (H.1 e 3)) (y := 6) rfl rfl (Nat.le_of_ble_eq_true rfl) (by omega) (by omega) (by decide) (fun z2 hz2 => ?_)
  refine k_run 0 (pc' := 10) (l' := [(0, .inr (.inr 372)), (1, .inr (.inr e))]) (st' := [.inl z2, .inr (.inr 372)]) rfl ?_
  refine k_puti (z := z2) (a := 372) (x := kx_372) rfl rfl rfl (by decide) (by decide) rfl rfl rfl rfl hI (by omega) (show -1 ≤ z2 ∧ z2 ≤ 6 by omega) (fun H3 hI4 hw5 hv6 => ?_)
  have hf7 : fq [(372, 10)] [] false H H3 := fq_w (fq_rf _ _ _ _) hw5 (fpo (by decide) rfl)
  refine k_run 0 (pc' := 13) (l' := [(0, .inr (.inr 372)), (1, .inr (.inr e))]) (st' := []) rfl ?_
  refine k_run 2 (pc' := 15) (l' := [(0, .inr (.inr 372)), (1, .inr (.inr e)), (2, .inl 0)]) (st' := []) rfl ?_
  have g8 : -1 ≤ (H3.1 372 10) ∧ (H3.1 372 10) ≤ 6 := kn (x := kx_372) hI4 rfl 10
  rw [hQ9]
  exact (qv_tellRow_cut hd hI he he9 hL hvr hvq hcv hvl6 _) H3 hI4 hf7 (0 : Int) (by decide) (by omega) (by omega) (fun w9 h9 => absurd h9 (by omega)) (LF_w hw5) (Nat.lt_succ_self _)

theorem rwO_b {ar : Int → Int} {X : rx} {al : Bool} {l : Nat} {ty : Nat → Int} {nv n r : Nat} : 0 ≤ rwO ar X al l ty nv n r ∧ rwO ar X al l ty nv n r ≤ 2 := by
  unfold rwO
  split
  · split <;> decide
  · decide
theorem CR_ZG {H H1 : hp} {X : rx} {R : Nat} (h : CR H X R) (g : ZG9 H H1) : CR H1 X R := by
  obtain ⟨⟨a1, a2⟩, ⟨a3, a4⟩, a5⟩ := h
  refine ⟨⟨(g.2 _ _ (by omega)).trans a1, a2⟩, ⟨fun r hr => (g.1 23 r (by omega)).trans (a3 r hr), fun r hr => (g.1 24 r (by omega)).trans (a4 r hr)⟩, fun r hr => ?_⟩
  obtain ⟨⟨⟨b1, b2⟩, c1, c2⟩, d1⟩ := a5 r hr
  exact ⟨⟨⟨(g.2 _ _ (by omega)).trans b1, fun j hj => (g.2 _ _ (by omega)).trans (b2 j hj)⟩, (g.2 _ _ (by omega)).trans c1, fun j hj => (g.2 _ _ (by omega)).trans (c2 j hj)⟩, by rw [g.2 _ _ (by omega)]; exact d1⟩
theorem tst_of {ar : Int → Int} {X : rx} {al : Bool} {l : Nat} {ty : Nat → Int} {nv n k : Nat} (h : nRw X al ty nv n ≤ 2000) (hk : k ≤ nRw X al ty nv n) (h1 : (tsO (rwO ar X al l ty nv n) k).1 = 1 ∨ k = nRw X al ty nv n) : tst9 ar X al l ty nv n = tsO (rwO ar X al l ty nv n) k := by
  unfold tst9
  rw [if_neg (by omega)]
  rcases h1 with h1 | h1
  · exact tsO_end h1 hk
  · rw [h1]
/-- what trying a law comes to -/
def TA9 (ar : Int → Int) (X : rx) (al : Bool) (l : Nat) (ty : Nat → Int) (nv n : Nat) (H H9 : hp) (z : Int) : Prop := z = (tst9 ar X al l ty nv n).1 ∧ (z = 1 → TD9 H9 X nv (rwV X al ty nv n (tst9 ar X al l ty nv n).2)) ∧ (z ≠ 1 → TE9 H H9) ∧ ZG9 H H9

/-! Trial.tryLaw -/
set_option maxRecDepth 100000 in
theorem qv_tryLaw_cut {X : rx} {ar : Int → Int} {cn fn : Int} {al : Bool} {nv l R : Nat} {ty : Nat → Int} {d : Nat} (hd : 21 ≤ d) {H : hp} (hI : Inv H) {e : Nat} {b : Int} {c : Int} (he : isE e) (hb : -2147483648 ≤ b ∧ b ≤ 2147483647) (hc : 0 ≤ c ∧ c ≤ 1) (hp0 : 1 ≤ b ∧ b ≤ 6) (hW : TW9 ar cn fn X nv l R) (hcl : (al = false → c = 0) ∧ (al = true → c = 1)) (hl9 : l < 16) (he9 : e = 265 + 6 * l) (hT : TC H X) (hL : LV9 H X (265 + 6 * l) nv ty) (hvr : VR9 H) (hvq : VQ9 H) (hsl : CM H (265 + 6 * l + 1) X (X (4 * l + 102) 0).toNat (fun k => X (4 * l + 102) (k + 1))) (hsr : CM H (265 + 6 * l + 3) X (X (4 * l + 103) 0).toNat (fun k => X (4 * l + 103) (k + 1))) (hC : CR H X R) (hud : H.1 368 1 = 1 ∧ H.1 369 0 = 0) : ∀ w : Nat, (∀ (H1 : hp), Inv H1 → fq [(366, 4), (366, 5), (366, 6), (372, 9), (372, 10)] [367, 373, 374, 375] false H H1 → ∀ (x4 : Int) (x5 : Int) (x6 : Int) , (-2147483648 ≤ x4 ∧ x4 ≤ 2147483647) → (-2147483648 ≤ x5 ∧ x5 ≤ 2147483647) → (-2147483648 ≤ x6 ∧ x6 ≤ 2147483647) → (x4 = (((nRw X al ty nv b.toNat) : Nat) : Int) ∧ x4 ≤ 2000) → (0 ≤ x6 ∧ x6 ≤ x4) → (x5 = (tsO (rwO ar X al l ty nv b.toNat) x6.toNat).1) → (x5 ≠ 1) → (ZF9 H H1) → ((nRw X al ty nv b.toNat) = 0 ∨ TS9 H1 X al b.toNat nv ty l R) → (0 ≤ x5 ∧ x5 ≤ 2) → (((3000 - x6).toNat) < w) → hG (zs zK) d mt_102 35 [(0, .inr (.inr 372)), (1, .inr (.inr e)), (2, .inl b), (3, .inl c), (4, .inl x4), (5, .inl x5), (6, .inl x6)] [] H1 (fun r9 H9 => ∃ z : Int, r9 = some (.inl z) ∧ ((-2147483648 ≤ z ∧ z ≤ 2147483647)) ∧ Inv H9 ∧ fq [(366, 4), (366, 5), (366, 6), (372, 9), (372, 10)] [367, 373, 374, 375] false H H9 ∧ (TA9 ar X al l ty nv b.toNat H H9 z))) := by
  intro w
  induction w with
  | zero => exact fun _ _ _ _ _ _ _ _ _ _ _ _ _ _ _ _ h => absurd h (Nat.not_lt_zero _)
  | succ w ih =>
    intro H1 hI1 hf1 x4 x5 x6 hx4 hx5 hx6 hi0 hi1 hi2 hi3 hi4 hi5 hi6 hw
    obtain ⟨Q9, hQ9⟩ : ∃ Q9 : Option zv → hp → Prop, Q9 = (fun r9 H9 => ∃ z : Int, r9 = some (.inl z) ∧ ((-2147483648 ≤ z ∧ z ≤ 2147483647)) ∧ Inv H9 ∧ fq [(366, 4), (366, 5), (366, 6), (372, 9), (372, 10)] [367, 373, 374, 375] false H H9 ∧ (TA9 ar X al l ty nv b.toNat H H9 z)) := ⟨_, rfl⟩
    rw [← hQ9]
    obtain ⟨⟨hX, hcn, harc⟩, hK, ⟨hR9, hX06, hfn⟩, ⟨har, har0⟩, hnv6, hsd⟩ := id hW
    have hrr : (nRw X al ty nv b.toNat) ≤ 2000 := by omega
    refine k_run 2 (pc' := 39) (l' := [(0, .inr (.inr 372)), (1, .inr (.inr e)), (2, .inl b), (3, .inl c), (4, .inl x4), (5, .inl x5), (6, .inl x6)]) (st' := [.inl x4, .inl x6]) rfl ?_
    refine h_ige (off := 40) (t := 79) rfl rfl (by omega) (by omega) (fun c22 => ?_) (fun c22 => ?_)
    · refine k_run 0 (pc' := 79) (l' := [(0, .inr (.inr 372)), (1, .inr (.inr e)), (2, .inl b), (3, .inl c), (4, .inl x4), (5, .inl x5), (6, .inl x6)]) (st' := []) rfl ?_
      refine k_run 1 (pc' := 81) (l' := [(0, .inr (.inr 372)), (1, .inr (.inr e)), (2, .inl b), (3, .inl c), (4, .inl x4), (5, .inl x5), (6, .inl x6)]) (st' := [.inl x5]) rfl ?_
      refine h_reti (x := x5) rfl rfl ?_
      rw [hQ9]
      exact ⟨_, rfl, (by omega), hI1, hf1, (by first | (exfalso; omega) | exact (by have q8 := tst_of (ar := ar) (X := X) (al := al) (l := l) (ty := ty) (nv := nv) (n := b.toNat) (k := x6.toNat) (by omega) (by omega) (Or.inr (by omega)); refine ⟨by rw [q8]; exact hi2, fun q7 => absurd q7 hi3, fun _ => TE_Z hi4, ZG_Z hi4⟩))⟩
    · refine k_run 0 (pc' := 42) (l' := [(0, .inr (.inr 372)), (1, .inr (.inr e)), (2, .inl b), (3, .inl c), (4, .inl x4), (5, .inl x5), (6, .inl x6)]) (st' := []) rfl ?_
      have hTS1 := hi5.resolve_left (by omega)
      obtain ⟨-, ⟨-, hL1, hvr1⟩, -⟩ := id hTS1
      refine k_run 3 (pc' := 46) (l' := [(0, .inr (.inr 372)), (1, .inr (.inr e)), (2, .inl b), (3, .inl c), (4, .inl x4), (5, .inl x5), (6, .inl x6)]) (st' := [.inl x6, .inr (.inr e), .inr (.inr 372)]) rfl ?_
      refine h_cv (i := 63) (j := 103) (b := 372) (M' := mt_103) (xs := [.inl x6, .inr (.inr e)]) (rest := []) rfl rfl rfl rfl (zs_K (x := kx_372) rfl (by decide)) rfl (Nat.le_of_ble_eq_true rfl) (Nat.le_of_ble_eq_true rfl) (by omega) (qv_tryRow (by omega) hI1 he (by omega) (by omega) hW hTS1 hl9 he9 (by omega)) ?_
      rintro _ H24 ⟨z29, rfl, g23, hI25, hq26, hx28⟩
      have hf30 : fq [(366, 4), (366, 5), (366, 6), (372, 9), (372, 10)] [367, 373, 374, 375] false H H24 := fq_t hf1 hq26 rfl rfl rfl
      refine k_run 0 (pc' := 49) (l' := [(0, .inr (.inr 372)), (1, .inr (.inr e)), (2, .inl b), (3, .inl c), (4, .inl x4), (5, .inl x5), (6, .inl x6)]) (st' := [.inl z29]) rfl ?_
      obtain ⟨hro, hqf, hcv⟩ := hx28
      have hzf4 := ZF_tr hi4 (ZF_Q hqf)
      have hrb := rwO_b (ar := ar) (X := X) (al := al) (l := l) (ty := ty) (nv := nv) (n := b.toNat) (r := x6.toNat)
      refine k_run 3 (pc' := 54) (l' := [(0, .inr (.inr 372)), (1, .inr (.inr e)), (2, .inl b), (3, .inl c), (4, .inl x4), (5, .inl x5), (6, .inl x6), (7, .inl z29)]) (st' := [.inl 1, .inl z29]) rfl ?_
      refine h_ine (off := 10) (t := 64) rfl rfl (by omega) (by decide) (fun c31 => ?_) (fun c31 => ?_)
      · refine k_run 0 (pc' := 64) (l' := [(0, .inr (.inr 372)), (1, .inr (.inr e)), (2, .inl b), (3, .inl c), (4, .inl x4), (5, .inl x5), (6, .inl x6), (7, .inl z29)]) (st' := []) rfl ?_
        refine k_run 2 (pc' := 68) (l' := [(0, .inr (.inr 372)), (1, .inr (.inr e)), (2, .inl b), (3, .inl c), (4, .inl x4), (5, .inl x5), (6, .inl x6), (7, .inl z29)]) (st' := [.inl z29, .inl x5]) rfl ?_
        refine k_max (i := 70) (x := x5) (y := z29) rfl rfl (Nat.le_of_ble_eq_true rfl) (by omega) (by omega) (by omega) (fun z32 hz32 => ?_)
        refine k_run 0 (pc' := 71) (l' := [(0, .inr (.inr 372)), (1, .inr (.inr e)), (2, .inl b), (3, .inl c), (4, .inl x4), (5, .inl x5), (6, .inl x6), (7, .inl z29)]) (st' := [.inl z32]) rfl ?_
        refine k_run 3 (pc' := 35) (l' := [(0, .inr (.inr 372)), (1, .inr (.inr e)), (2, .inl b), (3, .inl c), (4, .inl x4), (5, .inl z32), (6, .inl (x6 + 1)), (7, .inl z29)]) (st' := []) rfl ?_
        refine h_loc [0, 1, 2, 3, 4, 5, 6] rfl ?_
        rw [hQ9]
        exact ih H24 hI25 hf30 x4 z32 (x6 + 1) (by omega) (by omega) (by omega) (by omega) (by omega) (by rw [show (x6 + 1).toNat = x6.toNat + 1 by omega]; have q9 := (tsO_up (out := (rwO ar X al l ty nv b.toNat)) (k := x6.toNat) (by rw [← hi2]; exact hi3) (by omega)).1; rw [q9, ← hro, ← hi2]; split <;> omega) (by omega) hzf4 (Or.inr (TS_cg hTS1 hqf hl9)) (by omega) (by omega)
      · refine k_run 0 (pc' := 57) (l' := [(0, .inr (.inr 372)), (1, .inr (.inr e)), (2, .inl b), (3, .inl c), (4, .inl x4), (5, .inl x5), (6, .inl x6), (7, .inl z29)]) (st' := []) rfl ?_
        refine k_run 2 (pc' := 59) (l' := [(0, .inr (.inr 372)), (1, .inr (.inr e)), (2, .inl b), (3, .inl c), (4, .inl x4), (5, .inl x5), (6, .inl x6), (7, .inl z29)]) (st' := [.inr (.inr e), .inr (.inr 372)]) rfl ?_
        refine h_cv (i := 66) (j := 104) (b := 372) (M' := mt_104) (xs := [.inr (.inr e)]) (rest := []) rfl rfl rfl rfl (zs_K (x := kx_372) rfl (by decide)) rfl (Nat.le_of_ble_eq_true rfl) (Nat.le_of_ble_eq_true rfl) (by omega) (qv_tellRow (by omega) hI25 he (ty := ty) (vs := rwV X al ty nv b.toNat x6.toNat) (by omega) (by rw [he9]; exact LV_cg hL (fun j => (ZG_Z hzf4).2 _ _ (by omega)) (fun j => (ZG_Z hzf4).2 _ _ (by omega))) (fun v hv => (hzf4.1 376 v (by omega)).trans (hvr v hv)) (fun v hv => (hzf4.1 377 v (by omega)).trans (hvq v hv)) hcv (fun v => rwV_ln (by omega))) ?_
        rintro _ H34 ⟨rfl, hI35, hq36, hx38⟩
        have hf39 : fq [(366, 4), (366, 5), (366, 6), (372, 9), (372, 10)] [367, 373, 374, 375] false H H34 := fq_t hf30 hq36 rfl rfl rfl
        refine k_run 0 (pc' := 62) (l' := [(0, .inr (.inr 372)), (1, .inr (.inr e)), (2, .inl b), (3, .inl c), (4, .inl x4), (5, .inl x5), (6, .inl x6), (7, .inl z29)]) (st' := []) rfl ?_
        refine k_run 1 (pc' := 63) (l' := [(0, .inr (.inr 372)), (1, .inr (.inr e)), (2, .inl b), (3, .inl c), (4, .inl x4), (5, .inl x5), (6, .inl x6), (7, .inl z29)]) (st' := [.inl 1]) rfl ?_
        refine h_reti (x := 1) rfl rfl ?_
        rw [hQ9]
        exact ⟨_, rfl, (by omega), hI35, hf39, (by first | (exfalso; omega) | exact (by obtain ⟨k1, k2⟩ := hx38; have q9 := tsO_hit (out := (rwO ar X al l ty nv b.toNat)) (k := x6.toNat) (by rw [← hi2]; exact hi3) (by omega); have q8 := tst_of (ar := ar) (X := X) (al := al) (l := l) (ty := ty) (nv := nv) (n := b.toNat) (k := x6.toNat + 1) (by omega) (by omega) (Or.inl (by rw [q9])); refine ⟨by rw [q8, q9], fun _ => ?_, fun q7 => absurd rfl q7, ZG_L hzf4 k2⟩; rw [q8, q9]; exact k1))⟩
set_option maxRecDepth 100000 in
theorem qv_tryLaw {X : rx} {ar : Int → Int} {cn fn : Int} {al : Bool} {nv l R : Nat} {ty : Nat → Int} {d : Nat} (hd : 21 ≤ d) {H : hp} (hI : Inv H) {e : Nat} {b : Int} {c : Int} (he : isE e) (hb : -2147483648 ≤ b ∧ b ≤ 2147483647) (hc : 0 ≤ c ∧ c ≤ 1) (hp0 : 1 ≤ b ∧ b ≤ 6) (hW : TW9 ar cn fn X nv l R) (hcl : (al = false → c = 0) ∧ (al = true → c = 1)) (hl9 : l < 16) (he9 : e = 265 + 6 * l) (hT : TC H X) (hL : LV9 H X (265 + 6 * l) nv ty) (hvr : VR9 H) (hvq : VQ9 H) (hsl : CM H (265 + 6 * l + 1) X (X (4 * l + 102) 0).toNat (fun k => X (4 * l + 102) (k + 1))) (hsr : CM H (265 + 6 * l + 3) X (X (4 * l + 103) 0).toNat (fun k => X (4 * l + 103) (k + 1))) (hC : CR H X R) (hud : H.1 368 1 = 1 ∧ H.1 369 0 = 0) : hG (zs zK) d mt_102 0 (zargs 0 [.inr (.inr 372), .inr (.inr e), .inl b, .inl c]) [] H (fun r9 H9 => ∃ z : Int, r9 = some (.inl z) ∧ ((-2147483648 ≤ z ∧ z ≤ 2147483647)) ∧ Inv H9 ∧ fq [(366, 4), (366, 5), (366, 6), (372, 9), (372, 10)] [367, 373, 374, 375] false H H9 ∧ (TA9 ar X al l ty nv b.toNat H H9 z)) := by
  obtain ⟨⟨hX, hcn, harc⟩, hK, ⟨hR9, hX06, hfn⟩, ⟨har, har0⟩, hnv6, hsd⟩ := id hW
  obtain ⟨Q9, hQ9⟩ : ∃ Q9 : Option zv → hp → Prop, Q9 = (fun r9 H9 => ∃ z : Int, r9 = some (.inl z) ∧ ((-2147483648 ≤ z ∧ z ≤ 2147483647)) ∧ Inv H9 ∧ fq [(366, 4), (366, 5), (366, 6), (372, 9), (372, 10)] [367, 373, 374, 375] false H H9 ∧ (TA9 ar X al l ty nv b.toNat H H9 z)) := ⟨_, rfl⟩
  rw [← hQ9]
  refine k_run 0 (pc' := 0) (l' := [(0, .inr (.inr 372)), (1, .inr (.inr e)), (2, .inl b), (3, .inl c)]) (st' := []) rfl ?_
  refine k_run 2 (pc' := 2) (l' := [(0, .inr (.inr 372)), (1, .inr (.inr e)), (2, .inl b), (3, .inl c)]) (st' := [.inl c, .inr (.inr 372)]) rfl ?_
  refine k_putz (z := c) (a := 372) (x := kx_372) rfl rfl rfl (by decide) (by decide) rfl rfl rfl rfl hI (by omega) rfl (fun H1 hI2 hw3 hv4 => ?_)
  have hf5 : fq [(366, 4), (366, 5), (366, 6), (372, 9), (372, 10)] [367, 373, 374, 375] false H H1 := fq_w (fq_rf _ _ _ _) hw3 (fpo (by decide) rfl)
  refine k_run 0 (pc' := 5) (l' := [(0, .inr (.inr 372)), (1, .inr (.inr e)), (2, .inl b), (3, .inl c)]) (st' := []) rfl ?_
  have hzf1 := ZF_w hw3
  have hT1 : TC H1 X := TC_lo hT (fun c j hc => hw3.2 _ _ (fun q9 => by have := q9.1; omega))
  have hal1 : (al = false → H1.1 372 9 = 0) ∧ (al = true → H1.1 372 9 = 1) := ⟨fun q9 => by rw [hv4]; exact hcl.1 q9, fun q9 => by rw [hv4]; exact hcl.2 q9⟩
  refine k_run 2 (pc' := 7) (l' := [(0, .inr (.inr 372)), (1, .inr (.inr e)), (2, .inl b), (3, .inl c)]) (st' := [.inl b, .inr (.inr 372)]) rfl ?_
  refine h_cv (i := 56) (j := 106) (b := 372) (M' := mt_106) (xs := [.inl b]) (rest := []) rfl rfl rfl rfl (zs_K (x := kx_372) rfl (by decide)) rfl (Nat.le_of_ble_eq_true rfl) (Nat.le_of_ble_eq_true rfl) (by omega) (qv_countValues (by omega) hI2 (by omega) (by omega) hX hT1 hal1) ?_
  rintro _ H7 ⟨rfl, hI8, hq9, hx11⟩
  have hf12 : fq [(366, 4), (366, 5), (366, 6), (372, 9), (372, 10)] [367, 373, 374, 375] false H H7 := fq_t hf5 hq9 rfl rfl rfl
  refine k_run 0 (pc' := 10) (l' := [(0, .inr (.inr 372)), (1, .inr (.inr e)), (2, .inl b), (3, .inl c)]) (st' := []) rfl ?_
  obtain ⟨hkv, hcf⟩ := hx11
  have hzf2 := ZF_tr hzf1 (ZF_C hcf)
  have hL2 : LV9 H7 X (265 + 6 * l) nv ty := LV_cg hL (fun j => (ZG_Z hzf2).2 _ _ (by omega)) (fun j => (ZG_Z hzf2).2 _ _ (by omega))
  refine k_run 3 (pc' := 13) (l' := [(0, .inr (.inr 372)), (1, .inr (.inr e)), (2, .inl b), (3, .inl c)]) (st' := [.inl b, .inr (.inr e), .inr (.inr 372)]) rfl ?_
  refine h_cv (i := 59) (j := 110) (b := 372) (M' := mt_110) (xs := [.inl b, .inr (.inr e)]) (rest := []) rfl rfl rfl rfl (zs_K (x := kx_372) rfl (by decide)) rfl (Nat.le_of_ble_eq_true rfl) (Nat.le_of_ble_eq_true rfl) (by omega) (qv_countRows (by omega) hI8 he (by omega) (by omega) hX (by omega) hkv (by rw [he9]; exact hL2)) ?_
  rintro _ H14 ⟨z19, rfl, g13, hI15, hq16, hx18⟩
  have hf20 : fq [(366, 4), (366, 5), (366, 6), (372, 9), (372, 10)] [367, 373, 374, 375] false H H14 := fq_t hf12 hq16 rfl rfl rfl
  refine k_run 0 (pc' := 16) (l' := [(0, .inr (.inr 372)), (1, .inr (.inr e)), (2, .inl b), (3, .inl c)]) (st' := [.inl z19]) rfl ?_
  obtain ⟨hrw, htl, htf⟩ := hx18
  have hzf3 := ZF_tr hzf2 (ZF_T htf)
  have hrw2 : z19 = ((cp (nRw X al ty nv b.toNat) : Nat) : Int) := hrw
  have hcl9 := cp_le_self (nRw X al ty nv b.toNat)
  refine k_run 3 (pc' := 23) (l' := [(0, .inr (.inr 372)), (1, .inr (.inr e)), (2, .inl b), (3, .inl c), (4, .inl z19)]) (st' := [.inl 2000, .inl z19]) rfl ?_
  refine h_ile (off := 6) (t := 29) rfl rfl (by omega) (by decide) (fun c21 => ?_) (fun c21 => ?_)
  · refine k_run 0 (pc' := 29) (l' := [(0, .inr (.inr 372)), (1, .inr (.inr e)), (2, .inl b), (3, .inl c), (4, .inl z19)]) (st' := []) rfl ?_
    have hrx : cp (nRw X al ty nv b.toNat) = (nRw X al ty nv b.toNat) := cp_ex (by omega)
    have hTS : (nRw X al ty nv b.toNat) = 0 ∨ TS9 H14 X al b.toNat nv ty l R := by by_cases q9 : (nRw X al ty nv b.toNat) = 0; { exact Or.inl q9 }; { refine Or.inr ⟨⟨TC_lo hT (fun c j hc => (ZG_Z hzf3).2 _ _ (by omega)), ?_⟩, ⟨KV_cg hkv (fun _ _ _ _ _ => htf.2 _ _ (by decide)) (fun _ _ _ _ _ _ => htf.2 _ _ (by decide)), LV_cg hL (fun j => (ZG_Z hzf3).2 _ _ (by omega)) (fun j => (ZG_Z hzf3).2 _ _ (by omega)), fun v hv => (hzf3.1 376 v (by omega)).trans (hvr v hv)⟩, fun v hv => ?_, ⟨CM_cg hsl ((ZG_Z hzf3).2 _ _ (by omega)) (fun x => (ZG_Z hzf3).2 _ _ (by omega)), CM_cg hsr ((ZG_Z hzf3).2 _ _ (by omega)) (fun x => (ZG_Z hzf3).2 _ _ (by omega))⟩, CR_ZG hC (ZG_Z hzf3), ((ZG_Z hzf3).2 _ _ (by omega)).trans hud.1, ((ZG_Z hzf3).2 _ _ (by omega)).trans hud.2⟩; { rw [htf.2 372 9 (by decide), hcf.2 372 9 (by decide) (by decide)]; exact hal1 }; { have q8 := prN_ps (tot := tot9 X al ty b.toNat) (k := nv) (by unfold nRw at q9; omega) v hv; have q7 := prN_le (tot := tot9 X al ty b.toNat) (k := nv) (by unfold nRw at q9; omega) v hv; have q6 : tot9 X al ty b.toNat v ≤ 2000 := Nat.le_trans q7 (by have q5 : prN (tot9 X al ty b.toNat) nv = (nRw X al ty nv b.toNat) := rfl; omega); rw [htl v hv, cp_ex (Nat.le_trans (cp_le_self _) q6)]; exact ⟨rfl, q8, q6⟩ } }
    refine k_run 4 (pc' := 35) (l' := [(0, .inr (.inr 372)), (1, .inr (.inr e)), (2, .inl b), (3, .inl c), (4, .inl z19), (5, .inl 0), (6, .inl 0)]) (st' := []) rfl ?_
    rw [hQ9]
    exact (qv_tryLaw_cut hd hI he hb hc hp0 hW hcl hl9 he9 hT hL hvr hvq hsl hsr hC hud _) H14 hI15 hf20 z19 (0 : Int) (0 : Int) (by omega) (by decide) (by decide) (by omega) (by omega) rfl (by decide) hzf3 hTS (by omega) (Nat.lt_succ_self _)
  · refine k_run 0 (pc' := 26) (l' := [(0, .inr (.inr 372)), (1, .inr (.inr e)), (2, .inl b), (3, .inl c), (4, .inl z19)]) (st' := []) rfl ?_
    refine k_run 1 (pc' := 28) (l' := [(0, .inr (.inr 372)), (1, .inr (.inr e)), (2, .inl b), (3, .inl c), (4, .inl z19)]) (st' := [.inl (-105)]) rfl ?_
    refine h_reti (x := (-105)) rfl rfl ?_
    rw [hQ9]
    exact ⟨_, rfl, (by omega), hI15, hf20, (by first | (exfalso; omega) | exact ⟨by unfold tst9; rw [if_pos (by omega)], fun q9 => absurd q9 (by decide), fun _ => TE_Z hzf3, ZG_Z hzf3⟩)⟩

/-- a law's variables in the machine's row -/
def nvX (X : rx) (l : Nat) : Nat := (X (4 * l + 103) 1000).toNat
def tyX (X : rx) (l v : Nat) : Int := X (4 * l + 103) (1001 + v)
/-- test: no such law, outside, or tried -/
def RTV (ar : Int → Int) (X : rx) (al : Bool) (a b : Int) (H H9 : hp) (z : Int) : Prop := ((a < 0 ∨ X 0 7 ≤ a) ∧ z = -101 ∧ H9 = H) ∨ ((0 ≤ a ∧ a < X 0 7) ∧ (b < 1 ∨ 6 < b) ∧ z = -102 ∧ H9 = H) ∨ ((0 ≤ a ∧ a < X 0 7) ∧ (1 ≤ b ∧ b ≤ 6) ∧ TA9 ar X al a.toNat (tyX X a.toNat) (nvX X a.toNat) b.toNat H H9 z)

/-! test -/
set_option maxRecDepth 100000 in
theorem q_test {X : rx} {ar : Int → Int} {cn fn : Int} {al : Bool} {R : Nat} {d : Nat} (hd : 22 ≤ d) {H : hp} (hI : Inv H) {a : Int} {b : Int} {c : Int} (ha : -2147483648 ≤ a ∧ a ≤ 2147483647) (hb : -2147483648 ≤ b ∧ b ≤ 2147483647) (hc : 0 ≤ c ∧ c ≤ 1) (hT : TC H X) (hE : ER H) (hcl : (al = false → c = 0) ∧ (al = true → c = 1)) (hW : ∀ l : Nat, (l : Int) < X 0 7 → l < 16 → TW9 ar cn fn X (nvX X l) l R ∧ LV9 H X (265 + 6 * l) (nvX X l) (tyX X l) ∧ CM H (265 + 6 * l + 1) X (X (4 * l + 102) 0).toNat (fun k => X (4 * l + 102) (k + 1)) ∧ CM H (265 + 6 * l + 3) X (X (4 * l + 103) 0).toNat (fun k => X (4 * l + 103) (k + 1))) (hvr : VR9 H) (hvq : VQ9 H) (hC : CR H X R) (hud : H.1 368 1 = 1 ∧ H.1 369 0 = 0) : hG (zs zK) d mt_9 0 (zargs 0 [.inr (.inr 1), .inl a, .inl b, .inl c]) [] H (fun r9 H9 => ∃ z : Int, r9 = some (.inl z) ∧ ((-2147483648 ≤ z ∧ z ≤ 2147483647)) ∧ Inv H9 ∧ fq [(366, 4), (366, 5), (366, 6), (372, 9), (372, 10)] [367, 373, 374, 375] false H H9 ∧ (RTV ar X al a b H H9 z)) := by
  have hT0 := hT.1
  obtain ⟨Q9, hQ9⟩ : ∃ Q9 : Option zv → hp → Prop, Q9 = (fun r9 H9 => ∃ z : Int, r9 = some (.inl z) ∧ ((-2147483648 ≤ z ∧ z ≤ 2147483647)) ∧ Inv H9 ∧ fq [(366, 4), (366, 5), (366, 6), (372, 9), (372, 10)] [367, 373, 374, 375] false H H9 ∧ (RTV ar X al a b H H9 z)) := ⟨_, rfl⟩
  rw [← hQ9]
  refine k_run 0 (pc' := 0) (l' := [(0, .inr (.inr 1)), (1, .inl a), (2, .inl b), (3, .inl c)]) (st' := []) rfl ?_
  refine k_run 3 (pc' := 5) (l' := [(0, .inr (.inr 1)), (1, .inl a), (2, .inl b), (3, .inl c)]) (st' := [.inl a, .inr (.inr 7)]) rfl ?_
  refine h_cv (i := 144) (j := 35) (b := 7) (M' := mt_35) (xs := [.inl a]) (rest := []) rfl rfl rfl rfl (zs_K (x := kx_7) rfl (by decide)) rfl (Nat.le_of_ble_eq_true rfl) (Nat.le_of_ble_eq_true rfl) (by omega) (qq_hasLaw (by omega) hI (by omega)) ?_
  rintro _ _ ⟨z7, rfl, g1, rfl⟩
  refine k_run 0 (pc' := 8) (l' := [(0, .inr (.inr 1)), (1, .inl a), (2, .inl b), (3, .inl c)]) (st' := [.inl z7]) rfl ?_
  refine h_zne (off := 6) (t := 14) rfl rfl (by omega) (fun c8 => ?_) (fun c8 => ?_)
  · refine k_run 0 (pc' := 14) (l' := [(0, .inr (.inr 1)), (1, .inl a), (2, .inl b), (3, .inl c)]) (st' := []) rfl ?_
    refine k_run 2 (pc' := 16) (l' := [(0, .inr (.inr 1)), (1, .inl a), (2, .inl b), (3, .inl c)]) (st' := [.inl 1, .inl b]) rfl ?_
    refine h_ilt (off := 9) (t := 25) rfl rfl (by omega) (by decide) (fun c9 => ?_) (fun c9 => ?_)
    · refine k_run 0 (pc' := 25) (l' := [(0, .inr (.inr 1)), (1, .inl a), (2, .inl b), (3, .inl c)]) (st' := []) rfl ?_
      refine k_run 1 (pc' := 27) (l' := [(0, .inr (.inr 1)), (1, .inl a), (2, .inl b), (3, .inl c)]) (st' := [.inl (-102)]) rfl ?_
      refine h_reti (x := (-102)) rfl rfl ?_
      rw [hQ9]
      exact ⟨_, rfl, (by omega), hI, (fq_rf _ _ _ _), (by first | (exfalso; omega) | exact (Or.inr (Or.inl ⟨by omega, by omega, rfl, rfl⟩)))⟩
    · refine k_run 0 (pc' := 19) (l' := [(0, .inr (.inr 1)), (1, .inl a), (2, .inl b), (3, .inl c)]) (st' := []) rfl ?_
      refine k_run 2 (pc' := 22) (l' := [(0, .inr (.inr 1)), (1, .inl a), (2, .inl b), (3, .inl c)]) (st' := [.inl 6, .inl b]) rfl ?_
      refine h_ile (off := 6) (t := 28) rfl rfl (by omega) (by decide) (fun c10 => ?_) (fun c10 => ?_)
      · refine k_run 0 (pc' := 28) (l' := [(0, .inr (.inr 1)), (1, .inl a), (2, .inl b), (3, .inl c)]) (st' := []) rfl ?_
        refine k_run 6 (pc' := 40) (l' := [(0, .inr (.inr 1)), (1, .inl a), (2, .inl b), (3, .inl c)]) (st' := [.inl a, .inr (.inr 24), .inr (.inr 372)]) rfl ?_
        refine k_ald (c := 24) (j := (a).toNat) (i := a) (x := kx_24) rfl rfl (by decide) rfl (by decide) (by omega) (by omega) hI (fun h11 => ?_)
        obtain ⟨t12, et14⟩ : ∃ t9, t9 = H.2 24 (a).toNat := ⟨_, rfl⟩
        rw [← et14] at h11 ⊢
        have k13 : isE t12 := h11
        refine k_run 0 (pc' := 41) (l' := [(0, .inr (.inr 1)), (1, .inl a), (2, .inl b), (3, .inl c)]) (st' := [.inr (.inr t12), .inr (.inr 372)]) rfl ?_
        have he9 : t12 = 265 + 6 * a.toNat := by rw [et14]; exact hE.2 a.toNat (by omega)
        refine k_run 2 (pc' := 43) (l' := [(0, .inr (.inr 1)), (1, .inl a), (2, .inl b), (3, .inl c)]) (st' := [.inl c, .inl b, .inr (.inr t12), .inr (.inr 372)]) rfl ?_
        refine h_cv (i := 187) (j := 102) (b := 372) (M' := mt_102) (xs := [.inl c, .inl b, .inr (.inr t12)]) (rest := []) rfl rfl rfl rfl (zs_K (x := kx_372) rfl (by decide)) rfl (Nat.le_of_ble_eq_true rfl) (Nat.le_of_ble_eq_true rfl) (by omega) (qv_tryLaw (by omega) hI k13 (by omega) (by omega) (by omega) (hW a.toNat (by omega) (by omega)).1 hcl (by omega) he9 hT (hW a.toNat (by omega) (by omega)).2.1 hvr hvq (hW a.toNat (by omega) (by omega)).2.2.1 (hW a.toNat (by omega) (by omega)).2.2.2 hC hud) ?_
        rintro _ H16 ⟨z21, rfl, g15, hI17, hq18, hx20⟩
        have hf22 : fq [(366, 4), (366, 5), (366, 6), (372, 9), (372, 10)] [367, 373, 374, 375] false H H16 := fq_t (fq_rf _ _ _ _) hq18 rfl rfl rfl
        refine k_run 0 (pc' := 46) (l' := [(0, .inr (.inr 1)), (1, .inl a), (2, .inl b), (3, .inl c)]) (st' := [.inl z21]) rfl ?_
        refine h_reti (x := z21) rfl rfl ?_
        rw [hQ9]
        exact ⟨_, rfl, (by omega), hI17, hf22, (by first | (exfalso; omega) | exact (Or.inr (Or.inr ⟨by omega, by omega, hx20⟩)))⟩
      · refine k_run 0 (pc' := 25) (l' := [(0, .inr (.inr 1)), (1, .inl a), (2, .inl b), (3, .inl c)]) (st' := []) rfl ?_
        refine k_run 1 (pc' := 27) (l' := [(0, .inr (.inr 1)), (1, .inl a), (2, .inl b), (3, .inl c)]) (st' := [.inl (-102)]) rfl ?_
        refine h_reti (x := (-102)) rfl rfl ?_
        rw [hQ9]
        exact ⟨_, rfl, (by omega), hI, (fq_rf _ _ _ _), (by first | (exfalso; omega) | exact (Or.inr (Or.inl ⟨by omega, by omega, rfl, rfl⟩)))⟩
  · refine k_run 0 (pc' := 11) (l' := [(0, .inr (.inr 1)), (1, .inl a), (2, .inl b), (3, .inl c)]) (st' := []) rfl ?_
    refine k_run 1 (pc' := 13) (l' := [(0, .inr (.inr 1)), (1, .inl a), (2, .inl b), (3, .inl c)]) (st' := [.inl (-101)]) rfl ?_
    refine h_reti (x := (-101)) rfl rfl ?_
    rw [hQ9]
    exact ⟨_, rfl, (by omega), hI, (fq_rf _ _ _ _), (by first | (exfalso; omega) | exact (Or.inl ⟨by omega, rfl, rfl⟩))⟩
