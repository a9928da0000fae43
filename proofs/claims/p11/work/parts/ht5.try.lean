/-! the class tries a law -/
/-- what a row's trying writes -/
def QF9 (H H1 : hp) : Prop := (∀ c j, ¬ (c = 366 ∧ j = 4) → H1.2 c j = H.2 c j) ∧ ∀ c j, c ∉ [366, 367, 370, 371, 378, 379, 380, 381] → (∀ v : Nat, v < 6 → c ≠ 382 + 4 * v ∧ c ≠ 383 + 4 * v) → H1.1 c j = H.1 c j
theorem QF_rf (H : hp) : QF9 H H := ⟨fun _ _ _ => rfl, fun _ _ _ _ => rfl⟩
theorem QF_tr {H H1 H2 : hp} (h : QF9 H H1) (g : QF9 H1 H2) : QF9 H H2 := ⟨fun c j q => (g.1 c j q).trans (h.1 c j q), fun c j q q2 => (g.2 c j q q2).trans (h.2 c j q q2)⟩
theorem QF_S {H H1 : hp} (h : SF9 H H1) : QF9 H H1 := ⟨fun c j _ => by rw [h.1], fun c j _ q2 => h.2 c j q2⟩
theorem QF_A {H H1 : hp} {t : Nat} (h : AF t H H1) (ht : t = 378 ∨ t = 380) : QF9 H H1 := ⟨fun c j _ => by rw [h.1], fun c j q _ => h.2 c j (by simp at q; omega) (by simp at q; omega)⟩
theorem QF_W {H H1 : hp} {t : Nat} (h : WF t H H1) (ht : t = 378 ∨ t = 380) : QF9 H H1 := ⟨h.1, fun c j q _ => h.2 c j (by simp at q ⊢; omega) (by simp at q; omega) (by simp at q; omega)⟩
theorem QF_lo {H H1 : hp} (h : QF9 H H1) {c j : Nat} (hc : c < 366 ∨ c = 368 ∨ c = 369 ∨ (372 ≤ c ∧ c < 378) ∨ 406 ≤ c) : H1.1 c j = H.1 c j := h.2 c j (by simp; omega) (fun v hv => by omega)
theorem CM_cg {H H1 : hp} {t : Nat} {X : rx} {N : Nat} {g : Nat → Int} (h : CM H t X N g) (h1 : H1.1 t 1 = H.1 t 1) (h2 : ∀ x, H1.1 (t + 1) x = H.1 (t + 1) x) : CM H1 t X N g := ⟨h1.trans h.1, fun x hx => (h2 x).trans (h.2 x hx)⟩
/-- what stays while a law is tried -/
def TS9 (H : hp) (X : rx) (al : Bool) (N nv : Nat) (ty : Nat → Int) (l R : Nat) : Prop := (TC H X ∧ ((al = false → H.1 372 9 = 0) ∧ (al = true → H.1 372 9 = 1))) ∧ (KV H X al N ∧ LV9 H X (265 + 6 * l) nv ty ∧ VR9 H) ∧ (∀ v : Nat, v < nv → H.1 375 v = ((tot9 X al ty N v : Nat) : Int) ∧ 1 ≤ tot9 X al ty N v ∧ tot9 X al ty N v ≤ 2000) ∧ (CM H (265 + 6 * l + 1) X (X (4 * l + 102) 0).toNat (fun k => X (4 * l + 102) (k + 1)) ∧ CM H (265 + 6 * l + 3) X (X (4 * l + 103) 0).toNat (fun k => X (4 * l + 103) (k + 1))) ∧ CR H X R ∧ (H.1 368 1 = 1 ∧ H.1 369 0 = 0)
theorem TS_cg {H H1 : hp} {X : rx} {al : Bool} {N nv : Nat} {ty : Nat → Int} {l R : Nat} (h : TS9 H X al N nv ty l R) (g : QF9 H H1) (hl : l < 16) : TS9 H1 X al N nv ty l R := by
  obtain ⟨⟨h1, h2⟩, ⟨h3, h4, h5⟩, h6, ⟨h7, h8⟩, h9, h10⟩ := h
  refine ⟨⟨TC_lo h1 (fun c j hc => QF_lo g (by omega)), by rw [QF_lo g (by omega)]; exact h2⟩, ⟨KV_cg h3 (fun _ _ _ _ _ => QF_lo g (by omega)) (fun _ _ _ _ _ _ => QF_lo g (by omega)), LV_cg h4 (fun j => QF_lo g (by omega)) (fun j => QF_lo g (by omega)), fun v hv => (g.1 376 v (by omega)).trans (h5 v hv)⟩, fun v hv => by rw [QF_lo g (by omega)]; exact h6 v hv, ⟨CM_cg h7 (QF_lo g (by omega)) (fun x => QF_lo g (by omega)), CM_cg h8 (QF_lo g (by omega)) (fun x => QF_lo g (by omega))⟩, ?_, (QF_lo g (by omega)).trans h10.1, (QF_lo g (by omega)).trans h10.2⟩
  obtain ⟨⟨a1, a2⟩, ⟨a3, a4⟩, a5⟩ := h9
  refine ⟨⟨(QF_lo g (by omega)).trans a1, a2⟩, ⟨fun r hr => (g.1 23 r (by omega)).trans (a3 r hr), fun r hr => (g.1 24 r (by omega)).trans (a4 r hr)⟩, fun r hr => ?_⟩
  obtain ⟨⟨⟨b1, b2⟩, c1, c2⟩, d1⟩ := a5 r hr
  exact ⟨⟨⟨(QF_lo g (by omega)).trans b1, fun j hj => (QF_lo g (by omega)).trans (b2 j hj)⟩, (QF_lo g (by omega)).trans c1, fun j hj => (QF_lo g (by omega)).trans (c2 j hj)⟩, by rw [QF_lo g (by omega)]; exact d1⟩
/-- what the tables keep of a law and of the rules -/
def TW9 (ar : Int → Int) (cn fn : Int) (X : rx) (nv l R : Nat) : Prop := (CT9 X ∧ cn = X 0 4 ∧ ∀ c : Nat, (c : Int) < X 0 4 → ar (1 + (c : Int)) = X 4 c) ∧ (∀ s, m_sg cn fn 40 s → KF9 X s ∧ aC (kcd X s) = ar s) ∧ ((∀ r : Nat, r < R → RW9r ar cn fn X r) ∧ X 0 6 = (R : Int) ∧ fn ≤ 16 ∧ cn ≤ 16) ∧ ((∀ s, 1000 ≤ s → ar s = 0) ∧ ar 0 = 0) ∧ nv ≤ 6 ∧ ∀ s : Nat, s = 4 * l + 102 ∨ s = 4 * l + 103 → (X s 0).toNat ≤ 40 ∧ tm ar (m_sg cn fn 40) (fun k => X s (k + 1)) (X s 0).toNat 0 1 ∧ ∀ k : Nat, k < (X s 0).toNat → 1000 ≤ X s (k + 1) → (X s (k + 1) - 1000).toNat < nv
theorem rwV_ln {X : rx} {al : Bool} {ty : Nat → Int} {nv N r v : Nat} (hN : N ≤ 6) : (rwV X al ty nv N r v).length ≤ 6 := by
  unfold rwV
  by_cases q : dgt (tot9 X al ty N) nv r v < (vL X al (ty v) N).length
  · obtain ⟨i, h1, h2, h3⟩ := vL_mem (vAt_mem q)
    rw [vv_ln h3]
    omega
  · unfold vAt
    rw [List.getD_eq_getElem?_getD, List.getElem?_eq_none (by omega)]
    exact Nat.zero_le _
theorem rwV_tm {ar : Int → Int} {cn fn : Int} {X : rx} {al : Bool} {ty : Nat → Int} {nv N r v : Nat} (hX : CT9 X) (hc : cn = X 0 4) (har : ∀ c : Nat, (c : Int) < X 0 4 → ar (1 + (c : Int)) = X 4 c) (ha0 : ar 0 = 0) (ht : 1 ≤ tot9 X al ty N v) : tm ar (m_sg cn fn 0) (ga (rwV X al ty nv N r v)) (rwV X al ty nv N r v).length 0 1 := by
  obtain ⟨i, h1, h2, h3⟩ := vL_mem (vAt_mem (L := vL X al (ty v) N) (dgt_lt (tot := tot9 X al ty N) (nv := nv) (r := r) (v := v) ht))
  exact vlv_tm hc har ha0 (fun c hc => (hX.2.2 c hc).2.1) h3
/-- the side s of a law, filled for a row, is a term -/
theorem fl_ok {ar : Int → Int} {cn fn : Int} {X : rx} {al : Bool} {ty : Nat → Int} {nv N r l R s : Nat} (hW : TW9 ar cn fn X nv l R) (hN : N ≤ 6) (hs : s = 4 * l + 102 ∨ s = 4 * l + 103) (ht : ∀ v : Nat, v < nv → 1 ≤ tot9 X al ty N v) : (fil (fun k => X s (k + 1)) (rwV X al ty nv N r) (X s 0).toNat).length ≤ 240 ∧ tm ar (m_sg cn fn 0) (ga (fil (fun k => X s (k + 1)) (rwV X al ty nv N r) (X s 0).toNat)) (fil (fun k => X s (k + 1)) (rwV X al ty nv N r) (X s 0).toNat).length 0 1 := by
  obtain ⟨⟨a1, a2, a3⟩, -, -, ⟨b1, b2⟩, -, c⟩ := hW
  obtain ⟨c1, c2, c3⟩ := c s hs
  have h1 := fil_ln (a := fun k => X s (k + 1)) (vs := rwV X al ty nv N r) (fun v => rwV_ln hN) (X s 0).toNat
  exact ⟨by omega, fil_tm c2 b1 (fun x hx hv => rwV_tm a1 a2 a3 b2 (ht _ (c3 x hx hv)))⟩
theorem fl_sg {ar : Int → Int} {cn fn : Int} {X : rx} {nv l R s : Nat} (hW : TW9 ar cn fn X nv l R) (hs : s = 4 * l + 102 ∨ s = 4 * l + 103) (x : Nat) (hx : x < (X s 0).toNat) : m_sg cn fn 40 (X s (x + 1)) ∧ (1000 ≤ X s (x + 1) → (X s (x + 1) - 1000).toNat < nv) := by
  obtain ⟨c1, c2, c3⟩ := hW.2.2.2.2.2 s hs
  have := tm_ok c2 x hx
  rw [Nat.zero_add] at this
  exact ⟨this, c3 x hx⟩
theorem CM_same {H : hp} {t u : Nat} {X : rx} {ar : Int → Int} {cn fn : Int} {l m : List Int} (h : CM H t X l.length (ga l)) (g : CM H u X m.length (ga m)) (hK : ∀ s, m_sg cn fn 40 s → KF9 X s ∧ aC (kcd X s) = ar s) (hl : tm ar (m_sg cn fn 0) (ga l) l.length 0 1) (hm : tm ar (m_sg cn fn 0) (ga m) m.length 0 1) (e1 : H.1 t 1 = H.1 u 1) (e2 : ∀ x : Nat, (x : Int) < H.1 u 1 → H.1 (t + 1) x = H.1 (u + 1) x) : l = m := by
  have h1 := h.1
  have g1 := g.1
  refine list_ga (by omega) (fun x hx => ?_)
  have h2 := e2 x (by omega)
  rw [h.2 x hx, g.2 x (by omega)] at h2
  have s1 := tm_ok hl x hx
  have s2 := tm_ok hm x (by omega)
  rw [Nat.zero_add] at s1 s2
  exact (KF_inj (hK _ (m_sg_0 s1)).1 (hK _ (m_sg_0 s2)).1).mp h2
theorem CM_diff {H : hp} {t u : Nat} {X : rx} {l : List Int} (h : CM H t X l.length (ga l)) (g : CM H u X l.length (ga l)) (q : H.1 t 1 ≠ H.1 u 1 ∨ ∃ x : Nat, (x : Int) < H.1 u 1 ∧ H.1 (t + 1) x ≠ H.1 (u + 1) x) : False := by
  rcases q with q | ⟨x, q1, q2⟩
  · exact q (h.1.trans g.1.symm)
  · have g1 := g.1
    exact q2 (by rw [h.2 x (by omega), g.2 x (by omega)])

/-! Term.hasAt -/
set_option maxRecDepth 100000 in
theorem qv_hasAt_cut {d : Nat} (hd : 1 ≤ d) {H : hp} (hI : Inv H) {t n : Nat} {a : Int} {u m : Nat} (ht : isT t n) (ha : -2147483648 ≤ a ∧ a ≤ 2147483647) (hu : isT u m) (ha0 : a = 0) (hsz : H.1 t 1 = H.1 u 1) : ∀ w : Nat, (∀ (x3 : Int) , (-2147483648 ≤ x3 ∧ x3 ≤ 2147483647) → (0 ≤ x3) → (∀ x : Nat, (x : Int) < x3 → H.1 (t + 1) x = H.1 (u + 1) x) → (((1000 - x3).toNat) < w) → hG (zs zK) d mt_56 21 [(0, .inr (.inr t)), (1, .inl a), (2, .inr (.inr u)), (3, .inl x3)] [] H (fun r9 H9 => ∃ z : Int, r9 = some (.inl z) ∧ ((0 ≤ z ∧ z ≤ 1)) ∧ ((z = 1 ∧ ∀ x : Nat, (x : Int) < H.1 u 1 → H.1 (t + 1) x = H.1 (u + 1) x) ∨ (z = 0 ∧ ∃ x : Nat, (x : Int) < H.1 u 1 ∧ H.1 (t + 1) x ≠ H.1 (u + 1) x)) ∧ H = H9)) := by
  intro w
  induction w with
  | zero => exact fun _ _ _ _ h => absurd h (Nat.not_lt_zero _)
  | succ w ih =>
    intro x3 hx3 hi0 hi1 hw
    have htb := ht.2.2.2.2
    have hub := hu.2.2.2.2
    have g5 : 0 ≤ (H.1 t 1) ∧ (H.1 t 1) ≤ n := kn hI ht.1 1
    have g6 : 0 ≤ (H.1 u 1) ∧ (H.1 u 1) ≤ m := kn hI hu.1 1
    refine k_run 2 (pc' := 23) (l' := [(0, .inr (.inr t)), (1, .inl a), (2, .inr (.inr u)), (3, .inl x3)]) (st' := [.inr (.inr u), .inl x3]) rfl ?_
    refine k_get (a := u) (x := (kTo u m)) (v := .inl (H.1 u 1)) rfl rfl hu.1 (iT0 hu) rfl rfl rfl ?_
    refine k_run 0 (pc' := 26) (l' := [(0, .inr (.inr t)), (1, .inl a), (2, .inr (.inr u)), (3, .inl x3)]) (st' := [.inl (H.1 u 1), .inl x3]) rfl ?_
    refine h_ige (off := 28) (t := 54) rfl rfl (by omega) (by omega) (fun c7 => ?_) (fun c7 => ?_)
    · refine k_run 0 (pc' := 54) (l' := [(0, .inr (.inr t)), (1, .inl a), (2, .inr (.inr u)), (3, .inl x3)]) (st' := []) rfl ?_
      refine k_run 1 (pc' := 55) (l' := [(0, .inr (.inr t)), (1, .inl a), (2, .inr (.inr u)), (3, .inl x3)]) (st' := [.inl 1]) rfl ?_
      refine h_retz (x := 1) rfl rfl (by decide) ?_
      exact ⟨_, rfl, (by omega), (by first | (exfalso; omega) | exact Or.inl ⟨rfl, fun x hx => hi1 x (by omega)⟩ | exact Or.inr ⟨rfl, x3.toNat, by omega, fun q9 => by rw [show (a + x3).toNat = x3.toNat by omega] at *; omega⟩), rfl⟩
    · refine k_run 0 (pc' := 29) (l' := [(0, .inr (.inr t)), (1, .inl a), (2, .inr (.inr u)), (3, .inl x3)]) (st' := []) rfl ?_
      refine k_run 1 (pc' := 30) (l' := [(0, .inr (.inr t)), (1, .inl a), (2, .inr (.inr u)), (3, .inl x3)]) (st' := [.inr (.inr t)]) rfl ?_
      refine k_get (a := t) (x := (kTo t n)) (v := .inr (.inr (t + 1))) rfl rfl ht.1 (iT0 ht) rfl rfl rfl ?_
      refine k_run 0 (pc' := 33) (l' := [(0, .inr (.inr t)), (1, .inl a), (2, .inr (.inr u)), (3, .inl x3)]) (st' := [.inr (.inr (t + 1))]) rfl ?_
      refine k_run 3 (pc' := 36) (l' := [(0, .inr (.inr t)), (1, .inl a), (2, .inr (.inr u)), (3, .inl x3)]) (st' := [.inl (a + x3), .inr (.inr (t + 1))]) rfl ?_
      refine k_ild (c := (t + 1)) (j := ((a + x3)).toNat) (i := (a + x3)) (x := (kTc n)) rfl ht.2.1 (iT1 ht) rfl (by omega) (by omega) (by omega) ?_
      have g8 : -2147483648 ≤ (H.1 (t + 1) ((a + x3)).toNat) ∧ (H.1 (t + 1) ((a + x3)).toNat) ≤ 2147483647 := kn hI ht.2.1 ((a + x3)).toNat
      refine k_run 0 (pc' := 37) (l' := [(0, .inr (.inr t)), (1, .inl a), (2, .inr (.inr u)), (3, .inl x3)]) (st' := [.inl (H.1 (t + 1) ((a + x3)).toNat)]) rfl ?_
      refine k_run 1 (pc' := 38) (l' := [(0, .inr (.inr t)), (1, .inl a), (2, .inr (.inr u)), (3, .inl x3)]) (st' := [.inr (.inr u), .inl (H.1 (t + 1) ((a + x3)).toNat)]) rfl ?_
      refine k_get (a := u) (x := (kTo u m)) (v := .inr (.inr (u + 1))) rfl rfl hu.1 (iT0 hu) rfl rfl rfl ?_
      refine k_run 0 (pc' := 41) (l' := [(0, .inr (.inr t)), (1, .inl a), (2, .inr (.inr u)), (3, .inl x3)]) (st' := [.inr (.inr (u + 1)), .inl (H.1 (t + 1) ((a + x3)).toNat)]) rfl ?_
      refine k_run 1 (pc' := 42) (l' := [(0, .inr (.inr t)), (1, .inl a), (2, .inr (.inr u)), (3, .inl x3)]) (st' := [.inl x3, .inr (.inr (u + 1)), .inl (H.1 (t + 1) ((a + x3)).toNat)]) rfl ?_
      refine k_ild (c := (u + 1)) (j := (x3).toNat) (i := x3) (x := (kTc m)) rfl hu.2.1 (iT1 hu) rfl (by omega) (by omega) (by omega) ?_
      have g9 : -2147483648 ≤ (H.1 (u + 1) (x3).toNat) ∧ (H.1 (u + 1) (x3).toNat) ≤ 2147483647 := kn hI hu.2.1 (x3).toNat
      refine k_run 0 (pc' := 43) (l' := [(0, .inr (.inr t)), (1, .inl a), (2, .inr (.inr u)), (3, .inl x3)]) (st' := [.inl (H.1 (u + 1) (x3).toNat), .inl (H.1 (t + 1) ((a + x3)).toNat)]) rfl ?_
      refine h_ieq (off := 5) (t := 48) rfl rfl (by omega) (by omega) (fun c10 => ?_) (fun c10 => ?_)
      · refine k_run 0 (pc' := 48) (l' := [(0, .inr (.inr t)), (1, .inl a), (2, .inr (.inr u)), (3, .inl x3)]) (st' := []) rfl ?_
        refine k_run 2 (pc' := 21) (l' := [(0, .inr (.inr t)), (1, .inl a), (2, .inr (.inr u)), (3, .inl (x3 + 1))]) (st' := []) rfl ?_
        exact ih (x3 + 1) (by omega) (by omega) (fun x hx => by by_cases q9 : x = x3.toNat; { subst q9; rw [show (a + x3).toNat = x3.toNat by omega] at *; omega }; { exact hi1 x (by omega) }) (by omega)
      · refine k_run 0 (pc' := 46) (l' := [(0, .inr (.inr t)), (1, .inl a), (2, .inr (.inr u)), (3, .inl x3)]) (st' := []) rfl ?_
        refine k_run 1 (pc' := 47) (l' := [(0, .inr (.inr t)), (1, .inl a), (2, .inr (.inr u)), (3, .inl x3)]) (st' := [.inl 0]) rfl ?_
        refine h_retz (x := 0) rfl rfl (by decide) ?_
        exact ⟨_, rfl, (by omega), (by first | (exfalso; omega) | exact Or.inl ⟨rfl, fun x hx => hi1 x (by omega)⟩ | exact Or.inr ⟨rfl, x3.toNat, by omega, fun q9 => by rw [show (a + x3).toNat = x3.toNat by omega] at *; omega⟩), rfl⟩
set_option maxRecDepth 100000 in
theorem qv_hasAt {d : Nat} (hd : 1 ≤ d) {H : hp} (hI : Inv H) {t n : Nat} {a : Int} {u m : Nat} (ht : isT t n) (ha : -2147483648 ≤ a ∧ a ≤ 2147483647) (hu : isT u m) (ha0 : a = 0) (hsz : H.1 t 1 = H.1 u 1) : hG (zs zK) d mt_56 0 (zargs 0 [.inr (.inr t), .inl a, .inr (.inr u)]) [] H (fun r9 H9 => ∃ z : Int, r9 = some (.inl z) ∧ ((0 ≤ z ∧ z ≤ 1)) ∧ ((z = 1 ∧ ∀ x : Nat, (x : Int) < H.1 u 1 → H.1 (t + 1) x = H.1 (u + 1) x) ∨ (z = 0 ∧ ∃ x : Nat, (x : Int) < H.1 u 1 ∧ H.1 (t + 1) x ≠ H.1 (u + 1) x)) ∧ H = H9) := by
  have htb := ht.2.2.2.2
  have hub := hu.2.2.2.2
  refine k_run 0 (pc' := 0) (l' := [(0, .inr (.inr t)), (1, .inl a), (2, .inr (.inr u))]) (st' := []) rfl ?_
  refine k_run 1 (pc' := 1) (l' := [(0, .inr (.inr t)), (1, .inl a), (2, .inr (.inr u))]) (st' := [.inl a]) rfl ?_
  refine h_zlt (off := 16) (t := 17) rfl rfl (by omega) (fun c1 => ?_) (fun c1 => ?_)
  · refine k_run 0 (pc' := 17) (l' := [(0, .inr (.inr t)), (1, .inl a), (2, .inr (.inr u))]) (st' := []) rfl ?_
    refine k_run 1 (pc' := 18) (l' := [(0, .inr (.inr t)), (1, .inl a), (2, .inr (.inr u))]) (st' := [.inl 0]) rfl ?_
    refine h_retz (x := 0) rfl rfl (by decide) ?_
    exact ⟨_, rfl, (by omega), (by first | (exfalso; omega) | exact Or.inl ⟨rfl, fun x hx => hi1 x (by omega)⟩ | exact Or.inr ⟨rfl, x3.toNat, by omega, fun q9 => by rw [show (a + x3).toNat = x3.toNat by omega] at *; omega⟩), rfl⟩
  · refine k_run 0 (pc' := 4) (l' := [(0, .inr (.inr t)), (1, .inl a), (2, .inr (.inr u))]) (st' := []) rfl ?_
    refine k_run 1 (pc' := 5) (l' := [(0, .inr (.inr t)), (1, .inl a), (2, .inr (.inr u))]) (st' := [.inr (.inr u)]) rfl ?_
    refine k_get (a := u) (x := (kTo u m)) (v := .inl (H.1 u 1)) rfl rfl hu.1 (iT0 hu) rfl rfl rfl ?_
    have g2 : 0 ≤ (H.1 u 1) ∧ (H.1 u 1) ≤ m := kn hI hu.1 1
    refine k_run 0 (pc' := 8) (l' := [(0, .inr (.inr t)), (1, .inl a), (2, .inr (.inr u))]) (st' := [.inl (H.1 u 1)]) rfl ?_
    refine k_run 1 (pc' := 9) (l' := [(0, .inr (.inr t)), (1, .inl a), (2, .inr (.inr u))]) (st' := [.inr (.inr t), .inl (H.1 u 1)]) rfl ?_
    refine k_get (a := t) (x := (kTo t n)) (v := .inl (H.1 t 1)) rfl rfl ht.1 (iT0 ht) rfl rfl rfl ?_
    have g3 : 0 ≤ (H.1 t 1) ∧ (H.1 t 1) ≤ n := kn hI ht.1 1
    refine k_run 0 (pc' := 12) (l' := [(0, .inr (.inr t)), (1, .inl a), (2, .inr (.inr u))]) (st' := [.inl (H.1 t 1), .inl (H.1 u 1)]) rfl ?_
    refine k_run 2 (pc' := 14) (l' := [(0, .inr (.inr t)), (1, .inl a), (2, .inr (.inr u))]) (st' := [.inl ((H.1 t 1) - a), .inl (H.1 u 1)]) rfl ?_
    refine h_ile (off := 5) (t := 19) rfl rfl (by omega) (by omega) (fun c4 => ?_) (fun c4 => ?_)
    · refine k_run 0 (pc' := 19) (l' := [(0, .inr (.inr t)), (1, .inl a), (2, .inr (.inr u))]) (st' := []) rfl ?_
      refine k_run 2 (pc' := 21) (l' := [(0, .inr (.inr t)), (1, .inl a), (2, .inr (.inr u)), (3, .inl 0)]) (st' := []) rfl ?_
      exact (qv_hasAt_cut hd hI ht ha hu ha0 hsz _) (0 : Int) (by decide) (by omega) (fun x hx => absurd hx (by omega)) (Nat.lt_succ_self _)
    · refine k_run 0 (pc' := 17) (l' := [(0, .inr (.inr t)), (1, .inl a), (2, .inr (.inr u))]) (st' := []) rfl ?_
      refine k_run 1 (pc' := 18) (l' := [(0, .inr (.inr t)), (1, .inl a), (2, .inr (.inr u))]) (st' := [.inl 0]) rfl ?_
      refine h_retz (x := 0) rfl rfl (by decide) ?_
      exact ⟨_, rfl, (by omega), (by first | (exfalso; omega) | exact Or.inl ⟨rfl, fun x hx => hi1 x (by omega)⟩ | exact Or.inr ⟨rfl, x3.toNat, by omega, fun q9 => by rw [show (a + x3).toNat = x3.toNat by omega] at *; omega⟩), rfl⟩

/-! Term.isLike -/
set_option maxRecDepth 100000 in
theorem qv_isLike {d : Nat} (hd : 2 ≤ d) {H : hp} (hI : Inv H) {t n : Nat} {u m : Nat} (ht : isT t n) (hu : isT u m) : hG (zs zK) d mt_57 0 (zargs 0 [.inr (.inr t), .inr (.inr u)]) [] H (fun r9 H9 => ∃ z : Int, r9 = some (.inl z) ∧ ((0 ≤ z ∧ z ≤ 1)) ∧ ((z = 1 ∧ H.1 t 1 = H.1 u 1 ∧ ∀ x : Nat, (x : Int) < H.1 u 1 → H.1 (t + 1) x = H.1 (u + 1) x) ∨ (z = 0 ∧ (H.1 t 1 ≠ H.1 u 1 ∨ ∃ x : Nat, (x : Int) < H.1 u 1 ∧ H.1 (t + 1) x ≠ H.1 (u + 1) x))) ∧ H = H9) := by
  have htb := ht.2.2.2.2
  have hub := hu.2.2.2.2
  refine k_run 0 (pc' := 0) (l' := [(0, .inr (.inr t)), (1, .inr (.inr u))]) (st' := []) rfl ?_
  refine k_run 1 (pc' := 1) (l' := [(0, .inr (.inr t)), (1, .inr (.inr u))]) (st' := [.inr (.inr t)]) rfl ?_
  refine k_get (a := t) (x := (kTo t n)) (v := .inl (H.1 t 1)) rfl rfl ht.1 (iT0 ht) rfl rfl rfl ?_
  have g1 : 0 ≤ (H.1 t 1) ∧ (H.1 t 1) ≤ n := kn hI ht.1 1
  refine k_run 0 (pc' := 4) (l' := [(0, .inr (.inr t)), (1, .inr (.inr u))]) (st' := [.inl (H.1 t 1)]) rfl ?_
  refine k_run 1 (pc' := 5) (l' := [(0, .inr (.inr t)), (1, .inr (.inr u))]) (st' := [.inr (.inr u), .inl (H.1 t 1)]) rfl ?_
  refine k_get (a := u) (x := (kTo u m)) (v := .inl (H.1 u 1)) rfl rfl hu.1 (iT0 hu) rfl rfl rfl ?_
  have g2 : 0 ≤ (H.1 u 1) ∧ (H.1 u 1) ≤ m := kn hI hu.1 1
  refine k_run 0 (pc' := 8) (l' := [(0, .inr (.inr t)), (1, .inr (.inr u))]) (st' := [.inl (H.1 u 1), .inl (H.1 t 1)]) rfl ?_
  refine h_ine (off := 16) (t := 24) rfl rfl (by omega) (by omega) (fun c3 => ?_) (fun c3 => ?_)
  · refine k_run 0 (pc' := 24) (l' := [(0, .inr (.inr t)), (1, .inr (.inr u))]) (st' := []) rfl ?_
    refine k_run 1 (pc' := 25) (l' := [(0, .inr (.inr t)), (1, .inr (.inr u))]) (st' := [.inl 0]) rfl ?_
    refine h_retz (x := 0) rfl rfl (by decide) ?_
    exact ⟨_, rfl, (by omega), (Or.inr ⟨rfl, Or.inl (by omega)⟩), rfl⟩
  · refine k_run 0 (pc' := 11) (l' := [(0, .inr (.inr t)), (1, .inr (.inr u))]) (st' := []) rfl ?_
    refine k_run 3 (pc' := 14) (l' := [(0, .inr (.inr t)), (1, .inr (.inr u))]) (st' := [.inr (.inr u), .inl 0, .inr (.inr t)]) rfl ?_
    refine h_cv (i := 32) (j := 56) (b := t) (M' := mt_56) (xs := [.inr (.inr u), .inl 0]) (rest := []) rfl rfl rfl rfl (by rw [zs_K ht.1 (iT0 ht)]; rfl) rfl (Nat.le_of_ble_eq_true rfl) (Nat.le_of_ble_eq_true rfl) (by omega) (qv_hasAt (by omega) hI ht (by decide) hu rfl (by omega)) ?_
    rintro _ _ ⟨z10, rfl, g4, hx9, rfl⟩
    refine k_run 0 (pc' := 17) (l' := [(0, .inr (.inr t)), (1, .inr (.inr u))]) (st' := [.inl z10]) rfl ?_
    refine h_zeq (off := 7) (t := 24) rfl rfl (by omega) (fun c11 => ?_) (fun c11 => ?_)
    · refine k_run 0 (pc' := 24) (l' := [(0, .inr (.inr t)), (1, .inr (.inr u))]) (st' := []) rfl ?_
      refine k_run 1 (pc' := 25) (l' := [(0, .inr (.inr t)), (1, .inr (.inr u))]) (st' := [.inl 0]) rfl ?_
      refine h_retz (x := 0) rfl rfl (by decide) ?_
      exact ⟨_, rfl, (by omega), (by rcases hx9 with ⟨q1, q2⟩ | ⟨q1, q2⟩; { exfalso; omega }; { exact Or.inr ⟨rfl, Or.inr q2⟩ }), rfl⟩
    · refine k_run 0 (pc' := 20) (l' := [(0, .inr (.inr t)), (1, .inr (.inr u))]) (st' := []) rfl ?_
      refine k_run 2 (pc' := 25) (l' := [(0, .inr (.inr t)), (1, .inr (.inr u))]) (st' := [.inl 1]) rfl ?_
      refine h_retz (x := 1) rfl rfl (by decide) ?_
      exact ⟨_, rfl, (by omega), (by rcases hx9 with ⟨q1, q2⟩ | ⟨q1, q2⟩; { exact Or.inl ⟨by omega, by omega, q2⟩ }; { exfalso; omega }), rfl⟩

/-! Trial.tryRow -/
set_option maxRecDepth 100000 in
theorem qv_tryRow {X : rx} {ar : Int → Int} {cn fn : Int} {al : Bool} {nv N l R : Nat} {ty : Nat → Int} {d : Nat} (hd : 20 ≤ d) {H : hp} (hI : Inv H) {e : Nat} {a : Int} (he : isE e) (ha : -2147483648 ≤ a ∧ a ≤ 2147483647) (hp0 : 0 ≤ a ∧ a ≤ 2000) (hW : TW9 ar cn fn X nv l R) (hS : TS9 H X al N nv ty l R) (hl9 : l < 16) (he9 : e = 265 + 6 * l) (hN6 : N ≤ 6) : hG (zs zK) d mt_103 0 (zargs 0 [.inr (.inr 372), .inr (.inr e), .inl a]) [] H (fun r9 H9 => ∃ z : Int, r9 = some (.inl z) ∧ ((-2147483648 ≤ z ∧ z ≤ 2147483647)) ∧ Inv H9 ∧ fq [(366, 4), (366, 5), (366, 6)] [367] false H H9 ∧ (z = rwO ar X al l ty nv N a.toNat ∧ QF9 H H9 ∧ ∀ w : Nat, w < nv → CM H9 (382 + 4 * w) X ((rwV X al ty nv N a.toNat) w).length (ga ((rwV X al ty nv N a.toNat) w)))) := by
  obtain ⟨⟨hX, hcn, harc⟩, hK, ⟨hR9, hX06, hfn⟩, ⟨har, har0⟩, hnv6, hsd⟩ := id hW
  obtain ⟨⟨hT, hal⟩, ⟨hV, hL, hvr⟩, htt, ⟨hsl, hsr⟩, hC, hud⟩ := id hS
  have ht1 : ∀ v : Nat, v < nv → 1 ≤ tot9 X al ty N v := fun v hv => (htt v hv).2.1
  obtain ⟨Q9, hQ9⟩ : ∃ Q9 : Option zv → hp → Prop, Q9 = (fun r9 H9 => ∃ z : Int, r9 = some (.inl z) ∧ ((-2147483648 ≤ z ∧ z ≤ 2147483647)) ∧ Inv H9 ∧ fq [(366, 4), (366, 5), (366, 6)] [367] false H H9 ∧ (z = rwO ar X al l ty nv N a.toNat ∧ QF9 H H9 ∧ ∀ w : Nat, w < nv → CM H9 (382 + 4 * w) X ((rwV X al ty nv N a.toNat) w).length (ga ((rwV X al ty nv N a.toNat) w)))) := ⟨_, rfl⟩
  rw [← hQ9]
  refine k_run 0 (pc' := 0) (l' := [(0, .inr (.inr 372)), (1, .inr (.inr e)), (2, .inl a)]) (st' := []) rfl ?_
  refine k_run 3 (pc' := 3) (l' := [(0, .inr (.inr 372)), (1, .inr (.inr e)), (2, .inl a)]) (st' := [.inl a, .inr (.inr e), .inr (.inr 372)]) rfl ?_
  refine h_cv (i := 76) (j := 111) (b := 372) (M' := mt_111) (xs := [.inl a, .inr (.inr e)]) (rest := []) rfl rfl rfl rfl (zs_K (x := kx_372) rfl (by decide)) rfl (Nat.le_of_ble_eq_true rfl) (Nat.le_of_ble_eq_true rfl) (by omega) (qv_setValues (by omega) hI he (by omega) (by omega) hX (by omega) hT hal hV hN6 (by rw [he9]; exact hL) hvr htt) ?_
  rintro _ H2 ⟨rfl, hI3, hq4, hx6⟩
  have hf7 : fq [(366, 4), (366, 5), (366, 6)] [367] false H H2 := fq_t (fq_rf _ _ _ _) hq4 rfl rfl rfl
  refine k_run 0 (pc' := 6) (l' := [(0, .inr (.inr 372)), (1, .inr (.inr e)), (2, .inl a)]) (st' := []) rfl ?_
  obtain ⟨hcv, hsf⟩ := hx6
  have hS2 := TS_cg hS (QF_S hsf) hl9
  obtain ⟨-, ⟨-, -, hvr2⟩, -, ⟨hsl2, hsr2⟩, hC2, hud2⟩ := id hS2
  refine k_run 2 (pc' := 8) (l' := [(0, .inr (.inr 372)), (1, .inr (.inr e)), (2, .inl a)]) (st' := [.inr (.inr e), .inr (.inr 372)]) rfl ?_
  refine k_get (a := e) (x := (kEo e)) (v := .inr (.inr (e + 1))) rfl rfl he.1 (iE0 he) rfl rfl rfl ?_
  refine k_run 0 (pc' := 11) (l' := [(0, .inr (.inr 372)), (1, .inr (.inr e)), (2, .inl a)]) (st' := [.inr (.inr (e + 1)), .inr (.inr 372)]) rfl ?_
  refine k_run 2 (pc' := 15) (l' := [(0, .inr (.inr 372)), (1, .inr (.inr e)), (2, .inl a)]) (st' := [.inr (.inr 378), .inr (.inr (e + 1)), .inr (.inr 372)]) rfl ?_
  refine h_cv (i := 83) (j := 105) (b := 372) (M' := mt_105) (xs := [.inr (.inr 378), .inr (.inr (e + 1))]) (rest := []) rfl rfl rfl rfl (zs_K (x := kx_372) rfl (by decide)) rfl (Nat.le_of_ble_eq_true rfl) (Nat.le_of_ble_eq_true rfl) (by omega) (qv_fill (by omega) hI3 (iEl he) iT_378 (ar := ar) (cn := cn) (fn := fn) (nv := nv) (vs := (rwV X al ty nv N a.toNat)) (by omega) (Or.inl rfl) rfl (by rw [he9]; exact hsl2) (hsd _ (Or.inl rfl)).1 hK (fl_sg hW (Or.inl rfl)) hnv6 hvr2 hcv (fun v => rwV_ln hN6)) ?_
  rintro _ H9 ⟨rfl, hI10, hq11, hx13⟩
  have hf14 : fq [(366, 4), (366, 5), (366, 6)] [367] false H H9 := fq_t hf7 hq11 rfl rfl rfl
  refine k_run 0 (pc' := 18) (l' := [(0, .inr (.inr 372)), (1, .inr (.inr e)), (2, .inl a)]) (st' := []) rfl ?_
  obtain ⟨hm1, haf1⟩ := hx13
  have hS3 := TS_cg hS2 (QF_A haf1 (Or.inl rfl)) hl9
  obtain ⟨-, ⟨-, -, hvr3⟩, -, ⟨hsl3, hsr3⟩, hC3, hud3⟩ := id hS3
  have hcv3 : ∀ w : Nat, w < nv → CM H9 (382 + 4 * w) X ((rwV X al ty nv N a.toNat) w).length (ga ((rwV X al ty nv N a.toNat) w)) := fun w hw => CM_cg (hcv w hw) (haf1.2 _ _ (by omega) (by omega)) (fun x => haf1.2 _ _ (by omega) (by omega))
  refine k_run 2 (pc' := 20) (l' := [(0, .inr (.inr 372)), (1, .inr (.inr e)), (2, .inl a)]) (st' := [.inr (.inr e), .inr (.inr 372)]) rfl ?_
  refine k_get (a := e) (x := (kEo e)) (v := .inr (.inr (e + 3))) rfl rfl he.1 (iE0 he) rfl rfl rfl ?_
  refine k_run 0 (pc' := 23) (l' := [(0, .inr (.inr 372)), (1, .inr (.inr e)), (2, .inl a)]) (st' := [.inr (.inr (e + 3)), .inr (.inr 372)]) rfl ?_
  refine k_run 2 (pc' := 27) (l' := [(0, .inr (.inr 372)), (1, .inr (.inr e)), (2, .inl a)]) (st' := [.inr (.inr 380), .inr (.inr (e + 3)), .inr (.inr 372)]) rfl ?_
  refine h_cv (i := 83) (j := 105) (b := 372) (M' := mt_105) (xs := [.inr (.inr 380), .inr (.inr (e + 3))]) (rest := []) rfl rfl rfl rfl (zs_K (x := kx_372) rfl (by decide)) rfl (Nat.le_of_ble_eq_true rfl) (Nat.le_of_ble_eq_true rfl) (by omega) (qv_fill (by omega) hI10 (iEr he) iT_380 (ar := ar) (cn := cn) (fn := fn) (nv := nv) (vs := (rwV X al ty nv N a.toNat)) (by omega) (Or.inr rfl) rfl (by rw [he9]; exact hsr3) (hsd _ (Or.inr rfl)).1 hK (fl_sg hW (Or.inr rfl)) hnv6 hvr3 hcv3 (fun v => rwV_ln hN6)) ?_
  rintro _ H16 ⟨rfl, hI17, hq18, hx20⟩
  have hf21 : fq [(366, 4), (366, 5), (366, 6)] [367] false H H16 := fq_t hf14 hq18 rfl rfl rfl
  refine k_run 0 (pc' := 30) (l' := [(0, .inr (.inr 372)), (1, .inr (.inr e)), (2, .inl a)]) (st' := []) rfl ?_
  obtain ⟨hm2, haf2⟩ := hx20
  have hS4 := TS_cg hS3 (QF_A haf2 (Or.inr rfl)) hl9
  obtain ⟨-, -, -, -, hC4, hud4⟩ := id hS4
  have hm14 : CM H16 378 X (fil (fun k => X (4 * l + 102) (k + 1)) (rwV X al ty nv N a.toNat) (X (4 * l + 102) 0).toNat).length (ga (fil (fun k => X (4 * l + 102) (k + 1)) (rwV X al ty nv N a.toNat) (X (4 * l + 102) 0).toNat)) := CM_cg hm1 (haf2.2 _ _ (by decide) (by decide)) (fun x => haf2.2 _ _ (by decide) (by decide))
  have hq4 : QF9 H H16 := QF_tr (QF_tr (QF_S hsf) (QF_A haf1 (Or.inl rfl))) (QF_A haf2 (Or.inr rfl))
  refine k_run 5 (pc' := 41) (l' := [(0, .inr (.inr 372)), (1, .inr (.inr e)), (2, .inl a)]) (st' := [.inl 300, .inr (.inr 378), .inr (.inr 366)]) rfl ?_
  refine h_cv (i := 88) (j := 99) (b := 366) (M' := mt_99) (xs := [.inl 300, .inr (.inr 378)]) (rest := []) rfl rfl rfl rfl (zs_K (x := kx_366) rfl (by decide)) rfl (Nat.le_of_ble_eq_true rfl) (Nat.le_of_ble_eq_true rfl) (by omega) (qb_workOut (by omega) hI17 iT_378 (by decide) (by omega) (X := X) (ar := ar) (cn := cn) (fn := fn) (R := R) (by decide) (by decide) hm14 (fl_ok hW hN6 (Or.inl rfl) ht1) hK hC4 hR9 hX06 hfn har har0 hud4) ?_
  rintro _ H23 ⟨z28, rfl, g22, hI24, hq25, hx27⟩
  have hf29 : fq [(366, 4), (366, 5), (366, 6)] [367] false H H23 := fq_t hf21 hq25 rfl rfl rfl
  refine k_run 0 (pc' := 44) (l' := [(0, .inr (.inr 372)), (1, .inr (.inr e)), (2, .inl a)]) (st' := [.inl z28]) rfl ?_
  obtain ⟨l2, hev, hml, hl2, hwf⟩ := hx27
  rw [show (300 : Int).toNat = 300 from rfl] at hev
  have hS5 := TS_cg hS4 (QF_W hwf (Or.inl rfl)) hl9
  obtain ⟨-, -, -, -, hC5, hud5⟩ := id hS5
  have hm25 : CM H23 380 X (fil (fun k => X (4 * l + 103) (k + 1)) (rwV X al ty nv N a.toNat) (X (4 * l + 103) 0).toNat).length (ga (fil (fun k => X (4 * l + 103) (k + 1)) (rwV X al ty nv N a.toNat) (X (4 * l + 103) 0).toNat)) := CM_cg hm2 (hwf.2 _ _ (by decide) (by decide) (by decide)) (fun x => hwf.2 _ _ (by decide) (by decide) (by decide))
  refine h_zne (off := 20) (t := 64) rfl rfl (by omega) (fun c30 => ?_) (fun c30 => ?_)
  · refine k_run 0 (pc' := 64) (l' := [(0, .inr (.inr 372)), (1, .inr (.inr e)), (2, .inl a)]) (st' := []) rfl ?_
    refine k_run 1 (pc' := 65) (l' := [(0, .inr (.inr 372)), (1, .inr (.inr e)), (2, .inl a)]) (st' := [.inl 2]) rfl ?_
    refine h_reti (x := 2) rfl rfl ?_
    rw [hQ9]
    exact ⟨_, rfl, (by omega), hI24, hf29, (by first | (exfalso; omega) | exact ⟨by unfold rwO; rw [hev, if_neg (fun q9 => by have q8 := q9.1; omega)], QF_tr hq4 (QF_W hwf (Or.inl rfl)), (fun w hw => CM_cg (hcv w hw) ((hwf.2 _ _ (by simp; omega) (by omega) (by omega)).trans ((haf2.2 _ _ (by omega) (by omega)).trans (haf1.2 _ _ (by omega) (by omega)))) (fun x => (hwf.2 _ _ (by simp; omega) (by omega) (by omega)).trans ((haf2.2 _ _ (by omega) (by omega)).trans (haf1.2 _ _ (by omega) (by omega)))))⟩)⟩
  · refine k_run 0 (pc' := 47) (l' := [(0, .inr (.inr 372)), (1, .inr (.inr e)), (2, .inl a)]) (st' := []) rfl ?_
    refine k_run 5 (pc' := 58) (l' := [(0, .inr (.inr 372)), (1, .inr (.inr e)), (2, .inl a)]) (st' := [.inl 300, .inr (.inr 380), .inr (.inr 366)]) rfl ?_
    refine h_cv (i := 88) (j := 99) (b := 366) (M' := mt_99) (xs := [.inl 300, .inr (.inr 380)]) (rest := []) rfl rfl rfl rfl (zs_K (x := kx_366) rfl (by decide)) rfl (Nat.le_of_ble_eq_true rfl) (Nat.le_of_ble_eq_true rfl) (by omega) (qb_workOut (by omega) hI24 iT_380 (by decide) (by omega) (X := X) (ar := ar) (cn := cn) (fn := fn) (R := R) (by decide) (by decide) hm25 (fl_ok hW hN6 (Or.inr rfl) ht1) hK hC5 hR9 hX06 hfn har har0 hud5) ?_
    rintro _ H32 ⟨z37, rfl, g31, hI33, hq34, hx36⟩
    have hf38 : fq [(366, 4), (366, 5), (366, 6)] [367] false H H32 := fq_t hf29 hq34 rfl rfl rfl
    refine k_run 0 (pc' := 61) (l' := [(0, .inr (.inr 372)), (1, .inr (.inr e)), (2, .inl a)]) (st' := [.inl z37]) rfl ?_
    obtain ⟨m2, hew, hmm, hm3, hwg⟩ := hx36
    rw [show (300 : Int).toNat = 300 from rfl] at hew
    have hml6 : CM H32 378 X l2.length (ga l2) := CM_cg hml (hwg.2 _ _ (by decide) (by decide) (by decide)) (fun x => hwg.2 _ _ (by decide) (by decide) (by decide))
    refine h_zeq (off := 5) (t := 66) rfl rfl (by omega) (fun c39 => ?_) (fun c39 => ?_)
    · refine k_run 0 (pc' := 66) (l' := [(0, .inr (.inr 372)), (1, .inr (.inr e)), (2, .inl a)]) (st' := []) rfl ?_
      refine k_run 4 (pc' := 74) (l' := [(0, .inr (.inr 372)), (1, .inr (.inr e)), (2, .inl a)]) (st' := [.inr (.inr 380), .inr (.inr 378)]) rfl ?_
      refine h_cv (i := 94) (j := 57) (b := 378) (M' := mt_57) (xs := [.inr (.inr 380)]) (rest := []) rfl rfl rfl rfl (by rw [zs_K iT_378.1 (iT0 iT_378)]; rfl) rfl (Nat.le_of_ble_eq_true rfl) (Nat.le_of_ble_eq_true rfl) (by omega) (qv_isLike (by omega) hI33 iT_378 iT_380) ?_
      rintro _ _ ⟨z46, rfl, g40, hx45, rfl⟩
      refine k_run 0 (pc' := 77) (l' := [(0, .inr (.inr 372)), (1, .inr (.inr e)), (2, .inl a)]) (st' := [.inl z46]) rfl ?_
      refine h_zeq (off := 7) (t := 84) rfl rfl (by omega) (fun c47 => ?_) (fun c47 => ?_)
      · refine k_run 0 (pc' := 84) (l' := [(0, .inr (.inr 372)), (1, .inr (.inr e)), (2, .inl a)]) (st' := []) rfl ?_
        refine k_run 1 (pc' := 85) (l' := [(0, .inr (.inr 372)), (1, .inr (.inr e)), (2, .inl a)]) (st' := [.inl 1]) rfl ?_
        refine h_reti (x := 1) rfl rfl ?_
        rw [hQ9]
        exact ⟨_, rfl, (by omega), hI33, hf38, (by first | (exfalso; omega) | exact ⟨by unfold rwO; rw [hev, hew, if_pos ⟨by omega, by omega⟩, if_neg (fun q9 => by have q8 := (hx45.resolve_left (fun q7 => by have := q7.1; omega)).2; have q9 : l2 = m2 := q9; subst q9; exact CM_diff hml6 hmm q8)], QF_tr (QF_tr hq4 (QF_W hwf (Or.inl rfl))) (QF_W hwg (Or.inr rfl)), (fun w hw => CM_cg (hcv w hw) ((hwg.2 _ _ (by simp; omega) (by omega) (by omega)).trans ((hwf.2 _ _ (by simp; omega) (by omega) (by omega)).trans ((haf2.2 _ _ (by omega) (by omega)).trans (haf1.2 _ _ (by omega) (by omega))))) (fun x => (hwg.2 _ _ (by simp; omega) (by omega) (by omega)).trans ((hwf.2 _ _ (by simp; omega) (by omega) (by omega)).trans ((haf2.2 _ _ (by omega) (by omega)).trans (haf1.2 _ _ (by omega) (by omega))))))⟩)⟩
      · refine k_run 0 (pc' := 80) (l' := [(0, .inr (.inr 372)), (1, .inr (.inr e)), (2, .inl a)]) (st' := []) rfl ?_
        refine k_run 2 (pc' := 85) (l' := [(0, .inr (.inr 372)), (1, .inr (.inr e)), (2, .inl a)]) (st' := [.inl 0]) rfl ?_
        refine h_reti (x := 0) rfl rfl ?_
        rw [hQ9]
        exact ⟨_, rfl, (by omega), hI33, hf38, (by first | (exfalso; omega) | exact ⟨by unfold rwO; rw [hev, hew, if_pos ⟨by omega, by omega⟩, if_pos (by have q9 := (hx45.resolve_right (fun q8 => by have := q8.1; omega)).2; exact CM_same hml6 hmm hK hl2.2 hm3.2 q9.1 q9.2)], QF_tr (QF_tr hq4 (QF_W hwf (Or.inl rfl))) (QF_W hwg (Or.inr rfl)), (fun w hw => CM_cg (hcv w hw) ((hwg.2 _ _ (by simp; omega) (by omega) (by omega)).trans ((hwf.2 _ _ (by simp; omega) (by omega) (by omega)).trans ((haf2.2 _ _ (by omega) (by omega)).trans (haf1.2 _ _ (by omega) (by omega))))) (fun x => (hwg.2 _ _ (by simp; omega) (by omega) (by omega)).trans ((hwf.2 _ _ (by simp; omega) (by omega) (by omega)).trans ((haf2.2 _ _ (by omega) (by omega)).trans (haf1.2 _ _ (by omega) (by omega))))))⟩)⟩
    · refine k_run 0 (pc' := 64) (l' := [(0, .inr (.inr 372)), (1, .inr (.inr e)), (2, .inl a)]) (st' := []) rfl ?_
      refine k_run 1 (pc' := 65) (l' := [(0, .inr (.inr 372)), (1, .inr (.inr e)), (2, .inl a)]) (st' := [.inl 2]) rfl ?_
      refine h_reti (x := 2) rfl rfl ?_
      rw [hQ9]
      exact ⟨_, rfl, (by omega), hI33, hf38, (by first | (exfalso; omega) | exact ⟨by unfold rwO; rw [hev, hew, if_neg (fun q9 => by have q8 := q9.2; omega)], QF_tr (QF_tr hq4 (QF_W hwf (Or.inl rfl))) (QF_W hwg (Or.inr rfl)), (fun w hw => CM_cg (hcv w hw) ((hwg.2 _ _ (by simp; omega) (by omega) (by omega)).trans ((hwf.2 _ _ (by simp; omega) (by omega) (by omega)).trans ((haf2.2 _ _ (by omega) (by omega)).trans (haf1.2 _ _ (by omega) (by omega))))) (fun x => (hwg.2 _ _ (by simp; omega) (by omega) (by omega)).trans ((hwf.2 _ _ (by simp; omega) (by omega) (by omega)).trans ((haf2.2 _ _ (by omega) (by omega)).trans (haf1.2 _ _ (by omega) (by omega))))))⟩)⟩
