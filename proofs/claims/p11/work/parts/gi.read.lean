/-! the machine leaves what was told before -/
/-- what X has, X1 has too -/
def JB (X X1 : rx) : Prop := (X 0 3 ≤ X1 0 3 ∧ X 0 4 ≤ X1 0 4 ∧ X 0 5 ≤ X1 0 5 ∧ X 0 6 ≤ X1 0 6 ∧ X 0 7 ≤ X1 0 7) ∧ (∀ k : Nat, (k : Int) < X 0 3 → X1 1 k = X 1 k) ∧ (∀ k : Nat, (k : Int) < X 0 4 → X1 2 k = X 2 k ∧ X1 3 k = X 3 k ∧ X1 4 k = X 4 k ∧ ∀ a : Nat, a < 4 → X1 5 (4 * k + a) = X 5 (4 * k + a)) ∧ (∀ k : Nat, (k : Int) < X 0 5 → X1 6 k = X 6 k ∧ X1 7 k = X 7 k ∧ X1 8 k = X 8 k ∧ ∀ a : Nat, a < 4 → X1 9 (4 * k + a) = X 9 (4 * k + a)) ∧ ∀ l : Nat, (l : Int) < X 0 7 → X1 12 l = X 12 l
/-- numbers of arguments are none below 0 -/
def NN (X : rx) : Prop := (∀ k : Nat, (k : Int) < X 0 4 → 0 ≤ X 4 k) ∧ ∀ k : Nat, (k : Int) < X 0 5 → 0 ≤ X 8 k
/-- a task that tells more of a name: it is none of the old ones -/
def JT (X X1 : rx) (q : tq) : Prop := (q.1 = 8 → X 0 4 ≤ q.2.1 ∧ q.2.1 < X1 0 4) ∧ (q.1 = 10 ∨ q.1 = 11 → X 0 5 ≤ q.2.1 ∧ q.2.1 < X1 0 5)
def P0 (X : rx) : Prop := 0 ≤ X 0 3 ∧ 0 ≤ X 0 4 ∧ 0 ≤ X 0 5 ∧ 0 ≤ X 0 6 ∧ 0 ≤ X 0 7
def JK (X : rx) (q : cf) : Prop := JB X q.2 ∧ NN q.2 ∧ ∀ p ∈ q.1, JT X q.2 p
theorem JB_sT {X X1 X2 : rx} (h : JB X X1) (e : sT X1 X2) : JB X X2 := by
  obtain ⟨e1, e2, e3⟩ := e
  unfold JB at h ⊢
  rw [e3 3 (by decide) (by decide), e3 4 (by decide) (by decide), e3 5 (by decide) (by decide), e3 6 (by decide) (by decide), e3 7 (by decide) (by decide), e2, e1 1 (by decide) (by decide), e1 2 (by decide) (by decide), e1 3 (by decide) (by decide), e1 4 (by decide) (by decide), e1 5 (by decide) (by decide), e1 6 (by decide) (by decide), e1 7 (by decide) (by decide), e1 8 (by decide) (by decide), e1 9 (by decide) (by decide)]
  exact h
theorem NN_sT {X1 X2 : rx} (h : NN X1) (e : sT X1 X2) : NN X2 := by
  obtain ⟨e1, e2, e3⟩ := e
  unfold NN at h ⊢
  rw [e3 4 (by decide) (by decide), e3 5 (by decide) (by decide), e1 4 (by decide) (by decide), e1 8 (by decide) (by decide)]
  exact h
theorem JT_le {X X1 X2 : rx} {q : tq} (h : JT X X1 q) (h4 : X1 0 4 ≤ X2 0 4) (h5 : X1 0 5 ≤ X2 0 5) : JT X X2 q := ⟨fun e => ⟨(h.1 e).1, Int.lt_of_lt_of_le (h.1 e).2 h4⟩, fun e => ⟨(h.2 e).1, Int.lt_of_lt_of_le (h.2 e).2 h5⟩⟩
/-- tasks that tell nothing more -/
theorem JT_no {X X1 : rx} {t : Nat} {a b c : Int} (h : t ≠ 8 ∧ t ≠ 10 ∧ t ≠ 11) : JT X X1 (t, a, b, c) := ⟨fun e => absurd e h.1, fun e => e.elim (fun q => absurd q h.2.1) (fun q => absurd q h.2.2)⟩
/-- the tables are the same: what is left to do may be more, of the kind that tells nothing -/
theorem JK_s {X X1 X2 : rx} {K K2 : List tq} (h : JK X (K, X1)) (e : sT X1 X2) (hk : ∀ p ∈ K2, p ∈ K ∨ (p.1 ≠ 8 ∧ p.1 ≠ 10 ∧ p.1 ≠ 11)) : JK X (K2, X2) := by
  refine ⟨JB_sT h.1 e, NN_sT h.2.1 e, fun p hp => ?_⟩
  rcases hk p hp with q | q
  · exact JT_le (h.2.2 p q) (Int.le_of_eq (e.2.2 4 (by decide) (by decide)).symm) (Int.le_of_eq (e.2.2 5 (by decide) (by decide)).symm)
  · obtain ⟨t, a, b, c⟩ := p
    exact JT_no q
theorem sT_rf (X : rx) : sT X X := ⟨fun _ _ _ => rfl, rfl, fun _ _ _ => rfl⟩
theorem sT_tr {X X1 X2 : rx} (h : sT X X1) (g : sT X1 X2) : sT X X2 := ⟨fun c a b => (g.1 c a b).trans (h.1 c a b), g.2.1.trans h.2.1, fun j a b => (g.2.2 j a b).trans (h.2.2 j a b)⟩
theorem sT_x0 (X : rx) {j : Nat} (z : Int) (h : j < 3 ∨ 7 < j) : sT X (xu X 0 j z) := ⟨fun _ _ _ => xu_ne _ _ _ (by omega), xu_ne _ _ _ (by decide), fun _ _ _ => xu_0 _ _ (fun q => by omega)⟩
theorem sT_xr (X : rx) {c j : Nat} (z : Int) (h : c = 10 ∨ c = 11 ∨ c = 13) : sT X (xu X c j z) := ⟨fun _ _ _ => xu_ne _ _ _ (by omega), xu_ne _ _ _ (by omega), fun _ _ _ => xu_0 _ _ (fun q => by omega)⟩
theorem sT_sd (X : rx) (s : Nat) : sT X (xsd X s) := ⟨fun _ _ _ => if_pos (by omega), rfl, fun _ _ _ => rfl⟩
theorem sT_adv (X : rx) : sT X (adv X) := sT_x0 X _ (Or.inl (by decide))
theorem sT_put (X : rx) (s : Int) : sT X (xput X s) := sT_tr (sT_xr X s (by omega)) (sT_tr (sT_x0 _ _ (Or.inl (by decide))) (sT_adv _))
theorem sT_var (X : rx) (x ty : Int) : sT X (xvar X x ty) := sT_tr (sT_xr X x (by omega)) (sT_tr (sT_xr _ ty (by omega)) (sT_x0 _ _ (Or.inl (by decide))))
theorem sT_st (X : rx) (a : Int) : sT X (xst X a) := sT_tr (sT_x0 X _ (Or.inl (by decide))) (sT_tr (sT_x0 _ _ (Or.inl (by decide))) (sT_x0 _ _ (Or.inr (by decide))))
theorem JK_fl {X X1 X2 : rx} {K : List tq} {Y : yx} {k : Int} (h : JK X (K, X1)) (e : sT X1 X2) : JK X (fl Y X2 k) := JK_s h e (fun p hp => by
  have hp : p ∈ [((0 : Nat), k, ts Y (xi X2), (0 : Int))] := hp
  rw [List.mem_singleton] at hp
  subst hp
  exact Or.inr ⟨by show (0 : Nat) ≠ 8; decide, by show (0 : Nat) ≠ 10; decide, by show (0 : Nat) ≠ 11; decide⟩)
theorem JK_tl {X X1 : rx} {p : tq} {K : List tq} (h : JK X (p :: K, X1)) : JK X (K, X1) := ⟨h.1, h.2.1, fun q hq => h.2.2 q (List.mem_cons_of_mem _ hq)⟩

theorem JK_cons {X X1 : rx} {p : tq} {K : List tq} (h : JK X (K, X1)) (hp : JT X X1 p) : JK X (p :: K, X1) := ⟨h.1, h.2.1, fun q hq => (List.mem_cons.mp hq).elim (fun e => by rw [e]; exact hp) (fun e => h.2.2 q e)⟩
theorem JK_e {X X1 X2 : rx} {K : List tq} (h : JK X (K, X1)) (e : sT X1 X2) : JK X (K, X2) := JK_s h e (fun _ hp => Or.inl hp)
theorem JK_up {X X1 X2 : rx} {K : List tq} (h : JK X (K, X1)) (hb : JB X X2) (hn : NN X2) (h4 : X1 0 4 ≤ X2 0 4) (h5 : X1 0 5 ≤ X2 0 5) : JK X (K, X2) := ⟨hb, hn, fun p hp => JT_le (h.2.2 p hp) h4 h5⟩
theorem JB_typ {X X1 : rx} {x : Int} (h0 : P0 X) (h : JB X X1) : JB X (xtyp X1 x) := by
  obtain ⟨x1, x2, x3⟩ := xtyp_s X1 x
  obtain ⟨⟨a1, a2, a3, a4, a5⟩, b1, b2, b3, b4⟩ := h
  have er : ∀ c, c ≠ 0 → c ≠ 1 → xtyp X1 x c = X1 c := fun c a b => xtyp_r X1 x a b
  have e0 : ∀ j, j ≠ 0 → j ≠ 3 → xtyp X1 x 0 j = X1 0 j := fun j a b => xtyp_0 X1 x a b
  have h3 := h0.1
  unfold JB
  rw [x2, x3, e0 4 (by decide) (by decide), e0 5 (by decide) (by decide), e0 6 (by decide) (by decide), e0 7 (by decide) (by decide), er 2 (by decide) (by decide), er 3 (by decide) (by decide), er 4 (by decide) (by decide), er 5 (by decide) (by decide), er 6 (by decide) (by decide), er 7 (by decide) (by decide), er 8 (by decide) (by decide), er 9 (by decide) (by decide), er 12 (by decide) (by decide)]
  exact ⟨⟨by omega, a2, a3, a4, a5⟩, fun k hk => by rw [up_ne _ _ (by omega)]; exact b1 k hk, b2, b3, b4⟩
theorem JB_con {X X1 : rx} {x ty : Int} (h0 : P0 X) (h : JB X X1) : JB X (xcon X1 x ty) := by
  obtain ⟨x1, x2, x3, x4, x5⟩ := xcon_s X1 x ty
  obtain ⟨⟨a1, a2, a3, a4, a5⟩, b1, b2, b3, b4⟩ := h
  have er : ∀ c, c ≠ 0 → c ≠ 2 → c ≠ 3 → c ≠ 4 → xcon X1 x ty c = X1 c := fun c a b d e => xcon_r X1 x ty a b d e
  have e0 : ∀ j, j ≠ 0 → j ≠ 4 → xcon X1 x ty 0 j = X1 0 j := fun j a b => xcon_0 X1 x ty a b
  have h3 := h0.2.1
  unfold JB
  rw [x2, x3, x4, x5, e0 3 (by decide) (by decide), e0 5 (by decide) (by decide), e0 6 (by decide) (by decide), e0 7 (by decide) (by decide), er 1 (by decide) (by decide) (by decide) (by decide), er 5 (by decide) (by decide) (by decide) (by decide), er 6 (by decide) (by decide) (by decide) (by decide), er 7 (by decide) (by decide) (by decide) (by decide), er 8 (by decide) (by decide) (by decide) (by decide), er 9 (by decide) (by decide) (by decide) (by decide), er 12 (by decide) (by decide) (by decide) (by decide)]
  exact ⟨⟨a1, by omega, a3, a4, a5⟩, b1, fun k hk => by rw [up_ne _ _ (by omega), up_ne _ _ (by omega), up_ne _ _ (by omega)]; exact b2 k hk, b3, b4⟩
theorem JB_fun {X X1 : rx} {x : Int} (h0 : P0 X) (h : JB X X1) : JB X (xfun X1 x) := by
  obtain ⟨x1, x2, x3, x4, x5⟩ := xfun_s X1 x
  obtain ⟨⟨a1, a2, a3, a4, a5⟩, b1, b2, b3, b4⟩ := h
  have er : ∀ c, c ≠ 0 → c ≠ 6 → c ≠ 7 → c ≠ 8 → xfun X1 x c = X1 c := fun c a b d e => xfun_r X1 x a b d e
  have e0 : ∀ j, j ≠ 0 → j ≠ 5 → xfun X1 x 0 j = X1 0 j := fun j a b => xfun_0 X1 x a b
  have h3 := h0.2.2.1
  unfold JB
  rw [x2, x3, x4, x5, e0 3 (by decide) (by decide), e0 4 (by decide) (by decide), e0 6 (by decide) (by decide), e0 7 (by decide) (by decide), er 1 (by decide) (by decide) (by decide) (by decide), er 2 (by decide) (by decide) (by decide) (by decide), er 3 (by decide) (by decide) (by decide) (by decide), er 4 (by decide) (by decide) (by decide) (by decide), er 5 (by decide) (by decide) (by decide) (by decide), er 9 (by decide) (by decide) (by decide) (by decide), er 12 (by decide) (by decide) (by decide) (by decide)]
  exact ⟨⟨a1, a2, by omega, a4, a5⟩, b1, b2, fun k hk => by rw [up_ne _ _ (by omega), up_ne _ _ (by omega), up_ne _ _ (by omega)]; exact b3 k hk, b4⟩
theorem JB_car {X X1 : rx} {c9 ty : Int} (h0 : P0 X) (h : JB X X1) (hc : X 0 4 ≤ c9) (ha : 0 ≤ X1 4 c9.toNat) : JB X (xcar X1 c9 ty) := by
  obtain ⟨x1, x2, x3⟩ := xcar_s X1 c9 ty
  obtain ⟨⟨a1, a2, a3, a4, a5⟩, b1, b2, b3, b4⟩ := h
  have er : ∀ c, c ≠ 0 → c ≠ 5 → c ≠ 4 → xcar X1 c9 ty c = X1 c := fun c a b d => xcar_r X1 c9 ty a b d
  have e0 : ∀ j, j ≠ 0 → xcar X1 c9 ty 0 j = X1 0 j := fun j a => xcar_0 X1 c9 ty a
  have h3 := h0.2.1
  unfold JB
  rw [x2, x3, e0 3 (by decide), e0 4 (by decide), e0 5 (by decide), e0 6 (by decide), e0 7 (by decide), er 1 (by decide) (by decide) (by decide), er 2 (by decide) (by decide) (by decide), er 3 (by decide) (by decide) (by decide), er 6 (by decide) (by decide) (by decide), er 7 (by decide) (by decide) (by decide), er 8 (by decide) (by decide) (by decide), er 9 (by decide) (by decide) (by decide), er 12 (by decide) (by decide) (by decide)]
  refine ⟨⟨a1, a2, a3, a4, a5⟩, b1, fun k hk => ?_, b3, b4⟩
  obtain ⟨g1, g2, g3, g4⟩ := b2 k hk
  exact ⟨g1, g2, by rw [up_ne _ _ (by omega)]; exact g3, fun a ha => by rw [up_ne _ _ (by omega)]; exact g4 a ha⟩
theorem JB_far {X X1 : rx} {f9 : Int} (h0 : P0 X) (h : JB X X1) (hc : X 0 5 ≤ f9) (ha : 0 ≤ X1 8 f9.toNat) : JB X (xfar X1 f9) := by
  obtain ⟨x1, x2, x3⟩ := xfar_s X1 f9
  obtain ⟨⟨a1, a2, a3, a4, a5⟩, b1, b2, b3, b4⟩ := h
  have er : ∀ c, c ≠ 0 → c ≠ 9 → c ≠ 8 → xfar X1 f9 c = X1 c := fun c a b d => xfar_r X1 f9 a b d
  have e0 : ∀ j, j ≠ 0 → xfar X1 f9 0 j = X1 0 j := fun j a => xfar_0 X1 f9 a
  have h3 := h0.2.2.1
  unfold JB
  rw [x2, x3, e0 3 (by decide), e0 4 (by decide), e0 5 (by decide), e0 6 (by decide), e0 7 (by decide), er 1 (by decide) (by decide) (by decide), er 2 (by decide) (by decide) (by decide), er 3 (by decide) (by decide) (by decide), er 4 (by decide) (by decide) (by decide), er 5 (by decide) (by decide) (by decide), er 6 (by decide) (by decide) (by decide), er 7 (by decide) (by decide) (by decide), er 12 (by decide) (by decide) (by decide)]
  refine ⟨⟨a1, a2, a3, a4, a5⟩, b1, b2, fun k hk => ?_, b4⟩
  obtain ⟨g1, g2, g3, g4⟩ := b3 k hk
  exact ⟨g1, g2, by rw [up_ne _ _ (by omega)]; exact g3, fun a ha => by rw [up_ne _ _ (by omega)]; exact g4 a ha⟩
/-- one number or name of another row -/
theorem JB_7 {X X1 : rx} {f9 ty : Int} (h0 : P0 X) (h : JB X X1) (hc : X 0 5 ≤ f9) : JB X (xu X1 7 f9.toNat ty) := by
  obtain ⟨a0, b1, b2, b3, b4⟩ := h
  have er : ∀ c, c ≠ 7 → xu X1 7 f9.toNat ty c = X1 c := fun c a => xu_ne _ _ _ a
  have h3 := h0.2.2.1
  unfold JB
  rw [er 0 (by decide), er 1 (by decide), er 2 (by decide), er 3 (by decide), er 4 (by decide), er 5 (by decide), er 6 (by decide), er 8 (by decide), er 9 (by decide), er 12 (by decide), xu_eq]
  refine ⟨a0, b1, b2, fun k hk => ?_, b4⟩
  obtain ⟨g1, g2, g3⟩ := b3 k hk
  exact ⟨g1, by rw [up_ne _ _ (by omega)]; exact g2, g3⟩
theorem JB_12 {X X1 : rx} {x : Int} (h0 : P0 X) (h : JB X X1) : JB X (xu X1 12 (X1 0 7).toNat x) := by
  obtain ⟨a0, b1, b2, b3, b4⟩ := h
  have er : ∀ c, c ≠ 12 → xu X1 12 (X1 0 7).toNat x c = X1 c := fun c a => xu_ne _ _ _ a
  have h3 := h0.2.2.2.2
  have h7 := a0.2.2.2.2
  unfold JB
  rw [er 0 (by decide), er 1 (by decide), er 2 (by decide), er 3 (by decide), er 4 (by decide), er 5 (by decide), er 6 (by decide), er 7 (by decide), er 8 (by decide), er 9 (by decide), xu_eq]
  exact ⟨a0, b1, b2, b3, fun l hl => by rw [up_ne _ _ (by omega)]; exact b4 l hl⟩
theorem JB_n {X X1 : rx} {j : Nat} (h : JB X X1) (hj : j = 6 ∨ j = 7) : JB X (xu X1 0 j (X1 0 j + 1)) := by
  obtain ⟨⟨a1, a2, a3, a4, a5⟩, b⟩ := h
  have er : ∀ c, c ≠ 0 → xu X1 0 j (X1 0 j + 1) c = X1 c := fun c a => xu_ne _ _ _ a
  have e0 : ∀ i, i ≠ j → xu X1 0 j (X1 0 j + 1) 0 i = X1 0 i := fun i a => xu_0 _ _ (fun q => a q.2)
  have e1 : xu X1 0 j (X1 0 j + 1) 0 j = X1 0 j + 1 := xu_1 _ _ _ _
  unfold JB
  rw [er 1 (by decide), er 2 (by decide), er 3 (by decide), er 4 (by decide), er 5 (by decide), er 6 (by decide), er 7 (by decide), er 8 (by decide), er 9 (by decide), er 12 (by decide), e0 3 (by omega), e0 4 (by omega), e0 5 (by omega)]
  rcases hj with rfl | rfl
  · rw [e1, e0 7 (by decide)]
    exact ⟨⟨a1, a2, a3, by omega, a5⟩, b⟩
  · rw [e1, e0 6 (by decide)]
    exact ⟨⟨a1, a2, a3, a4, by omega⟩, b⟩
