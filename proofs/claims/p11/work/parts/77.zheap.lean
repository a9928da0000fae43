/-! heaps as functions, the store that is one -/
/-- a heap: what a cell's places hold, numbers and references -/
abbrev hp : Type := (Nat → Nat → Int) × (Nat → Nat → Nat)
/-- a place of an object: of a type, or a reference that never changes -/
abbrev zsd : Type := FieldType ⊕ Nat
/-- a cell's shape: an object (class, places) or an array (type, how many) -/
abbrev zsh : Type := (Nat × List zsd) ⊕ (FieldType × Nat)
def zval (ty : FieldType) (f : Nat → Int) (g : Nat → Nat) (j : Nat) : Value := match ty with
  | .long => .long (Int64.ofInt (f j))
  | .object _ => .ref (g j)
  | .array _ => .ref (g j)
  | _ => .int (Int32.ofInt (f j))
def zrng (ty : FieldType) (z : Int) : Prop := match ty with
  | .long => -9223372036854775808 ≤ z ∧ z ≤ 9223372036854775807
  | .byte => -128 ≤ z ∧ z ≤ 127
  | .boolean => 0 ≤ z ∧ z ≤ 1
  | _ => -2147483648 ≤ z ∧ z ≤ 2147483647
def zslot (dd : zsd) (f : Nat → Int) (g : Nat → Nat) (j : Nat) : Value := match dd with
  | .inl ty => zval ty f g j
  | .inr a => .ref a
def zok (x : zsh) (o : Option am_C) (f : Nat → Int) (g : Nat → Nat) : Prop := match x with
  | .inl (ci, ds) => (∃ (z : Nat) (fs : List Value), o = some (z, some (.inr (ci, fs))) ∧ fs.length = ds.length ∧ ∀ (j : Nat) (dd : zsd), ds[j]? = some dd → fs[j]? = some (zslot dd f g j)) ∧ ∀ (j : Nat) (ty : FieldType), ds[j]? = some (.inl ty) → zrng ty (f j)
  | .inr (ty, n) => (∃ (z : Nat) (dv : Value) (u : List (Nat × Value)), o = some (z, some (.inl (ty, n, dv, u))) ∧ ∀ j, j < n → am_fn dv u j = zval ty f g j) ∧ ∀ j, j < n → zrng ty (f j)
/-- the store is this heap -/
def zR (sh : Nat → Option zsh) (S : am_S) (H : hp) : Prop := ∀ (c : Nat) (x : zsh), sh c = some x → zok x (am_nth S c) (H.1 c) (H.2 c)
def zkeep (sh : Nat → Option zsh) (S S' : am_S) : Prop := S'.1 = S.1 ∧ S'.2.1 = S.2.1 ∧ ∀ c, sh c = none → am_nth S' c = am_nth S c
theorem zkeep_rf (sh : Nat → Option zsh) (S : am_S) : zkeep sh S S := ⟨rfl, rfl, fun _ _ => rfl⟩
theorem zkeep_tr {sh : Nat → Option zsh} {S1 S2 S3 : am_S} (h1 : zkeep sh S1 S2) (h2 : zkeep sh S2 S3) : zkeep sh S1 S3 := ⟨h2.1.trans h1.1, h2.2.1.trans h1.2.1, fun c hc => (h2.2.2 c hc).trans (h1.2.2 c hc)⟩
/-- a run from here ends, makes no cell, and how -/
def hG (sh : Nat → Option zsh) (d : Nat) (M : am_M) (pc : Nat) (l : zl) (st : List zv) (H : hp) (Q : Option zv → hp → Prop) : Prop := ∀ (S : am_S) (lc : am_L), zR sh S H → zH l lc → am_G at_P at_cl at_ty d M pc lc (st.map zc) S (fun r S' c n => c = 0 ∧ n = 0 ∧ ∃ (r' : Option zv) (H' : hp), r = r'.map zc ∧ zR sh S' H' ∧ zkeep sh S S' ∧ Q r' H')
/-- one place's number is another -/
def up (f : Nat → Int) (j : Nat) (z : Int) : Nat → Int := fun i => bif Nat.beq i j then z else f i
/-- one cell's numbers are others -/
def zu (H : hp) (c : Nat) (f : Nat → Int) : hp := (fun k => bif Nat.beq k c then f else H.1 k, H.2)
theorem z_beq_rf (a : Nat) : Nat.beq a a = true := Nat.beq_refl a
theorem z_beq_ne {a b : Nat} (h : a ≠ b) : Nat.beq a b = false := by
  cases e : Nat.beq a b
  · rfl
  · exact absurd (Nat.eq_of_beq_eq_true e) h
theorem up_eq (f : Nat → Int) (j : Nat) (z : Int) : up f j z j = z := by
  unfold up
  rw [z_beq_rf]
  rfl
theorem up_ne (f : Nat → Int) {i j : Nat} (z : Int) (h : i ≠ j) : up f j z i = f i := by
  unfold up
  rw [z_beq_ne h]
  rfl
theorem up_if (f : Nat → Int) (i j : Nat) (z : Int) : up f j z i = if i = j then z else f i := by
  by_cases h : i = j
  · rw [if_pos h, h, up_eq]
  · rw [if_neg h, up_ne f z h]
theorem zu_eq (H : hp) (c : Nat) (f : Nat → Int) : (zu H c f).1 c = f := by
  show (bif Nat.beq c c then f else H.1 c) = f
  rw [z_beq_rf]
  rfl
theorem zu_ne (H : hp) {c k : Nat} (f : Nat → Int) (h : k ≠ c) : (zu H c f).1 k = H.1 k := by
  show (bif Nat.beq k c then f else H.1 k) = H.1 k
  rw [z_beq_ne h]
  rfl
theorem zok_some {x : zsh} {o : Option am_C} {f : Nat → Int} {g : Nat → Nat} (h : zok x o f g) : ∃ y, o = some y := by
  unfold zok at h
  split at h
  · obtain ⟨⟨z, fs, h1, -⟩, -⟩ := h
    exact ⟨_, h1⟩
  · obtain ⟨⟨z, dv, u, h1, -⟩, -⟩ := h
    exact ⟨_, h1⟩
theorem zR_set {sh : Nat → Option zsh} {S : am_S} {H H1 : hp} {c : Nat} {x : zsh} {y : am_C} (h : zR sh S H) (hc : c ≠ 0) (hx : sh c = some x) (hn : zok x (some y) (H1.1 c) (H1.2 c)) (ho : ∀ k, k ≠ c → H1.1 k = H.1 k ∧ H1.2 k = H.2 k) : zR sh (am_set S c y) H1 ∧ zkeep sh S (am_set S c y) := by
  obtain ⟨c0, rfl⟩ : ∃ c0, c = c0 + 1 := ⟨c - 1, by omega⟩
  obtain ⟨y0, hy0⟩ := zok_some (h _ _ hx)
  have hS : ∀ k, k ≠ c0 + 1 → am_nth (am_set S (c0 + 1) y) k = am_nth S k := by
    intro k hk
    cases k with
    | zero => rfl
    | succ k =>
      rw [am_nth_set y hy0, if_neg (by omega)]
  refine ⟨fun k x' hk => ?_, rfl, rfl, fun k hk => ?_⟩
  · by_cases e : k = c0 + 1
    · subst e
      rw [hx] at hk
      cases hk
      rw [am_nth_set y hy0, if_pos rfl]
      exact hn
    · rw [hS k e, (ho k e).1, (ho k e).2]
      exact h k x' hk
  · refine hS k (fun e => ?_)
    rw [e, hx] at hk
    cases hk
section HG
variable {sh : Nat → Option zsh} {d : Nat} {M : am_M} {pc : Nat} {l : zl} {st : List zv} {H : hp} {Q : Option zv → hp → Prop}
theorem h_same {pc' : Nat} {st' : List zv} (h : ∀ (S : am_S) (lc : am_L) (Q' : Option Value → am_S → Nat → Nat → Prop), zR sh S H → am_G at_P at_cl at_ty d M pc' lc (st'.map zc) S Q' → am_G at_P at_cl at_ty d M pc lc (st.map zc) S Q') (k : hG sh d M pc' l st' H Q) : hG sh d M pc l st H Q := fun S lc hS hl => h S lc _ hS (k S lc hS hl)
theorem h_wr {pc' : Nat} {st' : List zv} {H1 : hp} (h : ∀ (S : am_S), zR sh S H → ∃ S1 : am_S, zR sh S1 H1 ∧ zkeep sh S S1 ∧ ∀ (lc : am_L) (Q' : Option Value → am_S → Nat → Nat → Prop), am_G at_P at_cl at_ty d M pc' lc (st'.map zc) S1 Q' → am_G at_P at_cl at_ty d M pc lc (st.map zc) S Q') (k : hG sh d M pc' l st' H1 Q) : hG sh d M pc l st H Q := by
  intro S lc hS hl
  obtain ⟨S1, h1, h2, h3⟩ := h S hS
  refine h3 lc _ ?_
  obtain ⟨f, r, S', c, n, e1, e2, e3, r', H', e4, e5, e6, e7⟩ := k S1 lc h1 hl
  exact ⟨f, r, S', c, n, e1, e2, e3, r', H', e4, e5, zkeep_tr h2 e6, e7⟩
/-- less is wanted -/
theorem h_mono {Q' : Option zv → hp → Prop} (h : hG sh d M pc l st H Q') (k : ∀ r H', Q' r H' → Q r H') : hG sh d M pc l st H Q := by
  intro S lc hS hl
  obtain ⟨f, r, S', c, n, e1, e2, e3, r', H', e4, e5, e6, e7⟩ := h S lc hS hl
  exact ⟨f, r, S', c, n, e1, e2, e3, r', H', e4, e5, e6, k _ _ e7⟩
/-- locals may be forgotten -/
def zpick (l : zl) : List Nat → zl
  | [] => []
  | i :: ks => match am_find i l with
    | some v => (i, v) :: zpick l ks
    | none => zpick l ks
theorem zpick_mem {l : zl} {q : Nat × zv} : ∀ {ks : List Nat}, q ∈ zpick l ks → q ∈ l
  | [], h => by cases h
  | i :: ks, h => by
    unfold zpick at h
    split at h
    · rename_i v e
      rcases List.mem_cons.mp h with rfl | h
      · exact am_find_mem e
      · exact zpick_mem h
    · exact zpick_mem h
theorem h_loc (ks : List Nat) {l' : zl} (e : zpick l ks = l') (k : hG sh d M pc l' st H Q) : hG sh d M pc l st H Q := fun S lc hS hl => k S lc hS (fun q hq => hl q (zpick_mem (ks := ks) (by rw [e]; exact hq)))
/-- what is known of the heap's numbers -/
theorem h_rngo {c k ci : Nat} {ds : List zsd} {ty : FieldType} (hs : sh c = some (.inl (ci, ds))) (hk : ds[k]? = some (.inl ty)) (kk : zrng ty (H.1 c k) → hG sh d M pc l st H Q) : hG sh d M pc l st H Q := fun S lc hS hl => kk ((hS c _ hs).2 k ty hk) S lc hS hl
theorem h_rnga {c j n : Nat} {ty : FieldType} (hs : sh c = some (.inr (ty, n))) (hj : j < n) (kk : zrng ty (H.1 c j) → hG sh d M pc l st H Q) : hG sh d M pc l st H Q := fun S lc hS hl => kk ((hS c _ hs).2 j hj) S lc hS hl
/-- what is known of all of them -/
def zrg (sh : Nat → Option zsh) (H : hp) : Prop := (∀ (c ci k : Nat) (ds : List zsd) (ty : FieldType), sh c = some (.inl (ci, ds)) → ds[k]? = some (.inl ty) → zrng ty (H.1 c k)) ∧ ∀ (c j n : Nat) (ty : FieldType), sh c = some (.inr (ty, n)) → j < n → zrng ty (H.1 c j)
theorem h_rng (kk : zrg sh H → hG sh d M pc l st H Q) : hG sh d M pc l st H Q := fun S lc hS hl => kk ⟨fun c ci k ds ty hs hk => (hS c _ hs).2 k ty hk, fun c j n ty hs hj => (hS c _ hs).2 j hj⟩ S lc hS hl
/-- behind a run the ranges hold, too -/
theorem h_pr (k : hG sh d M pc l st H (fun r H' => zrg sh H' → Q r H')) : hG sh d M pc l st H Q := by
  intro S lc hS hl
  obtain ⟨f, r, S', c, n, e1, e2, e3, r', H', e4, e5, e6, e7⟩ := k S lc hS hl
  exact ⟨f, r, S', c, n, e1, e2, e3, r', H', e4, e5, e6, e7 ⟨fun c ci k ds ty hs hk => (e5 c _ hs).2 k ty hk, fun c j n ty hs hj => (e5 c _ hs).2 j hj⟩⟩
theorem h_pure {ins : Instr} {len pc' : Nat} {l' : zl} {st' : List zv} (hf : am_find pc M.2.2.2.2.2.1 = some (ins, len)) (h : zpure M.2.2.1 ins len pc l st = some (pc', l', st')) (k : hG sh d M pc' l' st' H Q) : hG sh d M pc l st H Q := by
  intro S lc hS hl
  obtain ⟨lc', h1, h2⟩ := zpure_ok hl h
  refine G_ps 1 (pc' := pc') (l' := lc') (st' := st'.map zc) ?_ (k S lc' hS h2)
  unfold am_ps
  rw [hf]
  dsimp only
  rw [h1]
  rfl
/-- two ways on -/
theorem h_br {ins : Instr} {st0 : List zv} {c : Prop} [Decidable c] {t1 t2 : Nat} (hf : am_find pc M.2.2.2.2.2.1 = some (ins, 3)) (hp : ∀ lc : am_L, am_pure M.2.2.1 ins 3 pc lc (st0.map zc) = some (if c then t1 else t2, lc, st.map zc)) (k1 : c → hG sh d M t1 l st H Q) (k2 : ¬ c → hG sh d M t2 l st H Q) : hG sh d M pc l st0 H Q := by
  have e : ∀ (S : am_S) (lc : am_L), am_ps M 1 pc lc (st0.map zc) = some (if c then t1 else t2, lc, st.map zc) := by
    intro S lc
    unfold am_ps
    rw [hf]
    dsimp only
    rw [hp]
    rfl
  by_cases h : c
  · intro S lc hS hl
    refine G_ps 1 (e S lc) ?_
    rw [if_pos h]
    exact k1 h S lc hS hl
  · intro S lc hS hl
    refine G_ps 1 (e S lc) ?_
    rw [if_neg h]
    exact k2 h S lc hS hl
end HG
