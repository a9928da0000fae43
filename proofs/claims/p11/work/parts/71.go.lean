/-! RULES FOR RUNS with unknown numbers in them: am_G says that a run from here ends, and how -/
def am_G (P : List am_M) (cl : List vw_C) (tyL : List (List FieldType)) (d : Nat) (M : am_M) (pc : Nat) (l : am_L) (st : List Value) (S : am_S) (Q : Option Value → am_S → Nat → Nat → Prop) : Prop := ∃ (f : Nat) (r : Option Value) (S' : am_S) (c n : Nat), am_run P cl tyL f d M pc l st S = some (r, S', c, n) ∧ Q r S' c n
section GO
variable {P : List am_M} {cl : List vw_C} {tyL : List (List FieldType)} {d : Nat} {M : am_M} {pc : Nat} {l : am_L} {st : List Value} {S : am_S} {Q : Option Value → am_S → Nat → Nat → Prop}
theorem G_one {f0 pc' : Nat} {l' : am_L} {st' : List Value} {S' : am_S} {dc ds : Nat} (h : am_one P cl tyL f0 d M pc l st S = some (pc', l', st', S', dc, ds)) (k : am_G P cl tyL d M pc' l' st' S' (fun r S2 c n => Q r S2 (dc + c) (ds + n))) : am_G P cl tyL d M pc l st S Q := by
  obtain ⟨f, r, S2, c, n, h1, h2⟩ := k
  have h3 := am_one_le h f
  have h4 := am_run_le h1 f0
  rw [Nat.add_comm f f0] at h4
  exact ⟨_, r, S2, _, _, am_run_one h3 h4, h2⟩
theorem G_many {f0 : Nat} : ∀ (m : Nat) {pc : Nat} {l : am_L} {st : List Value} {S : am_S} {Q : Option Value → am_S → Nat → Nat → Prop} {pc' : Nat} {l' : am_L} {st' : List Value} {S' : am_S} {dc ds : Nat}, am_many P cl tyL f0 d M m pc l st S = some (pc', l', st', S', dc, ds) → am_G P cl tyL d M pc' l' st' S' (fun r S2 c n => Q r S2 (dc + c) (ds + n)) → am_G P cl tyL d M pc l st S Q := by
  intro m
  induction m with
  | zero =>
    intro pc l st S Q pc' l' st' S' dc ds h k
    cases h
    obtain ⟨f, r, S2, c, n, h1, h2⟩ := k
    rw [Nat.zero_add, Nat.zero_add] at h2
    exact ⟨f, r, S2, c, n, h1, h2⟩
  | succ m ih =>
    intro pc l st S Q pc' l' st' S' dc ds h k
    unfold am_many at h
    split at h
    · cases h
    · rename_i pc1 l1 st1 S1 d1 n1 ho
      split at h
      · cases h
      · rename_i pc2 l2 st2 S2 d2 n2 hm
        cases h
        refine G_one ho (ih hm ?_)
        obtain ⟨f, r, S3, c, n, h1, h2⟩ := k
        rw [Nat.add_assoc, Nat.add_assoc] at h2
        exact ⟨f, r, S3, c, n, h1, h2⟩
/-- steps that touch no store -/
def am_ps (M : am_M) : Nat → Nat → am_L → List Value → Option (Nat × am_L × List Value)
  | 0, pc, l, st => some (pc, l, st)
  | n + 1, pc, l, st => match am_find pc M.2.2.2.2.2.1 with
    | none => none
    | some (ins, len) => match am_pure M.2.2.1 ins len pc l st with
      | none => none
      | some (pc', l', st') => am_ps M n pc' l' st'
theorem G_ps : ∀ (m : Nat) {pc : Nat} {l : am_L} {st : List Value} {pc' : Nat} {l' : am_L} {st' : List Value}, am_ps M m pc l st = some (pc', l', st') → am_G P cl tyL d M pc' l' st' S Q → am_G P cl tyL d M pc l st S Q := by
  intro m
  induction m with
  | zero =>
    intro pc l st pc' l' st' h k
    cases h
    exact k
  | succ m ih =>
    intro pc l st pc' l' st' h k
    unfold am_ps at h
    split at h
    · cases h
    · rename_i ins len hins
      split at h
      · cases h
      · rename_i pc1 l1 st1 hp
        have ho : am_one P cl tyL 0 d M pc l st S = some (pc1, l1, st1, S, 0, 0) := by
          unfold am_one
          rw [hins]
          dsimp only
          rw [hp]
        refine G_one ho ?_
        obtain ⟨f, r, S3, c, n, h1, h2⟩ := ih h k
        exact ⟨f, r, S3, c, n, h1, by show Q r S3 (0 + c) (0 + n); rw [Nat.zero_add, Nat.zero_add]; exact h2⟩
theorem G_heap {ins : Instr} {len pc' dc ds : Nat} {st' : List Value} {S' : am_S} (hf : am_find pc M.2.2.2.2.2.1 = some (ins, len)) (hp : am_pure M.2.2.1 ins len pc l st = none) (hh : am_heap cl tyL M.2.2.2.2.1 ins len pc st S = some (pc', st', S', dc, ds)) (k : am_G P cl tyL d M pc' l st' S' (fun r S2 c n => Q r S2 (dc + c) (ds + n))) : am_G P cl tyL d M pc l st S Q := by
  refine G_one (f0 := 0) ?_ k
  unfold am_one
  rw [hf]
  dsimp only
  rw [hp]
  dsimp only
  rw [hh]
theorem G_heap0 {ins : Instr} {len pc' : Nat} {st' : List Value} {S' : am_S} (hf : am_find pc M.2.2.2.2.2.1 = some (ins, len)) (hp : am_pure M.2.2.1 ins len pc l st = none) (hh : am_heap cl tyL M.2.2.2.2.1 ins len pc st S = some (pc', st', S', 0, 0)) (k : am_G P cl tyL d M pc' l st' S' Q) : am_G P cl tyL d M pc l st S Q := by
  refine G_heap hf hp hh ?_
  obtain ⟨f, r, S3, c, n, h1, h2⟩ := k
  exact ⟨f, r, S3, c, n, h1, by show Q r S3 (0 + c) (0 + n); rw [Nat.zero_add, Nat.zero_add]; exact h2⟩
/-- getfield -/
theorem G_get {i ci k a z : Nat} {fs : List Value} {v : Value} {st : List Value} (hf : am_find pc M.2.2.2.2.2.1 = some (.getfield i, 3)) (hi : am_find i M.2.2.2.2.1.1 = some (ci, k)) (hS : am_nth S a = some (z, some (.inr (ci, fs)))) (hv : fs[k]? = some v) (kk : am_G P cl tyL d M (pc + 3) l (v :: st) S Q) : am_G P cl tyL d M pc l (.ref a :: st) S Q := by
  refine G_heap0 hf rfl ?_ kk
  have h1 : am_getf S a ci k = some v := by
    unfold am_getf
    rw [hS]
    show (if ci = ci then _ else _) = _
    rw [if_pos rfl, hv]
  show (match am_find i M.2.2.2.2.1.1 with
    | some (ci, k) => (am_getf S a ci k).map fun v => (pc + 3, v :: st, S, 0, 0)
    | none => none) = _
  rw [hi]
  dsimp only
  rw [h1]
  rfl
/-- putfield -/
theorem G_put {i ci k a z : Nat} {fs : List Value} {tys : List FieldType} {v : Value} {st : List Value} (hf : am_find pc M.2.2.2.2.2.1 = some (.putfield i, 3)) (hi : am_find i M.2.2.2.2.1.2.1 = some (ci, k)) (hS : am_nth S a = some (z, some (.inr (ci, fs)))) (hty : tyL[ci]? = some tys) (hok : am_okv (tys.getD k .int) v = true) (kk : am_G P cl tyL d M (pc + 3) l st (am_set S a (z, some (.inr (ci, fs.set k v)))) Q) : am_G P cl tyL d M pc l (v :: .ref a :: st) S Q := by
  refine G_heap0 hf rfl ?_ kk
  show (match am_find i M.2.2.2.2.1.2.1 with
    | some (ci, k) => (match am_nth S a with
      | some (z, some (.inr (cj, fs))) => (match tyL[ci]? with
        | some tys => if cj = ci ∧ am_okv (tys.getD k .int) v = true then some (pc + 3, st, am_set S a (z, some (.inr (cj, fs.set k v))), 0, 0) else none
        | none => none)
      | _ => none)
    | none => none) = _
  rw [hi]
  dsimp only
  rw [hS]
  dsimp only
  rw [hty]
  dsimp only
  rw [if_pos ⟨rfl, hok⟩]
/-- a place of an int array, of a long array -/
theorem G_ild {a z n : Nat} {dv : Value} {u : List (Nat × Value)} {i : Int32} {st : List Value} (hf : am_find pc M.2.2.2.2.2.1 = some (.iaload, 1)) (hS : am_nth S a = some (z, some (.inl (.int, n, dv, u)))) (hi : ¬ (i < 0 ∨ n ≤ i.toNatClampNeg)) (kk : am_G P cl tyL d M (pc + 1) l (am_fn dv u i.toNatClampNeg :: st) S Q) : am_G P cl tyL d M pc l (.int i :: .ref a :: st) S Q := by
  refine G_heap0 hf rfl ?_ kk
  show (am_geta S a i .int).map (fun v => (pc + 1, v :: st, S, 0, 0)) = _
  unfold am_geta
  rw [hS]
  show Option.map _ (if _ then _ else _) = _
  rw [if_pos ⟨rfl, hi⟩]
  rfl
theorem G_ist {a z n : Nat} {dv : Value} {u : List (Nat × Value)} {i x : Int32} {st : List Value} (hf : am_find pc M.2.2.2.2.2.1 = some (.iastore, 1)) (hS : am_nth S (a + 1) = some (z, some (.inl (.int, n, dv, u)))) (hi : ¬ (i < 0 ∨ n ≤ i.toNatClampNeg)) (kk : am_G P cl tyL d M (pc + 1) l st (am_set S (a + 1) (z, some (.inl (.int, n, dv, (i.toNatClampNeg, .int x) :: u)))) Q) : am_G P cl tyL d M pc l (.int x :: .int i :: .ref (a + 1) :: st) S Q := by
  refine G_heap0 hf rfl ?_ kk
  show (am_seta S (a + 1) i .int (.int x)).map (fun S' => (pc + 1, st, S', 0, 0)) = _
  unfold am_seta
  rw [hS]
  show Option.map _ (if _ then _ else _) = _
  rw [if_pos ⟨rfl, hi⟩]
  rfl
theorem G_alen {a z n : Nat} {ty : FieldType} {dv : Value} {u : List (Nat × Value)} {st : List Value} (hf : am_find pc M.2.2.2.2.2.1 = some (.arraylength, 1)) (hS : am_nth S a = some (z, some (.inl (ty, n, dv, u)))) (kk : am_G P cl tyL d M (pc + 1) l (.int (Int32.ofNat n) :: st) S Q) : am_G P cl tyL d M pc l (.ref a :: st) S Q := by
  refine G_heap0 hf rfl ?_ kk
  show (match am_nth S a with
    | some (_, some (.inl (_, n, _, _))) => some (pc + 1, Value.int (Int32.ofNat n) :: st, S, 0, 0)
    | _ => none) = _
  rw [hS]
/-- an answer -/
theorem G_ret {ins : Instr} {len : Nat} {r : Option Value} (hf : am_find pc M.2.2.2.2.2.1 = some (ins, len)) (hr : am_ret M.2.2.2.1 ins len st = some r) (hp : am_pure M.2.2.1 ins len pc l st = none) (k : Q r S 0 0) : am_G P cl tyL d M pc l st S Q := by
  refine ⟨1, r, S, 0, 0, ?_, k⟩
  unfold am_run
  rw [hf]
  dsimp only
  rw [hp]
  dsimp only
  rw [am_heap_ret hr, hr]
/-- a call of one of ours -/
theorem G_call {ins : Instr} {i j : Nat} {M' : am_M} {as rest : List Value} {Q' : Option Value → am_S → Nat → Nat → Prop} (hf : am_find pc M.2.2.2.2.2.1 = some (ins, 3)) (hi : am_cix ins 3 = some i) (hj : am_find i M.2.2.2.2.1.2.2.2.2.2 = some (j + 4)) (ho : am_own P j ins st S = some (M', as, rest)) (hc : am_G P cl tyL d M' 0 (lv_args 0 as) [] S Q') (k : ∀ r S1 c1 n1, Q' r S1 c1 n1 → am_G P cl tyL (d + 1) M (pc + 3) l (r.toList ++ rest) S1 (fun r2 S2 c n => Q r2 S2 (c1 + c) (n1 + n))) : am_G P cl tyL (d + 1) M pc l st S Q := by
  obtain ⟨f, r, S1, c1, n1, h1, h2⟩ := hc
  exact G_one (am_one_call hf hi hj ho h1) (k r S1 c1 n1 h2)
end GO
