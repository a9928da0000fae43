/-! more rules: cells behind a write, what stays, bytes and longs, switches, runs that are known -/
theorem am_nth_self {S : am_S} {k : Nat} {x0 x : am_C} (h : am_nth S (k + 1) = some x0) : am_nth (am_set S (k + 1) x) (k + 1) = some x := by
  rw [am_nth_set x h, if_pos rfl]
theorem am_nth_ne {S : am_S} {a k : Nat} {x0 x y : am_C} (h : am_nth S (a + 1) = some x0) (hne : k ≠ a) (hk : am_nth S (k + 1) = some y) : am_nth (am_set S (a + 1) x) (k + 1) = some y := by
  rw [am_nth_set x h, if_neg hne]
  exact hk
/-- the same but for the cells T -/
def am_same (T : List Nat) (S S' : am_S) : Prop := S'.1 = S.1 ∧ S'.2.1 = S.2.1 ∧ ∀ k, k ∉ T → am_nth S' k = am_nth S k
theorem am_same_rf (T : List Nat) (S : am_S) : am_same T S S := ⟨rfl, rfl, fun _ _ => rfl⟩
theorem am_same_set {T : List Nat} {S S' : am_S} {a : Nat} {x0 x : am_C} (h : am_same T S S') (hk : am_nth S' (a + 1) = some x0) (ha : a + 1 ∈ T) : am_same T S (am_set S' (a + 1) x) := by
  refine ⟨h.1, h.2.1, fun k hn => ?_⟩
  cases k with
  | zero =>
    show some S'.1 = some S.1
    rw [h.1]
  | succ k =>
    rw [am_nth_set x hk, if_neg (fun e => hn (by rw [e]; exact ha))]
    exact h.2.2 _ hn
section GM
variable {P : List am_M} {cl : List vw_C} {tyL : List (List FieldType)} {d : Nat} {M : am_M} {pc : Nat} {l : am_L} {st : List Value} {S : am_S} {Q : Option Value → am_S → Nat → Nat → Prop}
theorem G_lld {a z n : Nat} {dv : Value} {u : List (Nat × Value)} {i : Int32} {st : List Value} (hf : am_find pc M.2.2.2.2.2.1 = some (.laload, 1)) (hS : am_nth S a = some (z, some (.inl (.long, n, dv, u)))) (hi : ¬ (i < 0 ∨ n ≤ i.toNatClampNeg)) (kk : am_G P cl tyL d M (pc + 1) l (am_fn dv u i.toNatClampNeg :: st) S Q) : am_G P cl tyL d M pc l (.int i :: .ref a :: st) S Q := by
  refine G_heap0 hf rfl ?_ kk
  show (am_geta S a i .long).map (fun v => (pc + 1, v :: st, S, 0, 0)) = _
  unfold am_geta
  rw [hS]
  show Option.map _ (if _ then _ else _) = _
  rw [if_pos ⟨rfl, hi⟩]
  rfl
theorem G_lst {a z n : Nat} {dv : Value} {u : List (Nat × Value)} {i : Int32} {x : Int64} {st : List Value} (hf : am_find pc M.2.2.2.2.2.1 = some (.lastore, 1)) (hS : am_nth S (a + 1) = some (z, some (.inl (.long, n, dv, u)))) (hi : ¬ (i < 0 ∨ n ≤ i.toNatClampNeg)) (kk : am_G P cl tyL d M (pc + 1) l st (am_set S (a + 1) (z, some (.inl (.long, n, dv, (i.toNatClampNeg, .long x) :: u)))) Q) : am_G P cl tyL d M pc l (.long x :: .int i :: .ref (a + 1) :: st) S Q := by
  refine G_heap0 hf rfl ?_ kk
  show (am_seta S (a + 1) i .long (.long x)).map (fun S' => (pc + 1, st, S', 0, 0)) = _
  unfold am_seta
  rw [hS]
  show Option.map _ (if _ then _ else _) = _
  rw [if_pos ⟨rfl, hi⟩]
  rfl
theorem G_bst {a z n : Nat} {dv : Value} {u : List (Nat × Value)} {i x : Int32} {st : List Value} (hf : am_find pc M.2.2.2.2.2.1 = some (.bastore, 1)) (hS : am_nth S (a + 1) = some (z, some (.inl (.byte, n, dv, u)))) (hi : ¬ (i < 0 ∨ n ≤ i.toNatClampNeg)) (kk : am_G P cl tyL d M (pc + 1) l st (am_set S (a + 1) (z, some (.inl (.byte, n, dv, (i.toNatClampNeg, narrow .byte (.int x)) :: u)))) Q) : am_G P cl tyL d M pc l (.int x :: .int i :: .ref (a + 1) :: st) S Q := by
  refine G_heap0 hf rfl ?_ kk
  have h1 : am_seta S (a + 1) i .byte (narrow .byte (.int x)) = some (am_set S (a + 1) (z, some (.inl (.byte, n, dv, (i.toNatClampNeg, narrow .byte (.int x)) :: u)))) := by
    unfold am_seta
    rw [hS]
    show (if _ then _ else _) = _
    rw [if_pos ⟨rfl, hi⟩]
  show (match am_seta S (a + 1) i .byte (narrow .byte (.int x)) with
    | some S' => some (pc + 1, st, S', 0, 0)
    | none => (am_seta S (a + 1) i .boolean (narrow .boolean (.int x))).map fun S' => (pc + 1, st, S', 0, 0)) = _
  rw [h1]
/-- a switch whose number lies outside -/
theorem G_swo {dflt lo hi : Int} {offs : Array Int} {len t : Nat} {x : Int32} {st : List Value} (hf : am_find pc M.2.2.2.2.2.1 = some (.tableswitch dflt lo hi offs, len)) (h : x.toInt < lo ∨ hi < x.toInt) (ht : am_tgt pc dflt = some t) (kk : am_G P cl tyL d M t l st S Q) : am_G P cl tyL d M pc l (.int x :: st) S Q := by
  refine G_ps 1 (pc' := t) (l' := l) (st' := st) ?_ kk
  unfold am_ps
  rw [hf]
  dsimp only
  have h1 : am_pure M.2.2.1 (.tableswitch dflt lo hi offs) len pc l (.int x :: st) = some (t, l, st) := by
    show (if x.toInt < lo ∨ hi < x.toInt then (am_tgt pc dflt).map fun t => (t, l, st) else _) = _
    rw [if_pos h, ht]
    rfl
  rw [h1]
  rfl
/-- a run that is done without the script -/
theorem G_closed {f : Nat} {L : Nat × List am_C} {r : Option Value} {S' : am_S} {c n : Nat} (h : am_run P cl tyL f d M pc l st ((0, none), L) = some (r, S', c, n)) (c0 : am_C) (k : Q r (c0, S'.2) c n) : am_G P cl tyL d M pc l st (c0, L) Q := ⟨f, r, _, c, n, (am_run0 c0 f d M pc l st L r S' c n h).2, k⟩
end GM
theorem am_sm {x : Int32} (n : Nat) (hn : n < 2 ^ 31) (h : ¬ (x.toInt < 0 ∨ (n : Int) < x.toInt)) : ∃ k : Nat, k ≤ n ∧ x = nI k := by
  have h0 : ¬ x < 0 := fun q => h (Or.inl (by
    have := Int32.lt_iff_toInt_lt.mp q
    simpa using this))
  refine nI_of2 (M := nI n) (nI_toInt hn) h0 ?_
  rw [Int32.le_iff_toInt_le, nI_toInt hn]
  exact Int.not_lt.mp (fun q => h (Or.inr q))
