/-! runs of the small machine: calls, answers -/
def am_ret (ret : Option FieldType) (ins : Instr) (len : Nat) (st : List Value) : Option (Option Value) := match ins, len, st with
  | .ireturn, 1, [.int x] => (match ret with
    | some .int => some (some (.int x))
    | some .boolean => if x = 0 ∨ x = 1 then some (some (.int x)) else none
    | _ => none)
  | .lreturn, 1, [.long x] => (match ret with
    | some .long => some (some (.long x))
    | _ => none)
  | .areturn, 1, [.ref a] => (match ret with
    | some (.object _) => some (some (.ref a))
    | _ => none)
  | .return_, 1, [] => (match ret with
    | none => some none
    | _ => none)
  | _, _, _ => none
/-- how many words a stack takes -/
def am_words (st : List Value) : Nat := (st.map fun v => v.category).sum
/-- the JDK's own methods that are called: 0 Object(), 1 max, 2 min, 3 arraycopy -/
def am_lib (j : Nat) (ins : Instr) (st : List Value) (S : am_S) : Option (List Value × am_S) := match j, ins, st with
  | 0, .invokespecial _, .ref _ :: st => if am_words st ≤ 8 then some (st, S) else none
  | 1, .invokestatic _, .int y :: .int x :: st => if am_words st ≤ 8 then some (.int (if x < y then y else x) :: st, S) else none
  | 2, .invokestatic _, .int y :: .int x :: st => if am_words st ≤ 8 then some (.int (if y < x then y else x) :: st, S) else none
  | 3, .invokestatic _, .int n :: .int dp :: .ref (j1 + 1) :: .int sp :: .ref (j0 + 1) :: st => (match am_nth S (j0 + 1), am_nth S (j1 + 1) with
    | some (_, some (.inl (.int, n0, df, uf))), some (z1, some (.inl (.int, n1, dg, ug))) => if am_words st ≤ 8 ∧ ¬ sp < 0 ∧ ¬ dp < 0 ∧ ¬ n < 0 ∧ sp.toNatClampNeg + n.toNatClampNeg ≤ n0 ∧ dp.toNatClampNeg + n.toNatClampNeg ≤ n1 ∧ (List.range n.toNatClampNeg).all (fun q => match am_fn df uf (sp.toNatClampNeg + q) with | .int _ => true | _ => false) = true then some (st, am_set S (j1 + 1) (z1, some (.inl (.int, n1, dg, am_cpy (am_fn df uf) sp.toNatClampNeg dp.toNatClampNeg n.toNatClampNeg ug)))) else none
    | _, _ => none)
  | _, _, _ => none
/-- a call of one of the methods in P: which, its arguments, the stack below -/
def am_own (P : List am_M) (j : Nat) (ins : Instr) (st : List Value) (S : am_S) : Option (am_M × List Value × List Value) := match P[j]? with
  | none => none
  | some M => if st.length < M.2.2.2.2.2.2.1 then none else (match ins, st.drop M.2.2.2.2.2.2.1 with
    | .invokestatic _, rest => if M.2.2.2.2.2.2.2 = 1000 ∧ am_words rest ≤ 8 ∧ am_words (st.take M.2.2.2.2.2.2.1).reverse ≤ M.2.2.1 then some (M, (st.take M.2.2.2.2.2.2.1).reverse, rest) else none
    | .invokespecial _, .ref b :: rest => if M.2.2.2.2.2.2.2 = 2000 ∧ am_words rest ≤ 8 ∧ am_words (st.take M.2.2.2.2.2.2.1).reverse + 1 ≤ M.2.2.1 then some (M, .ref b :: (st.take M.2.2.2.2.2.2.1).reverse, rest) else none
    | .invokevirtual _, .ref b :: rest => (match am_nth S b with
      | some (_, some (.inr (ci, _))) => if ci = M.2.2.2.2.2.2.2 ∧ am_words rest ≤ 8 ∧ am_words (st.take M.2.2.2.2.2.2.1).reverse + 1 ≤ M.2.2.1 then some (M, .ref b :: (st.take M.2.2.2.2.2.2.1).reverse, rest) else none
      | _ => none)
    | _, _ => none)
def am_cix (ins : Instr) (len : Nat) : Option Nat := match ins, len with
  | .invokestatic i, 3 => some i
  | .invokespecial i, 3 => some i
  | .invokevirtual i, 3 => some i
  | _, _ => none
/-- a run: fuel, depth, method, place, locals, stack, store: the answer, the store, how many cells and slots are new -/
def am_run (P : List am_M) (cl : List vw_C) (tyL : List (List FieldType)) : Nat → Nat → am_M → Nat → am_L → List Value → am_S → Option (Option Value × am_S × Nat × Nat)
  | 0, _, _, _, _, _, _ => none
  | f + 1, d, M, pc, l, st, S => match am_find pc M.2.2.2.2.2.1 with
    | none => none
    | some (ins, len) => match am_pure M.2.2.1 ins len pc l st with
      | some (pc', l', st') => am_run P cl tyL f d M pc' l' st' S
      | none => match am_heap cl tyL M.2.2.2.2.1 ins len pc st S with
        | some (pc', st', S', dc, ds) => (am_run P cl tyL f d M pc' l st' S').map fun q => (q.1, q.2.1, dc + q.2.2.1, ds + q.2.2.2)
        | none => match am_ret M.2.2.2.1 ins len st with
          | some r => some (r, S, 0, 0)
          | none => match d with
            | 0 => none
            | d' + 1 => match am_cix ins len with
              | none => none
              | some i => match am_find i M.2.2.2.2.1.2.2.2.2.2 with
                | none => none
                | some j => if j < 4 then (match am_lib j ins st S with
                    | some (st', S') => am_run P cl tyL f (d' + 1) M (pc + 3) l st' S'
                    | none => none)
                  else match am_own P (j - 4) ins st S with
                    | none => none
                    | some (M', as, rest) => match am_run P cl tyL f d' M' 0 (lv_args 0 as) [] S with
                      | none => none
                      | some (r, S1, c1, n1) => (am_run P cl tyL f (d' + 1) M (pc + 3) l (r.toList ++ rest) S1).map fun q => (q.1, q.2.1, c1 + q.2.2.1, n1 + q.2.2.2)
theorem am_words_cv (ad : Nat → Nat) (st : List Value) : ((st.map (am_cv ad)).map fun v => v.category).sum = am_words st := by
  unfold am_words
  rw [List.map_map]
  congr 1
  apply List.map_congr_left
  intro v _
  exact am_cv_cat ad v
theorem am_args_cv (ad : Nat → Nat) : ∀ (vs : List Value) (i : Nat), lv_args i (vs.map (am_cv ad)) = am_cl ad (lv_args i vs)
  | [], _ => rfl
  | v :: vs, i => by
    show (i, am_cv ad v) :: lv_args (if (am_cv ad v).category = 2 then i + 2 else i + 1) (vs.map (am_cv ad)) = (i, am_cv ad v) :: am_cl ad (lv_args _ vs)
    rw [am_cv_cat, am_args_cv ad vs]
