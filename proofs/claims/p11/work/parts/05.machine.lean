/-! THE SMALL MACHINE: bytecode over a store of numbered cells. A reference is the number of a cell. Everything later is said of its runs. -/
/-- what a cell holds: an array (type of its places, how many, what they hold at first, what was laid since, the newest first) or an object (number of its class, its fields) -/
abbrev am_E : Type := (FieldType × Nat × Value × List (Nat × Value)) ⊕ (Nat × List Value)
/-- a cell: how many slots it counts; what it holds, if that is known -/
abbrev am_C : Type := Nat × Option am_E
/-- a store: the cell of number 0 (the script), how many others there are, these (1, 2 ..), the newest first -/
abbrev am_S : Type := am_C × Nat × List am_C
def am_nth (S : am_S) : Nat → Option am_C
  | 0 => some S.1
  | k + 1 => if k < S.2.1 then S.2.2[S.2.1 - 1 - k]? else none
def am_set (S : am_S) (a : Nat) (x : am_C) : am_S := (S.1, S.2.1, S.2.2.set (S.2.1 - a) x)
def am_add (S : am_S) (x : am_C) : am_S := (S.1, S.2.1 + 1, x :: S.2.2)
def am_len (S : am_S) : Nat := S.2.1 + 1
theorem am_nth_lt {S : am_S} {k : Nat} {x : am_C} (h : am_nth S (k + 1) = some x) : k < S.2.1 ∧ S.2.2[S.2.1 - 1 - k]? = some x := by
  have h : (if k < S.2.1 then S.2.2[S.2.1 - 1 - k]? else none) = some x := h
  by_cases e : k < S.2.1
  · rw [if_pos e] at h
    exact ⟨e, h⟩
  · rw [if_neg e] at h
    cases h
theorem am_nth_set {S : am_S} {k : Nat} {x0 : am_C} (x : am_C) (h : am_nth S (k + 1) = some x0) (j : Nat) : am_nth (am_set S (k + 1) x) (j + 1) = if j = k then some x else am_nth S (j + 1) := by
  obtain ⟨h1, h2⟩ := am_nth_lt h
  have h3 : S.2.1 - 1 - k < S.2.2.length := (List.getElem?_eq_some_iff.mp h2).1
  show (if j < S.2.1 then (S.2.2.set (S.2.1 - (k + 1)) x)[S.2.1 - 1 - j]? else none) = if j = k then some x else (if j < S.2.1 then S.2.2[S.2.1 - 1 - j]? else none)
  have e : S.2.1 - (k + 1) = S.2.1 - 1 - k := by omega
  rw [e]
  by_cases hj : j < S.2.1
  · rw [if_pos hj, if_pos hj]
    by_cases hk : j = k
    · subst hk
      rw [if_pos rfl, List.getElem?_set_self h3]
    · rw [if_neg hk, List.getElem?_set_ne (by omega)]
  · rw [if_neg hj, if_neg hj, if_neg (by omega)]
theorem am_nth_add (S : am_S) (x : am_C) (j : Nat) : am_nth (am_add S x) (j + 1) = if j = S.2.1 then some x else am_nth S (j + 1) := by
  show (if j < S.2.1 + 1 then (x :: S.2.2)[S.2.1 + 1 - 1 - j]? else none) = if j = S.2.1 then some x else (if j < S.2.1 then S.2.2[S.2.1 - 1 - j]? else none)
  by_cases h : j = S.2.1
  · subst h
    rw [if_pos (Nat.lt_succ_self _), if_pos rfl, show S.2.1 + 1 - 1 - S.2.1 = 0 by omega]
    rfl
  · rw [if_neg h]
    by_cases h2 : j < S.2.1
    · rw [if_pos (by omega), if_pos h2, show S.2.1 + 1 - 1 - j = (S.2.1 - 1 - j) + 1 by omega]
      rfl
    · rw [if_neg (by omega), if_neg h2]
/-- the locals that are known -/
abbrev am_L : Type := List (Nat × Value)
/-- what a method's entries name: fields read (entry, class, place), fields written, classes made (entry, class), classes whose arrays are made (entry, name), numbers (entry, value), methods called (entry, which) -/
abbrev am_T : Type := (List (Nat × Nat × Nat)) × (List (Nat × Nat × Nat)) × (List (Nat × Nat)) × (List (Nat × String)) × (List (Nat × Value)) × (List (Nat × Nat))
/-- a method: its name, code, locals, answer's type, table, instructions, how many parameters, its class -/
abbrev am_M : Type := MethodName × ByteArray × Nat × Option FieldType × am_T × (List (Nat × Instr × Nat)) × Nat × Nat
def am_find {α : Type} (k : Nat) : List (Nat × α) → Option α
  | [] => none
  | q :: l => bif Nat.beq q.1 k then some q.2 else am_find k l
theorem am_find_cons {α : Type} (k : Nat) (q : Nat × α) (l : List (Nat × α)) : am_find k (q :: l) = if q.1 = k then some q.2 else am_find k l := by
  show (bif Nat.beq q.1 k then some q.2 else am_find k l) = _
  by_cases e : q.1 = k
  · have h : Nat.beq q.1 k = true := by
      rw [e]
      exact Nat.beq_refl k
    rw [if_pos e, h]
    rfl
  · rw [if_neg e]
    have h : Nat.beq q.1 k = false := by
      cases h : Nat.beq q.1 k
      · rfl
      · exact absurd (Nat.eq_of_beq_eq_true h) e
    rw [h]
    rfl
theorem am_find_mem {α : Type} {k : Nat} {v : α} : ∀ {l : List (Nat × α)}, am_find k l = some v → (k, v) ∈ l
  | [], h => by simp [am_find] at h
  | q :: l, h => by
    rw [am_find_cons] at h
    by_cases e : q.1 = k
    · rw [if_pos e] at h
      cases h
      rw [← e]
      exact List.mem_cons_self
    · rw [if_neg e] at h
      exact List.mem_cons_of_mem _ (am_find_mem h)
/-- a local is laid -/
def am_st1 (i : Nat) (v : Value) (l : am_L) : am_L := (i, v) :: l.filter (fun q => !(q.1 == i) && !(q.1 + 1 == i && q.2.category == 2))
def am_st2 (i : Nat) (v : Value) (l : am_L) : am_L := (i, v) :: l.filter (fun q => !(q.1 == i) && (!(q.1 == i + 1) && !(q.1 + 1 == i && q.2.category == 2)))
def am_tgt (pc : Nat) (off : Int) : Option Nat := match (pc : Int) + off with
  | .ofNat t => some t
  | .negSucc _ => none
theorem am_tgt_of {pc t : Nat} {off : Int} (h : am_tgt pc off = some t) : (pc : Int) + off = (t : Int) := by
  unfold am_tgt at h
  split at h
  · rename_i t' e
    cases h
    exact e
  · cases h
/-- what an array holds -/
def am_fn (d : Value) (u : List (Nat × Value)) : Nat → Value := fun j => match am_find j u with
  | some v => v
  | none => d
theorem am_fn_nil (d : Value) : am_fn d [] = fun _ => d := rfl
theorem am_fn_cons (d : Value) (k : Nat) (v : Value) (u : List (Nat × Value)) : am_fn d ((k, v) :: u) = updV (am_fn d u) k v := by
  funext j
  unfold am_fn updV
  rw [am_find_cons]
  by_cases h : j = k
  · rw [if_pos h.symm, if_pos h]
  · rw [if_neg (fun q => h q.symm), if_neg h]
/-- an array's place is laid. The cell of number 0 (the script) is never written -/
def am_seta (S : am_S) (a : Nat) (i : Int32) (ty : FieldType) (v : Value) : Option am_S := match a, am_nth S a with
  | 0, _ => none
  | a + 1, some (z, some (.inl (t, n, d, u))) => if t = ty ∧ ¬ (i < 0 ∨ n ≤ i.toNatClampNeg) then some (am_set S (a + 1) (z, some (.inl (t, n, d, (i.toNatClampNeg, v) :: u)))) else none
  | _, _ => none
def am_geta (S : am_S) (a : Nat) (i : Int32) (ty : FieldType) : Option Value := match am_nth S a with
  | some (_, some (.inl (t, n, d, u))) => if t = ty ∧ ¬ (i < 0 ∨ n ≤ i.toNatClampNeg) then some (am_fn d u i.toNatClampNeg) else none
  | _ => none
